theorem dL_law_0 : decode cL_law 0 = .ok (.new 8, 3) := sorry
theorem dL_law_3 : decode cL_law 3 = .ok (.dup, 1) := sorry
theorem dL_law_4 : decode cL_law 4 = .ok (.invokespecial 22, 3) := sorry
theorem dL_law_7 : decode cL_law 7 = .ok (.astore_n 1, 1) := sorry
theorem dL_law_8 : decode cL_law 8 = .ok (.new 23, 3) := sorry
theorem dL_law_11 : decode cL_law 11 = .ok (.dup, 1) := sorry
theorem dL_law_12 : decode cL_law 12 = .ok (.invokespecial 25, 3) := sorry
theorem dL_law_15 : decode cL_law 15 = .ok (.astore_n 2, 1) := sorry
theorem dL_law_16 : decode cL_law 16 = .ok (.iconst 1, 1) := sorry
theorem dL_law_17 : decode cL_law 17 = .ok (.newarray .long, 2) := sorry
theorem dL_law_19 : decode cL_law 19 = .ok (.astore_n 3, 1) := sorry
theorem dL_law_20 : decode cL_law 20 = .ok (.iconst 0, 1) := sorry
theorem dL_law_21 : decode cL_law 21 = .ok (.istore 4, 2) := sorry
theorem dL_law_23 : decode cL_law 23 = .ok (.iload 4, 2) := sorry
theorem dL_law_25 : decode cL_law 25 = .ok (.aload_n 0, 1) := sorry
theorem dL_law_26 : decode cL_law 26 = .ok (.arraylength, 1) := sorry
theorem dL_law_27 : decode cL_law 27 = .ok (.iconst 5, 1) := sorry
theorem dL_law_28 : decode cL_law 28 = .ok (.isub, 1) := sorry
theorem dL_law_29 : decode cL_law 29 = .ok (.if_icmp .gt 1552, 3) := sorry
theorem dL_law_32 : decode cL_law 32 = .ok (.aload_n 0, 1) := sorry
theorem dL_law_33 : decode cL_law 33 = .ok (.iload 4, 2) := sorry
theorem dL_law_35 : decode cL_law 35 = .ok (.iaload, 1) := sorry
theorem dL_law_36 : decode cL_law 36 = .ok (.bipush 63, 2) := sorry
theorem dL_law_38 : decode cL_law 38 = .ok (.iand, 1) := sorry
theorem dL_law_39 : decode cL_law 39 = .ok (.tableswitch 1536 0 45 #[197, 222, 247, 260, 273, 341, 409, 458, 495, 556, 593, 630, 667, 680, 717, 730, 767, 804, 817, 854, 879, 904, 917, 942, 955, 980, 1005, 1030, 1055, 1092, 1129, 1142, 1167, 1180, 1193, 1218, 1243, 1292, 1317, 1342, 1367, 1380, 1405, 1430, 1455, 1480], 197) := sorry
theorem dL_law_236 : decode cL_law 236 = .ok (.aload_n 1, 1) := sorry
theorem dL_law_237 : decode cL_law 237 = .ok (.aload_n 0, 1) := sorry
theorem dL_law_238 : decode cL_law 238 = .ok (.iload 4, 2) := sorry
theorem dL_law_240 : decode cL_law 240 = .ok (.iconst 1, 1) := sorry
theorem dL_law_241 : decode cL_law 241 = .ok (.iadd, 1) := sorry
theorem dL_law_242 : decode cL_law 242 = .ok (.iaload, 1) := sorry
theorem dL_law_243 : decode cL_law 243 = .ok (.invokevirtual 26, 3) := sorry
theorem dL_law_246 : decode cL_law 246 = .ok (.aload_n 2, 1) := sorry
theorem dL_law_247 : decode cL_law 247 = .ok (.aload_n 0, 1) := sorry
theorem dL_law_248 : decode cL_law 248 = .ok (.iload 4, 2) := sorry
theorem dL_law_250 : decode cL_law 250 = .ok (.iconst 1, 1) := sorry
theorem dL_law_251 : decode cL_law 251 = .ok (.iadd, 1) := sorry
theorem dL_law_252 : decode cL_law 252 = .ok (.iaload, 1) := sorry
theorem dL_law_253 : decode cL_law 253 = .ok (.invokevirtual 29, 3) := sorry
theorem dL_law_256 : decode cL_law 256 = .ok (.if_icmp .eq 1319, 3) := sorry
theorem dL_law_261 : decode cL_law 261 = .ok (.aload_n 1, 1) := sorry
theorem dL_law_262 : decode cL_law 262 = .ok (.aload_n 0, 1) := sorry
theorem dL_law_263 : decode cL_law 263 = .ok (.iload 4, 2) := sorry
theorem dL_law_265 : decode cL_law 265 = .ok (.iconst 1, 1) := sorry
theorem dL_law_266 : decode cL_law 266 = .ok (.iadd, 1) := sorry
theorem dL_law_267 : decode cL_law 267 = .ok (.iaload, 1) := sorry
theorem dL_law_268 : decode cL_law 268 = .ok (.invokevirtual 30, 3) := sorry
theorem dL_law_271 : decode cL_law 271 = .ok (.aload_n 2, 1) := sorry
theorem dL_law_272 : decode cL_law 272 = .ok (.aload_n 0, 1) := sorry
theorem dL_law_273 : decode cL_law 273 = .ok (.iload 4, 2) := sorry
theorem dL_law_275 : decode cL_law 275 = .ok (.iconst 1, 1) := sorry
theorem dL_law_276 : decode cL_law 276 = .ok (.iadd, 1) := sorry
theorem dL_law_277 : decode cL_law 277 = .ok (.iaload, 1) := sorry
theorem dL_law_278 : decode cL_law 278 = .ok (.invokevirtual 34, 3) := sorry
theorem dL_law_281 : decode cL_law 281 = .ok (.if_icmp .eq 1294, 3) := sorry
theorem dL_law_286 : decode cL_law 286 = .ok (.aload_n 1, 1) := sorry
theorem dL_law_287 : decode cL_law 287 = .ok (.invokevirtual 35, 3) := sorry
theorem dL_law_290 : decode cL_law 290 = .ok (.aload_n 2, 1) := sorry
theorem dL_law_291 : decode cL_law 291 = .ok (.invokevirtual 39, 3) := sorry
theorem dL_law_294 : decode cL_law 294 = .ok (.if_icmp .eq 1281, 3) := sorry
theorem dL_law_299 : decode cL_law 299 = .ok (.aload_n 1, 1) := sorry
theorem dL_law_300 : decode cL_law 300 = .ok (.invokevirtual 40, 3) := sorry
theorem dL_law_303 : decode cL_law 303 = .ok (.aload_n 2, 1) := sorry
theorem dL_law_304 : decode cL_law 304 = .ok (.invokevirtual 43, 3) := sorry
theorem dL_law_307 : decode cL_law 307 = .ok (.if_icmp .eq 1268, 3) := sorry
theorem dL_law_312 : decode cL_law 312 = .ok (.aload_n 1, 1) := sorry
theorem dL_law_313 : decode cL_law 313 = .ok (.aload_n 0, 1) := sorry
theorem dL_law_314 : decode cL_law 314 = .ok (.iload 4, 2) := sorry
theorem dL_law_316 : decode cL_law 316 = .ok (.iconst 1, 1) := sorry
theorem dL_law_317 : decode cL_law 317 = .ok (.iadd, 1) := sorry
theorem dL_law_318 : decode cL_law 318 = .ok (.iaload, 1) := sorry
theorem dL_law_319 : decode cL_law 319 = .ok (.aload_n 0, 1) := sorry
theorem dL_law_320 : decode cL_law 320 = .ok (.iload 4, 2) := sorry
theorem dL_law_322 : decode cL_law 322 = .ok (.iconst 2, 1) := sorry
theorem dL_law_323 : decode cL_law 323 = .ok (.iadd, 1) := sorry
theorem dL_law_324 : decode cL_law 324 = .ok (.iaload, 1) := sorry
theorem dL_law_325 : decode cL_law 325 = .ok (.aload_n 3, 1) := sorry
theorem dL_law_326 : decode cL_law 326 = .ok (.invokestatic 44, 3) := sorry
theorem dL_law_329 : decode cL_law 329 = .ok (.istore 5, 2) := sorry
theorem dL_law_331 : decode cL_law 331 = .ok (.aload_n 2, 1) := sorry
theorem dL_law_332 : decode cL_law 332 = .ok (.aload_n 0, 1) := sorry
theorem dL_law_333 : decode cL_law 333 = .ok (.iload 4, 2) := sorry
theorem dL_law_335 : decode cL_law 335 = .ok (.iconst 1, 1) := sorry
theorem dL_law_336 : decode cL_law 336 = .ok (.iadd, 1) := sorry
theorem dL_law_337 : decode cL_law 337 = .ok (.iaload, 1) := sorry
theorem dL_law_338 : decode cL_law 338 = .ok (.aload_n 0, 1) := sorry
theorem dL_law_339 : decode cL_law 339 = .ok (.iload 4, 2) := sorry
theorem dL_law_341 : decode cL_law 341 = .ok (.iconst 2, 1) := sorry
theorem dL_law_342 : decode cL_law 342 = .ok (.iadd, 1) := sorry
theorem dL_law_343 : decode cL_law 343 = .ok (.iaload, 1) := sorry
theorem dL_law_344 : decode cL_law 344 = .ok (.invokevirtual 49, 3) := sorry
theorem dL_law_347 : decode cL_law 347 = .ok (.istore 6, 2) := sorry
theorem dL_law_349 : decode cL_law 349 = .ok (.aload_n 2, 1) := sorry
theorem dL_law_350 : decode cL_law 350 = .ok (.invokevirtual 50, 3) := sorry
theorem dL_law_353 : decode cL_law 353 = .ok (.iload 5, 2) := sorry
theorem dL_law_355 : decode cL_law 355 = .ok (.if_icmp .eq 5, 3) := sorry
theorem dL_law_360 : decode cL_law 360 = .ok (.iload 5, 2) := sorry
theorem dL_law_362 : decode cL_law 362 = .ok (.ifCond .ne 15, 3) := sorry
theorem dL_law_377 : decode cL_law 377 = .ok (.goto 1198, 3) := sorry
theorem dL_law_380 : decode cL_law 380 = .ok (.aload_n 1, 1) := sorry
theorem dL_law_381 : decode cL_law 381 = .ok (.aload_n 0, 1) := sorry
theorem dL_law_382 : decode cL_law 382 = .ok (.iload 4, 2) := sorry
theorem dL_law_384 : decode cL_law 384 = .ok (.iconst 1, 1) := sorry
theorem dL_law_385 : decode cL_law 385 = .ok (.iadd, 1) := sorry
theorem dL_law_386 : decode cL_law 386 = .ok (.iaload, 1) := sorry
theorem dL_law_387 : decode cL_law 387 = .ok (.aload_n 0, 1) := sorry
theorem dL_law_388 : decode cL_law 388 = .ok (.iload 4, 2) := sorry
theorem dL_law_390 : decode cL_law 390 = .ok (.iconst 2, 1) := sorry
theorem dL_law_391 : decode cL_law 391 = .ok (.iadd, 1) := sorry
theorem dL_law_392 : decode cL_law 392 = .ok (.iaload, 1) := sorry
theorem dL_law_393 : decode cL_law 393 = .ok (.aload_n 3, 1) := sorry
theorem dL_law_394 : decode cL_law 394 = .ok (.invokestatic 53, 3) := sorry
theorem dL_law_397 : decode cL_law 397 = .ok (.istore 5, 2) := sorry
theorem dL_law_399 : decode cL_law 399 = .ok (.aload_n 2, 1) := sorry
theorem dL_law_400 : decode cL_law 400 = .ok (.aload_n 0, 1) := sorry
theorem dL_law_401 : decode cL_law 401 = .ok (.iload 4, 2) := sorry
theorem dL_law_403 : decode cL_law 403 = .ok (.iconst 1, 1) := sorry
theorem dL_law_404 : decode cL_law 404 = .ok (.iadd, 1) := sorry
theorem dL_law_405 : decode cL_law 405 = .ok (.iaload, 1) := sorry
theorem dL_law_406 : decode cL_law 406 = .ok (.aload_n 0, 1) := sorry
theorem dL_law_407 : decode cL_law 407 = .ok (.iload 4, 2) := sorry
theorem dL_law_409 : decode cL_law 409 = .ok (.iconst 2, 1) := sorry
theorem dL_law_410 : decode cL_law 410 = .ok (.iadd, 1) := sorry
theorem dL_law_411 : decode cL_law 411 = .ok (.iaload, 1) := sorry
theorem dL_law_412 : decode cL_law 412 = .ok (.invokevirtual 55, 3) := sorry
theorem dL_law_415 : decode cL_law 415 = .ok (.istore 6, 2) := sorry
theorem dL_law_417 : decode cL_law 417 = .ok (.aload_n 2, 1) := sorry
theorem dL_law_418 : decode cL_law 418 = .ok (.invokevirtual 50, 3) := sorry
theorem dL_law_421 : decode cL_law 421 = .ok (.iload 5, 2) := sorry
theorem dL_law_423 : decode cL_law 423 = .ok (.if_icmp .eq 5, 3) := sorry
theorem dL_law_428 : decode cL_law 428 = .ok (.iload 5, 2) := sorry
theorem dL_law_430 : decode cL_law 430 = .ok (.ifCond .ne 15, 3) := sorry
theorem dL_law_445 : decode cL_law 445 = .ok (.goto 1130, 3) := sorry
theorem dL_law_448 : decode cL_law 448 = .ok (.aload_n 1, 1) := sorry
theorem dL_law_449 : decode cL_law 449 = .ok (.aload_n 0, 1) := sorry
theorem dL_law_450 : decode cL_law 450 = .ok (.iload 4, 2) := sorry
theorem dL_law_452 : decode cL_law 452 = .ok (.iconst 1, 1) := sorry
theorem dL_law_453 : decode cL_law 453 = .ok (.iadd, 1) := sorry
theorem dL_law_454 : decode cL_law 454 = .ok (.iaload, 1) := sorry
theorem dL_law_455 : decode cL_law 455 = .ok (.aload_n 0, 1) := sorry
theorem dL_law_456 : decode cL_law 456 = .ok (.iload 4, 2) := sorry
theorem dL_law_458 : decode cL_law 458 = .ok (.iconst 2, 1) := sorry
theorem dL_law_459 : decode cL_law 459 = .ok (.iadd, 1) := sorry
theorem dL_law_460 : decode cL_law 460 = .ok (.iaload, 1) := sorry
theorem dL_law_461 : decode cL_law 461 = .ok (.aload_n 0, 1) := sorry
theorem dL_law_462 : decode cL_law 462 = .ok (.iload 4, 2) := sorry
theorem dL_law_464 : decode cL_law 464 = .ok (.iconst 3, 1) := sorry
theorem dL_law_465 : decode cL_law 465 = .ok (.iadd, 1) := sorry
theorem dL_law_466 : decode cL_law 466 = .ok (.iaload, 1) := sorry
theorem dL_law_467 : decode cL_law 467 = .ok (.invokevirtual 56, 3) := sorry
theorem dL_law_470 : decode cL_law 470 = .ok (.aload_n 2, 1) := sorry
theorem dL_law_471 : decode cL_law 471 = .ok (.aload_n 0, 1) := sorry
theorem dL_law_472 : decode cL_law 472 = .ok (.iload 4, 2) := sorry
theorem dL_law_474 : decode cL_law 474 = .ok (.iconst 1, 1) := sorry
theorem dL_law_475 : decode cL_law 475 = .ok (.iadd, 1) := sorry
theorem dL_law_476 : decode cL_law 476 = .ok (.iaload, 1) := sorry
theorem dL_law_477 : decode cL_law 477 = .ok (.aload_n 0, 1) := sorry
theorem dL_law_478 : decode cL_law 478 = .ok (.iload 4, 2) := sorry
theorem dL_law_480 : decode cL_law 480 = .ok (.iconst 2, 1) := sorry
theorem dL_law_481 : decode cL_law 481 = .ok (.iadd, 1) := sorry
theorem dL_law_482 : decode cL_law 482 = .ok (.iaload, 1) := sorry
theorem dL_law_483 : decode cL_law 483 = .ok (.aload_n 0, 1) := sorry
theorem dL_law_484 : decode cL_law 484 = .ok (.iload 4, 2) := sorry
theorem dL_law_486 : decode cL_law 486 = .ok (.iconst 3, 1) := sorry
theorem dL_law_487 : decode cL_law 487 = .ok (.iadd, 1) := sorry
theorem dL_law_488 : decode cL_law 488 = .ok (.iaload, 1) := sorry
theorem dL_law_489 : decode cL_law 489 = .ok (.invokevirtual 60, 3) := sorry
theorem dL_law_492 : decode cL_law 492 = .ok (.if_icmp .eq 1083, 3) := sorry
theorem dL_law_497 : decode cL_law 497 = .ok (.aload_n 1, 1) := sorry
theorem dL_law_498 : decode cL_law 498 = .ok (.aload_n 0, 1) := sorry
theorem dL_law_499 : decode cL_law 499 = .ok (.iload 4, 2) := sorry
theorem dL_law_501 : decode cL_law 501 = .ok (.iconst 1, 1) := sorry
theorem dL_law_502 : decode cL_law 502 = .ok (.iadd, 1) := sorry
theorem dL_law_503 : decode cL_law 503 = .ok (.iaload, 1) := sorry
theorem dL_law_504 : decode cL_law 504 = .ok (.aload_n 0, 1) := sorry
theorem dL_law_505 : decode cL_law 505 = .ok (.iload 4, 2) := sorry
theorem dL_law_507 : decode cL_law 507 = .ok (.iconst 2, 1) := sorry
theorem dL_law_508 : decode cL_law 508 = .ok (.iadd, 1) := sorry
theorem dL_law_509 : decode cL_law 509 = .ok (.iaload, 1) := sorry
theorem dL_law_510 : decode cL_law 510 = .ok (.invokevirtual 61, 3) := sorry
theorem dL_law_513 : decode cL_law 513 = .ok (.aload_n 2, 1) := sorry
theorem dL_law_514 : decode cL_law 514 = .ok (.aload_n 0, 1) := sorry
theorem dL_law_515 : decode cL_law 515 = .ok (.iload 4, 2) := sorry
theorem dL_law_517 : decode cL_law 517 = .ok (.iconst 1, 1) := sorry
theorem dL_law_518 : decode cL_law 518 = .ok (.iadd, 1) := sorry
theorem dL_law_519 : decode cL_law 519 = .ok (.iaload, 1) := sorry
theorem dL_law_520 : decode cL_law 520 = .ok (.aload_n 0, 1) := sorry
theorem dL_law_521 : decode cL_law 521 = .ok (.iload 4, 2) := sorry
theorem dL_law_523 : decode cL_law 523 = .ok (.iconst 2, 1) := sorry
theorem dL_law_524 : decode cL_law 524 = .ok (.iadd, 1) := sorry
theorem dL_law_525 : decode cL_law 525 = .ok (.iaload, 1) := sorry
theorem dL_law_526 : decode cL_law 526 = .ok (.invokevirtual 64, 3) := sorry
theorem dL_law_529 : decode cL_law 529 = .ok (.if_icmp .eq 1046, 3) := sorry
theorem dL_law_534 : decode cL_law 534 = .ok (.aload_n 1, 1) := sorry
theorem dL_law_535 : decode cL_law 535 = .ok (.aload_n 0, 1) := sorry
theorem dL_law_536 : decode cL_law 536 = .ok (.iload 4, 2) := sorry
theorem dL_law_538 : decode cL_law 538 = .ok (.iconst 1, 1) := sorry
theorem dL_law_539 : decode cL_law 539 = .ok (.iadd, 1) := sorry
theorem dL_law_540 : decode cL_law 540 = .ok (.iaload, 1) := sorry
theorem dL_law_541 : decode cL_law 541 = .ok (.aload_n 0, 1) := sorry
theorem dL_law_542 : decode cL_law 542 = .ok (.iload 4, 2) := sorry
theorem dL_law_544 : decode cL_law 544 = .ok (.iconst 2, 1) := sorry
theorem dL_law_545 : decode cL_law 545 = .ok (.iadd, 1) := sorry
theorem dL_law_546 : decode cL_law 546 = .ok (.iaload, 1) := sorry
theorem dL_law_547 : decode cL_law 547 = .ok (.aload_n 0, 1) := sorry
theorem dL_law_548 : decode cL_law 548 = .ok (.iload 4, 2) := sorry
theorem dL_law_550 : decode cL_law 550 = .ok (.iconst 3, 1) := sorry
theorem dL_law_551 : decode cL_law 551 = .ok (.iadd, 1) := sorry
theorem dL_law_552 : decode cL_law 552 = .ok (.iaload, 1) := sorry
theorem dL_law_553 : decode cL_law 553 = .ok (.aload_n 0, 1) := sorry
theorem dL_law_554 : decode cL_law 554 = .ok (.iload 4, 2) := sorry
theorem dL_law_556 : decode cL_law 556 = .ok (.iconst 4, 1) := sorry
theorem dL_law_557 : decode cL_law 557 = .ok (.iadd, 1) := sorry
theorem dL_law_558 : decode cL_law 558 = .ok (.iaload, 1) := sorry
theorem dL_law_559 : decode cL_law 559 = .ok (.invokevirtual 65, 3) := sorry
theorem dL_law_562 : decode cL_law 562 = .ok (.aload_n 2, 1) := sorry
theorem dL_law_563 : decode cL_law 563 = .ok (.aload_n 0, 1) := sorry
theorem dL_law_564 : decode cL_law 564 = .ok (.iload 4, 2) := sorry
theorem dL_law_566 : decode cL_law 566 = .ok (.iconst 1, 1) := sorry
theorem dL_law_567 : decode cL_law 567 = .ok (.iadd, 1) := sorry
theorem dL_law_568 : decode cL_law 568 = .ok (.iaload, 1) := sorry
theorem dL_law_569 : decode cL_law 569 = .ok (.aload_n 0, 1) := sorry
theorem dL_law_570 : decode cL_law 570 = .ok (.iload 4, 2) := sorry
theorem dL_law_572 : decode cL_law 572 = .ok (.iconst 2, 1) := sorry
theorem dL_law_573 : decode cL_law 573 = .ok (.iadd, 1) := sorry
theorem dL_law_574 : decode cL_law 574 = .ok (.iaload, 1) := sorry
theorem dL_law_575 : decode cL_law 575 = .ok (.aload_n 0, 1) := sorry
theorem dL_law_576 : decode cL_law 576 = .ok (.iload 4, 2) := sorry
theorem dL_law_578 : decode cL_law 578 = .ok (.iconst 3, 1) := sorry
theorem dL_law_579 : decode cL_law 579 = .ok (.iadd, 1) := sorry
theorem dL_law_580 : decode cL_law 580 = .ok (.iaload, 1) := sorry
theorem dL_law_581 : decode cL_law 581 = .ok (.aload_n 0, 1) := sorry
theorem dL_law_582 : decode cL_law 582 = .ok (.iload 4, 2) := sorry
theorem dL_law_584 : decode cL_law 584 = .ok (.iconst 4, 1) := sorry
theorem dL_law_585 : decode cL_law 585 = .ok (.iadd, 1) := sorry
theorem dL_law_586 : decode cL_law 586 = .ok (.iaload, 1) := sorry
theorem dL_law_587 : decode cL_law 587 = .ok (.invokevirtual 69, 3) := sorry
theorem dL_law_590 : decode cL_law 590 = .ok (.if_icmp .eq 985, 3) := sorry
theorem dL_law_595 : decode cL_law 595 = .ok (.aload_n 1, 1) := sorry
theorem dL_law_596 : decode cL_law 596 = .ok (.aload_n 0, 1) := sorry
theorem dL_law_597 : decode cL_law 597 = .ok (.iload 4, 2) := sorry
theorem dL_law_599 : decode cL_law 599 = .ok (.iconst 1, 1) := sorry
theorem dL_law_600 : decode cL_law 600 = .ok (.iadd, 1) := sorry
theorem dL_law_601 : decode cL_law 601 = .ok (.iaload, 1) := sorry
theorem dL_law_602 : decode cL_law 602 = .ok (.aload_n 0, 1) := sorry
theorem dL_law_603 : decode cL_law 603 = .ok (.iload 4, 2) := sorry
theorem dL_law_605 : decode cL_law 605 = .ok (.iconst 2, 1) := sorry
theorem dL_law_606 : decode cL_law 606 = .ok (.iadd, 1) := sorry
theorem dL_law_607 : decode cL_law 607 = .ok (.iaload, 1) := sorry
theorem dL_law_608 : decode cL_law 608 = .ok (.invokevirtual 70, 3) := sorry
theorem dL_law_611 : decode cL_law 611 = .ok (.aload_n 2, 1) := sorry
theorem dL_law_612 : decode cL_law 612 = .ok (.aload_n 0, 1) := sorry
theorem dL_law_613 : decode cL_law 613 = .ok (.iload 4, 2) := sorry
theorem dL_law_615 : decode cL_law 615 = .ok (.iconst 1, 1) := sorry
theorem dL_law_616 : decode cL_law 616 = .ok (.iadd, 1) := sorry
theorem dL_law_617 : decode cL_law 617 = .ok (.iaload, 1) := sorry
theorem dL_law_618 : decode cL_law 618 = .ok (.aload_n 0, 1) := sorry
theorem dL_law_619 : decode cL_law 619 = .ok (.iload 4, 2) := sorry
theorem dL_law_621 : decode cL_law 621 = .ok (.iconst 2, 1) := sorry
theorem dL_law_622 : decode cL_law 622 = .ok (.iadd, 1) := sorry
theorem dL_law_623 : decode cL_law 623 = .ok (.iaload, 1) := sorry
theorem dL_law_624 : decode cL_law 624 = .ok (.invokevirtual 73, 3) := sorry
theorem dL_law_627 : decode cL_law 627 = .ok (.if_icmp .eq 948, 3) := sorry
theorem dL_law_632 : decode cL_law 632 = .ok (.aload_n 1, 1) := sorry
theorem dL_law_633 : decode cL_law 633 = .ok (.aload_n 0, 1) := sorry
theorem dL_law_634 : decode cL_law 634 = .ok (.iload 4, 2) := sorry
theorem dL_law_636 : decode cL_law 636 = .ok (.iconst 1, 1) := sorry
theorem dL_law_637 : decode cL_law 637 = .ok (.iadd, 1) := sorry
theorem dL_law_638 : decode cL_law 638 = .ok (.iaload, 1) := sorry
theorem dL_law_639 : decode cL_law 639 = .ok (.aload_n 0, 1) := sorry
theorem dL_law_640 : decode cL_law 640 = .ok (.iload 4, 2) := sorry
theorem dL_law_642 : decode cL_law 642 = .ok (.iconst 2, 1) := sorry
theorem dL_law_643 : decode cL_law 643 = .ok (.iadd, 1) := sorry
theorem dL_law_644 : decode cL_law 644 = .ok (.iaload, 1) := sorry
theorem dL_law_645 : decode cL_law 645 = .ok (.invokevirtual 74, 3) := sorry
theorem dL_law_648 : decode cL_law 648 = .ok (.aload_n 2, 1) := sorry
theorem dL_law_649 : decode cL_law 649 = .ok (.aload_n 0, 1) := sorry
theorem dL_law_650 : decode cL_law 650 = .ok (.iload 4, 2) := sorry
theorem dL_law_652 : decode cL_law 652 = .ok (.iconst 1, 1) := sorry
theorem dL_law_653 : decode cL_law 653 = .ok (.iadd, 1) := sorry
theorem dL_law_654 : decode cL_law 654 = .ok (.iaload, 1) := sorry
theorem dL_law_655 : decode cL_law 655 = .ok (.aload_n 0, 1) := sorry
theorem dL_law_656 : decode cL_law 656 = .ok (.iload 4, 2) := sorry
theorem dL_law_658 : decode cL_law 658 = .ok (.iconst 2, 1) := sorry
theorem dL_law_659 : decode cL_law 659 = .ok (.iadd, 1) := sorry
theorem dL_law_660 : decode cL_law 660 = .ok (.iaload, 1) := sorry
theorem dL_law_661 : decode cL_law 661 = .ok (.invokevirtual 77, 3) := sorry
theorem dL_law_664 : decode cL_law 664 = .ok (.if_icmp .eq 911, 3) := sorry
theorem dL_law_669 : decode cL_law 669 = .ok (.aload_n 1, 1) := sorry
theorem dL_law_670 : decode cL_law 670 = .ok (.aload_n 0, 1) := sorry
theorem dL_law_671 : decode cL_law 671 = .ok (.iload 4, 2) := sorry
theorem dL_law_673 : decode cL_law 673 = .ok (.iconst 1, 1) := sorry
theorem dL_law_674 : decode cL_law 674 = .ok (.iadd, 1) := sorry
theorem dL_law_675 : decode cL_law 675 = .ok (.iaload, 1) := sorry
theorem dL_law_676 : decode cL_law 676 = .ok (.aload_n 0, 1) := sorry
theorem dL_law_677 : decode cL_law 677 = .ok (.iload 4, 2) := sorry
theorem dL_law_679 : decode cL_law 679 = .ok (.iconst 2, 1) := sorry
theorem dL_law_680 : decode cL_law 680 = .ok (.iadd, 1) := sorry
theorem dL_law_681 : decode cL_law 681 = .ok (.iaload, 1) := sorry
theorem dL_law_682 : decode cL_law 682 = .ok (.invokevirtual 78, 3) := sorry
theorem dL_law_685 : decode cL_law 685 = .ok (.aload_n 2, 1) := sorry
theorem dL_law_686 : decode cL_law 686 = .ok (.aload_n 0, 1) := sorry
theorem dL_law_687 : decode cL_law 687 = .ok (.iload 4, 2) := sorry
theorem dL_law_689 : decode cL_law 689 = .ok (.iconst 1, 1) := sorry
theorem dL_law_690 : decode cL_law 690 = .ok (.iadd, 1) := sorry
theorem dL_law_691 : decode cL_law 691 = .ok (.iaload, 1) := sorry
theorem dL_law_692 : decode cL_law 692 = .ok (.aload_n 0, 1) := sorry
theorem dL_law_693 : decode cL_law 693 = .ok (.iload 4, 2) := sorry
theorem dL_law_695 : decode cL_law 695 = .ok (.iconst 2, 1) := sorry
theorem dL_law_696 : decode cL_law 696 = .ok (.iadd, 1) := sorry
theorem dL_law_697 : decode cL_law 697 = .ok (.iaload, 1) := sorry
theorem dL_law_698 : decode cL_law 698 = .ok (.invokevirtual 81, 3) := sorry
theorem dL_law_701 : decode cL_law 701 = .ok (.if_icmp .eq 874, 3) := sorry
theorem dL_law_706 : decode cL_law 706 = .ok (.aload_n 1, 1) := sorry
theorem dL_law_707 : decode cL_law 707 = .ok (.invokevirtual 82, 3) := sorry
theorem dL_law_710 : decode cL_law 710 = .ok (.aload_n 2, 1) := sorry
theorem dL_law_711 : decode cL_law 711 = .ok (.invokevirtual 85, 3) := sorry
theorem dL_law_714 : decode cL_law 714 = .ok (.if_icmp .eq 861, 3) := sorry
theorem dL_law_719 : decode cL_law 719 = .ok (.aload_n 1, 1) := sorry
theorem dL_law_720 : decode cL_law 720 = .ok (.aload_n 0, 1) := sorry
theorem dL_law_721 : decode cL_law 721 = .ok (.iload 4, 2) := sorry
theorem dL_law_723 : decode cL_law 723 = .ok (.iconst 1, 1) := sorry
theorem dL_law_724 : decode cL_law 724 = .ok (.iadd, 1) := sorry
theorem dL_law_725 : decode cL_law 725 = .ok (.iaload, 1) := sorry
theorem dL_law_726 : decode cL_law 726 = .ok (.aload_n 0, 1) := sorry
theorem dL_law_727 : decode cL_law 727 = .ok (.iload 4, 2) := sorry
theorem dL_law_729 : decode cL_law 729 = .ok (.iconst 2, 1) := sorry
theorem dL_law_730 : decode cL_law 730 = .ok (.iadd, 1) := sorry
theorem dL_law_731 : decode cL_law 731 = .ok (.iaload, 1) := sorry
theorem dL_law_732 : decode cL_law 732 = .ok (.invokevirtual 86, 3) := sorry
theorem dL_law_735 : decode cL_law 735 = .ok (.aload_n 2, 1) := sorry
theorem dL_law_736 : decode cL_law 736 = .ok (.aload_n 0, 1) := sorry
theorem dL_law_737 : decode cL_law 737 = .ok (.iload 4, 2) := sorry
theorem dL_law_739 : decode cL_law 739 = .ok (.iconst 1, 1) := sorry
theorem dL_law_740 : decode cL_law 740 = .ok (.iadd, 1) := sorry
theorem dL_law_741 : decode cL_law 741 = .ok (.iaload, 1) := sorry
theorem dL_law_742 : decode cL_law 742 = .ok (.aload_n 0, 1) := sorry
theorem dL_law_743 : decode cL_law 743 = .ok (.iload 4, 2) := sorry
theorem dL_law_745 : decode cL_law 745 = .ok (.iconst 2, 1) := sorry
theorem dL_law_746 : decode cL_law 746 = .ok (.iadd, 1) := sorry
theorem dL_law_747 : decode cL_law 747 = .ok (.iaload, 1) := sorry
theorem dL_law_748 : decode cL_law 748 = .ok (.invokevirtual 89, 3) := sorry
theorem dL_law_751 : decode cL_law 751 = .ok (.if_icmp .eq 824, 3) := sorry
theorem dL_law_756 : decode cL_law 756 = .ok (.aload_n 1, 1) := sorry
theorem dL_law_757 : decode cL_law 757 = .ok (.invokevirtual 90, 3) := sorry
theorem dL_law_760 : decode cL_law 760 = .ok (.aload_n 2, 1) := sorry
theorem dL_law_761 : decode cL_law 761 = .ok (.invokevirtual 93, 3) := sorry
theorem dL_law_764 : decode cL_law 764 = .ok (.if_icmp .eq 811, 3) := sorry
theorem dL_law_769 : decode cL_law 769 = .ok (.aload_n 1, 1) := sorry
theorem dL_law_770 : decode cL_law 770 = .ok (.aload_n 0, 1) := sorry
theorem dL_law_771 : decode cL_law 771 = .ok (.iload 4, 2) := sorry
theorem dL_law_773 : decode cL_law 773 = .ok (.iconst 1, 1) := sorry
theorem dL_law_774 : decode cL_law 774 = .ok (.iadd, 1) := sorry
theorem dL_law_775 : decode cL_law 775 = .ok (.iaload, 1) := sorry
theorem dL_law_776 : decode cL_law 776 = .ok (.aload_n 0, 1) := sorry
theorem dL_law_777 : decode cL_law 777 = .ok (.iload 4, 2) := sorry
theorem dL_law_779 : decode cL_law 779 = .ok (.iconst 2, 1) := sorry
theorem dL_law_780 : decode cL_law 780 = .ok (.iadd, 1) := sorry
theorem dL_law_781 : decode cL_law 781 = .ok (.iaload, 1) := sorry
theorem dL_law_782 : decode cL_law 782 = .ok (.invokevirtual 94, 3) := sorry
theorem dL_law_785 : decode cL_law 785 = .ok (.aload_n 2, 1) := sorry
theorem dL_law_786 : decode cL_law 786 = .ok (.aload_n 0, 1) := sorry
theorem dL_law_787 : decode cL_law 787 = .ok (.iload 4, 2) := sorry
theorem dL_law_789 : decode cL_law 789 = .ok (.iconst 1, 1) := sorry
theorem dL_law_790 : decode cL_law 790 = .ok (.iadd, 1) := sorry
theorem dL_law_791 : decode cL_law 791 = .ok (.iaload, 1) := sorry
theorem dL_law_792 : decode cL_law 792 = .ok (.aload_n 0, 1) := sorry
theorem dL_law_793 : decode cL_law 793 = .ok (.iload 4, 2) := sorry
theorem dL_law_795 : decode cL_law 795 = .ok (.iconst 2, 1) := sorry
theorem dL_law_796 : decode cL_law 796 = .ok (.iadd, 1) := sorry
theorem dL_law_797 : decode cL_law 797 = .ok (.iaload, 1) := sorry
theorem dL_law_798 : decode cL_law 798 = .ok (.invokevirtual 97, 3) := sorry
theorem dL_law_801 : decode cL_law 801 = .ok (.if_icmp .eq 774, 3) := sorry
theorem dL_law_806 : decode cL_law 806 = .ok (.aload_n 1, 1) := sorry
theorem dL_law_807 : decode cL_law 807 = .ok (.aload_n 0, 1) := sorry
theorem dL_law_808 : decode cL_law 808 = .ok (.iload 4, 2) := sorry
theorem dL_law_810 : decode cL_law 810 = .ok (.iconst 1, 1) := sorry
theorem dL_law_811 : decode cL_law 811 = .ok (.iadd, 1) := sorry
theorem dL_law_812 : decode cL_law 812 = .ok (.iaload, 1) := sorry
theorem dL_law_813 : decode cL_law 813 = .ok (.aload_n 0, 1) := sorry
theorem dL_law_814 : decode cL_law 814 = .ok (.iload 4, 2) := sorry
theorem dL_law_816 : decode cL_law 816 = .ok (.iconst 2, 1) := sorry
theorem dL_law_817 : decode cL_law 817 = .ok (.iadd, 1) := sorry
theorem dL_law_818 : decode cL_law 818 = .ok (.iaload, 1) := sorry
theorem dL_law_819 : decode cL_law 819 = .ok (.invokevirtual 98, 3) := sorry
theorem dL_law_822 : decode cL_law 822 = .ok (.aload_n 2, 1) := sorry
theorem dL_law_823 : decode cL_law 823 = .ok (.aload_n 0, 1) := sorry
theorem dL_law_824 : decode cL_law 824 = .ok (.iload 4, 2) := sorry
theorem dL_law_826 : decode cL_law 826 = .ok (.iconst 1, 1) := sorry
theorem dL_law_827 : decode cL_law 827 = .ok (.iadd, 1) := sorry
theorem dL_law_828 : decode cL_law 828 = .ok (.iaload, 1) := sorry
theorem dL_law_829 : decode cL_law 829 = .ok (.aload_n 0, 1) := sorry
theorem dL_law_830 : decode cL_law 830 = .ok (.iload 4, 2) := sorry
theorem dL_law_832 : decode cL_law 832 = .ok (.iconst 2, 1) := sorry
theorem dL_law_833 : decode cL_law 833 = .ok (.iadd, 1) := sorry
theorem dL_law_834 : decode cL_law 834 = .ok (.iaload, 1) := sorry
theorem dL_law_835 : decode cL_law 835 = .ok (.invokevirtual 101, 3) := sorry
theorem dL_law_838 : decode cL_law 838 = .ok (.if_icmp .eq 737, 3) := sorry
theorem dL_law_843 : decode cL_law 843 = .ok (.aload_n 1, 1) := sorry
theorem dL_law_844 : decode cL_law 844 = .ok (.invokevirtual 102, 3) := sorry
theorem dL_law_847 : decode cL_law 847 = .ok (.aload_n 2, 1) := sorry
theorem dL_law_848 : decode cL_law 848 = .ok (.invokevirtual 105, 3) := sorry
theorem dL_law_851 : decode cL_law 851 = .ok (.if_icmp .eq 724, 3) := sorry
theorem dL_law_856 : decode cL_law 856 = .ok (.aload_n 1, 1) := sorry
theorem dL_law_857 : decode cL_law 857 = .ok (.aload_n 0, 1) := sorry
theorem dL_law_858 : decode cL_law 858 = .ok (.iload 4, 2) := sorry
theorem dL_law_860 : decode cL_law 860 = .ok (.iconst 1, 1) := sorry
theorem dL_law_861 : decode cL_law 861 = .ok (.iadd, 1) := sorry
theorem dL_law_862 : decode cL_law 862 = .ok (.iaload, 1) := sorry
theorem dL_law_863 : decode cL_law 863 = .ok (.aload_n 0, 1) := sorry
theorem dL_law_864 : decode cL_law 864 = .ok (.iload 4, 2) := sorry
theorem dL_law_866 : decode cL_law 866 = .ok (.iconst 2, 1) := sorry
theorem dL_law_867 : decode cL_law 867 = .ok (.iadd, 1) := sorry
theorem dL_law_868 : decode cL_law 868 = .ok (.iaload, 1) := sorry
theorem dL_law_869 : decode cL_law 869 = .ok (.invokevirtual 106, 3) := sorry
theorem dL_law_872 : decode cL_law 872 = .ok (.aload_n 2, 1) := sorry
theorem dL_law_873 : decode cL_law 873 = .ok (.aload_n 0, 1) := sorry
theorem dL_law_874 : decode cL_law 874 = .ok (.iload 4, 2) := sorry
theorem dL_law_876 : decode cL_law 876 = .ok (.iconst 1, 1) := sorry
theorem dL_law_877 : decode cL_law 877 = .ok (.iadd, 1) := sorry
theorem dL_law_878 : decode cL_law 878 = .ok (.iaload, 1) := sorry
theorem dL_law_879 : decode cL_law 879 = .ok (.aload_n 0, 1) := sorry
theorem dL_law_880 : decode cL_law 880 = .ok (.iload 4, 2) := sorry
theorem dL_law_882 : decode cL_law 882 = .ok (.iconst 2, 1) := sorry
theorem dL_law_883 : decode cL_law 883 = .ok (.iadd, 1) := sorry
theorem dL_law_884 : decode cL_law 884 = .ok (.iaload, 1) := sorry
theorem dL_law_885 : decode cL_law 885 = .ok (.invokevirtual 109, 3) := sorry
theorem dL_law_888 : decode cL_law 888 = .ok (.if_icmp .eq 687, 3) := sorry
theorem dL_law_893 : decode cL_law 893 = .ok (.aload_n 1, 1) := sorry
theorem dL_law_894 : decode cL_law 894 = .ok (.aload_n 0, 1) := sorry
theorem dL_law_895 : decode cL_law 895 = .ok (.iload 4, 2) := sorry
theorem dL_law_897 : decode cL_law 897 = .ok (.iconst 1, 1) := sorry
theorem dL_law_898 : decode cL_law 898 = .ok (.iadd, 1) := sorry
theorem dL_law_899 : decode cL_law 899 = .ok (.iaload, 1) := sorry
theorem dL_law_900 : decode cL_law 900 = .ok (.invokevirtual 110, 3) := sorry
theorem dL_law_903 : decode cL_law 903 = .ok (.aload_n 2, 1) := sorry
theorem dL_law_904 : decode cL_law 904 = .ok (.aload_n 0, 1) := sorry
theorem dL_law_905 : decode cL_law 905 = .ok (.iload 4, 2) := sorry
theorem dL_law_907 : decode cL_law 907 = .ok (.iconst 1, 1) := sorry
theorem dL_law_908 : decode cL_law 908 = .ok (.iadd, 1) := sorry
theorem dL_law_909 : decode cL_law 909 = .ok (.iaload, 1) := sorry
theorem dL_law_910 : decode cL_law 910 = .ok (.invokevirtual 113, 3) := sorry
theorem dL_law_913 : decode cL_law 913 = .ok (.if_icmp .eq 662, 3) := sorry
theorem dL_law_918 : decode cL_law 918 = .ok (.aload_n 1, 1) := sorry
theorem dL_law_919 : decode cL_law 919 = .ok (.aload_n 0, 1) := sorry
theorem dL_law_920 : decode cL_law 920 = .ok (.iload 4, 2) := sorry
theorem dL_law_922 : decode cL_law 922 = .ok (.iconst 1, 1) := sorry
theorem dL_law_923 : decode cL_law 923 = .ok (.iadd, 1) := sorry
theorem dL_law_924 : decode cL_law 924 = .ok (.iaload, 1) := sorry
theorem dL_law_925 : decode cL_law 925 = .ok (.invokevirtual 114, 3) := sorry
theorem dL_law_928 : decode cL_law 928 = .ok (.aload_n 2, 1) := sorry
theorem dL_law_929 : decode cL_law 929 = .ok (.aload_n 0, 1) := sorry
theorem dL_law_930 : decode cL_law 930 = .ok (.iload 4, 2) := sorry
theorem dL_law_932 : decode cL_law 932 = .ok (.iconst 1, 1) := sorry
theorem dL_law_933 : decode cL_law 933 = .ok (.iadd, 1) := sorry
theorem dL_law_934 : decode cL_law 934 = .ok (.iaload, 1) := sorry
theorem dL_law_935 : decode cL_law 935 = .ok (.invokevirtual 117, 3) := sorry
theorem dL_law_938 : decode cL_law 938 = .ok (.if_icmp .eq 637, 3) := sorry
theorem dL_law_943 : decode cL_law 943 = .ok (.aload_n 1, 1) := sorry
theorem dL_law_944 : decode cL_law 944 = .ok (.invokevirtual 118, 3) := sorry
theorem dL_law_947 : decode cL_law 947 = .ok (.aload_n 2, 1) := sorry
theorem dL_law_948 : decode cL_law 948 = .ok (.invokevirtual 121, 3) := sorry
theorem dL_law_951 : decode cL_law 951 = .ok (.if_icmp .eq 624, 3) := sorry
theorem dL_law_956 : decode cL_law 956 = .ok (.aload_n 1, 1) := sorry
theorem dL_law_957 : decode cL_law 957 = .ok (.aload_n 0, 1) := sorry
theorem dL_law_958 : decode cL_law 958 = .ok (.iload 4, 2) := sorry
theorem dL_law_960 : decode cL_law 960 = .ok (.iconst 1, 1) := sorry
theorem dL_law_961 : decode cL_law 961 = .ok (.iadd, 1) := sorry
theorem dL_law_962 : decode cL_law 962 = .ok (.iaload, 1) := sorry
theorem dL_law_963 : decode cL_law 963 = .ok (.invokevirtual 122, 3) := sorry
theorem dL_law_966 : decode cL_law 966 = .ok (.aload_n 2, 1) := sorry
theorem dL_law_967 : decode cL_law 967 = .ok (.aload_n 0, 1) := sorry
theorem dL_law_968 : decode cL_law 968 = .ok (.iload 4, 2) := sorry
theorem dL_law_970 : decode cL_law 970 = .ok (.iconst 1, 1) := sorry
theorem dL_law_971 : decode cL_law 971 = .ok (.iadd, 1) := sorry
theorem dL_law_972 : decode cL_law 972 = .ok (.iaload, 1) := sorry
theorem dL_law_973 : decode cL_law 973 = .ok (.invokevirtual 125, 3) := sorry
theorem dL_law_976 : decode cL_law 976 = .ok (.if_icmp .eq 599, 3) := sorry
theorem dL_law_981 : decode cL_law 981 = .ok (.aload_n 1, 1) := sorry
theorem dL_law_982 : decode cL_law 982 = .ok (.invokevirtual 126, 3) := sorry
theorem dL_law_985 : decode cL_law 985 = .ok (.aload_n 2, 1) := sorry
theorem dL_law_986 : decode cL_law 986 = .ok (.invokevirtual 129, 3) := sorry
theorem dL_law_989 : decode cL_law 989 = .ok (.if_icmp .eq 586, 3) := sorry
theorem dL_law_994 : decode cL_law 994 = .ok (.aload_n 1, 1) := sorry
theorem dL_law_995 : decode cL_law 995 = .ok (.aload_n 0, 1) := sorry
theorem dL_law_996 : decode cL_law 996 = .ok (.iload 4, 2) := sorry
theorem dL_law_998 : decode cL_law 998 = .ok (.iconst 1, 1) := sorry
theorem dL_law_999 : decode cL_law 999 = .ok (.iadd, 1) := sorry
theorem dL_law_1000 : decode cL_law 1000 = .ok (.iaload, 1) := sorry
theorem dL_law_1001 : decode cL_law 1001 = .ok (.invokevirtual 130, 3) := sorry
theorem dL_law_1004 : decode cL_law 1004 = .ok (.aload_n 2, 1) := sorry
theorem dL_law_1005 : decode cL_law 1005 = .ok (.aload_n 0, 1) := sorry
theorem dL_law_1006 : decode cL_law 1006 = .ok (.iload 4, 2) := sorry
theorem dL_law_1008 : decode cL_law 1008 = .ok (.iconst 1, 1) := sorry
theorem dL_law_1009 : decode cL_law 1009 = .ok (.iadd, 1) := sorry
theorem dL_law_1010 : decode cL_law 1010 = .ok (.iaload, 1) := sorry
theorem dL_law_1011 : decode cL_law 1011 = .ok (.invokevirtual 133, 3) := sorry
theorem dL_law_1014 : decode cL_law 1014 = .ok (.if_icmp .eq 561, 3) := sorry
theorem dL_law_1019 : decode cL_law 1019 = .ok (.aload_n 1, 1) := sorry
theorem dL_law_1020 : decode cL_law 1020 = .ok (.aload_n 0, 1) := sorry
theorem dL_law_1021 : decode cL_law 1021 = .ok (.iload 4, 2) := sorry
theorem dL_law_1023 : decode cL_law 1023 = .ok (.iconst 1, 1) := sorry
theorem dL_law_1024 : decode cL_law 1024 = .ok (.iadd, 1) := sorry
theorem dL_law_1025 : decode cL_law 1025 = .ok (.iaload, 1) := sorry
theorem dL_law_1026 : decode cL_law 1026 = .ok (.invokevirtual 134, 3) := sorry
theorem dL_law_1029 : decode cL_law 1029 = .ok (.aload_n 2, 1) := sorry
theorem dL_law_1030 : decode cL_law 1030 = .ok (.aload_n 0, 1) := sorry
theorem dL_law_1031 : decode cL_law 1031 = .ok (.iload 4, 2) := sorry
theorem dL_law_1033 : decode cL_law 1033 = .ok (.iconst 1, 1) := sorry
theorem dL_law_1034 : decode cL_law 1034 = .ok (.iadd, 1) := sorry
theorem dL_law_1035 : decode cL_law 1035 = .ok (.iaload, 1) := sorry
theorem dL_law_1036 : decode cL_law 1036 = .ok (.invokevirtual 137, 3) := sorry
theorem dL_law_1039 : decode cL_law 1039 = .ok (.if_icmp .eq 536, 3) := sorry
theorem dL_law_1044 : decode cL_law 1044 = .ok (.aload_n 1, 1) := sorry
theorem dL_law_1045 : decode cL_law 1045 = .ok (.aload_n 0, 1) := sorry
theorem dL_law_1046 : decode cL_law 1046 = .ok (.iload 4, 2) := sorry
theorem dL_law_1048 : decode cL_law 1048 = .ok (.iconst 1, 1) := sorry
theorem dL_law_1049 : decode cL_law 1049 = .ok (.iadd, 1) := sorry
theorem dL_law_1050 : decode cL_law 1050 = .ok (.iaload, 1) := sorry
theorem dL_law_1051 : decode cL_law 1051 = .ok (.invokevirtual 138, 3) := sorry
theorem dL_law_1054 : decode cL_law 1054 = .ok (.aload_n 2, 1) := sorry
theorem dL_law_1055 : decode cL_law 1055 = .ok (.aload_n 0, 1) := sorry
theorem dL_law_1056 : decode cL_law 1056 = .ok (.iload 4, 2) := sorry
theorem dL_law_1058 : decode cL_law 1058 = .ok (.iconst 1, 1) := sorry
theorem dL_law_1059 : decode cL_law 1059 = .ok (.iadd, 1) := sorry
theorem dL_law_1060 : decode cL_law 1060 = .ok (.iaload, 1) := sorry
theorem dL_law_1061 : decode cL_law 1061 = .ok (.invokevirtual 141, 3) := sorry
theorem dL_law_1064 : decode cL_law 1064 = .ok (.if_icmp .eq 511, 3) := sorry
theorem dL_law_1069 : decode cL_law 1069 = .ok (.aload_n 1, 1) := sorry
theorem dL_law_1070 : decode cL_law 1070 = .ok (.aload_n 0, 1) := sorry
theorem dL_law_1071 : decode cL_law 1071 = .ok (.iload 4, 2) := sorry
theorem dL_law_1073 : decode cL_law 1073 = .ok (.iconst 1, 1) := sorry
theorem dL_law_1074 : decode cL_law 1074 = .ok (.iadd, 1) := sorry
theorem dL_law_1075 : decode cL_law 1075 = .ok (.iaload, 1) := sorry
theorem dL_law_1076 : decode cL_law 1076 = .ok (.invokevirtual 142, 3) := sorry
theorem dL_law_1079 : decode cL_law 1079 = .ok (.aload_n 2, 1) := sorry
theorem dL_law_1080 : decode cL_law 1080 = .ok (.aload_n 0, 1) := sorry
theorem dL_law_1081 : decode cL_law 1081 = .ok (.iload 4, 2) := sorry
theorem dL_law_1083 : decode cL_law 1083 = .ok (.iconst 1, 1) := sorry
theorem dL_law_1084 : decode cL_law 1084 = .ok (.iadd, 1) := sorry
theorem dL_law_1085 : decode cL_law 1085 = .ok (.iaload, 1) := sorry
theorem dL_law_1086 : decode cL_law 1086 = .ok (.invokevirtual 145, 3) := sorry
theorem dL_law_1089 : decode cL_law 1089 = .ok (.if_icmp .eq 486, 3) := sorry
theorem dL_law_1094 : decode cL_law 1094 = .ok (.aload_n 1, 1) := sorry
theorem dL_law_1095 : decode cL_law 1095 = .ok (.aload_n 0, 1) := sorry
theorem dL_law_1096 : decode cL_law 1096 = .ok (.iload 4, 2) := sorry
theorem dL_law_1098 : decode cL_law 1098 = .ok (.iconst 1, 1) := sorry
theorem dL_law_1099 : decode cL_law 1099 = .ok (.iadd, 1) := sorry
theorem dL_law_1100 : decode cL_law 1100 = .ok (.iaload, 1) := sorry
theorem dL_law_1101 : decode cL_law 1101 = .ok (.aload_n 0, 1) := sorry
theorem dL_law_1102 : decode cL_law 1102 = .ok (.iload 4, 2) := sorry
theorem dL_law_1104 : decode cL_law 1104 = .ok (.iconst 2, 1) := sorry
theorem dL_law_1105 : decode cL_law 1105 = .ok (.iadd, 1) := sorry
theorem dL_law_1106 : decode cL_law 1106 = .ok (.iaload, 1) := sorry
theorem dL_law_1107 : decode cL_law 1107 = .ok (.invokevirtual 146, 3) := sorry
theorem dL_law_1110 : decode cL_law 1110 = .ok (.aload_n 2, 1) := sorry
theorem dL_law_1111 : decode cL_law 1111 = .ok (.aload_n 0, 1) := sorry
theorem dL_law_1112 : decode cL_law 1112 = .ok (.iload 4, 2) := sorry
theorem dL_law_1114 : decode cL_law 1114 = .ok (.iconst 1, 1) := sorry
theorem dL_law_1115 : decode cL_law 1115 = .ok (.iadd, 1) := sorry
theorem dL_law_1116 : decode cL_law 1116 = .ok (.iaload, 1) := sorry
theorem dL_law_1117 : decode cL_law 1117 = .ok (.aload_n 0, 1) := sorry
theorem dL_law_1118 : decode cL_law 1118 = .ok (.iload 4, 2) := sorry
theorem dL_law_1120 : decode cL_law 1120 = .ok (.iconst 2, 1) := sorry
theorem dL_law_1121 : decode cL_law 1121 = .ok (.iadd, 1) := sorry
theorem dL_law_1122 : decode cL_law 1122 = .ok (.iaload, 1) := sorry
theorem dL_law_1123 : decode cL_law 1123 = .ok (.invokevirtual 149, 3) := sorry
theorem dL_law_1126 : decode cL_law 1126 = .ok (.if_icmp .eq 449, 3) := sorry
theorem dL_law_1131 : decode cL_law 1131 = .ok (.aload_n 1, 1) := sorry
theorem dL_law_1132 : decode cL_law 1132 = .ok (.aload_n 0, 1) := sorry
theorem dL_law_1133 : decode cL_law 1133 = .ok (.iload 4, 2) := sorry
theorem dL_law_1135 : decode cL_law 1135 = .ok (.iconst 1, 1) := sorry
theorem dL_law_1136 : decode cL_law 1136 = .ok (.iadd, 1) := sorry
theorem dL_law_1137 : decode cL_law 1137 = .ok (.iaload, 1) := sorry
theorem dL_law_1138 : decode cL_law 1138 = .ok (.aload_n 0, 1) := sorry
theorem dL_law_1139 : decode cL_law 1139 = .ok (.iload 4, 2) := sorry
theorem dL_law_1141 : decode cL_law 1141 = .ok (.iconst 2, 1) := sorry
theorem dL_law_1142 : decode cL_law 1142 = .ok (.iadd, 1) := sorry
theorem dL_law_1143 : decode cL_law 1143 = .ok (.iaload, 1) := sorry
theorem dL_law_1144 : decode cL_law 1144 = .ok (.invokevirtual 150, 3) := sorry
theorem dL_law_1147 : decode cL_law 1147 = .ok (.aload_n 2, 1) := sorry
theorem dL_law_1148 : decode cL_law 1148 = .ok (.aload_n 0, 1) := sorry
theorem dL_law_1149 : decode cL_law 1149 = .ok (.iload 4, 2) := sorry
theorem dL_law_1151 : decode cL_law 1151 = .ok (.iconst 1, 1) := sorry
theorem dL_law_1152 : decode cL_law 1152 = .ok (.iadd, 1) := sorry
theorem dL_law_1153 : decode cL_law 1153 = .ok (.iaload, 1) := sorry
theorem dL_law_1154 : decode cL_law 1154 = .ok (.aload_n 0, 1) := sorry
theorem dL_law_1155 : decode cL_law 1155 = .ok (.iload 4, 2) := sorry
theorem dL_law_1157 : decode cL_law 1157 = .ok (.iconst 2, 1) := sorry
theorem dL_law_1158 : decode cL_law 1158 = .ok (.iadd, 1) := sorry
theorem dL_law_1159 : decode cL_law 1159 = .ok (.iaload, 1) := sorry
theorem dL_law_1160 : decode cL_law 1160 = .ok (.invokevirtual 153, 3) := sorry
theorem dL_law_1163 : decode cL_law 1163 = .ok (.if_icmp .eq 412, 3) := sorry
theorem dL_law_1168 : decode cL_law 1168 = .ok (.aload_n 1, 1) := sorry
theorem dL_law_1169 : decode cL_law 1169 = .ok (.invokevirtual 154, 3) := sorry
theorem dL_law_1172 : decode cL_law 1172 = .ok (.aload_n 2, 1) := sorry
theorem dL_law_1173 : decode cL_law 1173 = .ok (.invokevirtual 157, 3) := sorry
theorem dL_law_1176 : decode cL_law 1176 = .ok (.if_icmp .eq 399, 3) := sorry
theorem dL_law_1181 : decode cL_law 1181 = .ok (.aload_n 1, 1) := sorry
theorem dL_law_1182 : decode cL_law 1182 = .ok (.aload_n 0, 1) := sorry
theorem dL_law_1183 : decode cL_law 1183 = .ok (.iload 4, 2) := sorry
theorem dL_law_1185 : decode cL_law 1185 = .ok (.iconst 1, 1) := sorry
theorem dL_law_1186 : decode cL_law 1186 = .ok (.iadd, 1) := sorry
theorem dL_law_1187 : decode cL_law 1187 = .ok (.iaload, 1) := sorry
theorem dL_law_1188 : decode cL_law 1188 = .ok (.invokevirtual 158, 3) := sorry
theorem dL_law_1191 : decode cL_law 1191 = .ok (.aload_n 2, 1) := sorry
theorem dL_law_1192 : decode cL_law 1192 = .ok (.aload_n 0, 1) := sorry
theorem dL_law_1193 : decode cL_law 1193 = .ok (.iload 4, 2) := sorry
theorem dL_law_1195 : decode cL_law 1195 = .ok (.iconst 1, 1) := sorry
theorem dL_law_1196 : decode cL_law 1196 = .ok (.iadd, 1) := sorry
theorem dL_law_1197 : decode cL_law 1197 = .ok (.iaload, 1) := sorry
theorem dL_law_1198 : decode cL_law 1198 = .ok (.invokevirtual 161, 3) := sorry
theorem dL_law_1201 : decode cL_law 1201 = .ok (.if_icmp .eq 374, 3) := sorry
theorem dL_law_1206 : decode cL_law 1206 = .ok (.aload_n 1, 1) := sorry
theorem dL_law_1207 : decode cL_law 1207 = .ok (.invokevirtual 162, 3) := sorry
theorem dL_law_1210 : decode cL_law 1210 = .ok (.aload_n 2, 1) := sorry
theorem dL_law_1211 : decode cL_law 1211 = .ok (.invokevirtual 165, 3) := sorry
theorem dL_law_1214 : decode cL_law 1214 = .ok (.if_icmp .eq 361, 3) := sorry
theorem dL_law_1219 : decode cL_law 1219 = .ok (.aload_n 1, 1) := sorry
theorem dL_law_1220 : decode cL_law 1220 = .ok (.invokevirtual 166, 3) := sorry
theorem dL_law_1223 : decode cL_law 1223 = .ok (.aload_n 2, 1) := sorry
theorem dL_law_1224 : decode cL_law 1224 = .ok (.invokevirtual 169, 3) := sorry
theorem dL_law_1227 : decode cL_law 1227 = .ok (.if_icmp .eq 348, 3) := sorry
theorem dL_law_1232 : decode cL_law 1232 = .ok (.aload_n 1, 1) := sorry
theorem dL_law_1233 : decode cL_law 1233 = .ok (.aload_n 0, 1) := sorry
theorem dL_law_1234 : decode cL_law 1234 = .ok (.iload 4, 2) := sorry
theorem dL_law_1236 : decode cL_law 1236 = .ok (.iconst 1, 1) := sorry
theorem dL_law_1237 : decode cL_law 1237 = .ok (.iadd, 1) := sorry
theorem dL_law_1238 : decode cL_law 1238 = .ok (.iaload, 1) := sorry
theorem dL_law_1239 : decode cL_law 1239 = .ok (.invokevirtual 170, 3) := sorry
theorem dL_law_1242 : decode cL_law 1242 = .ok (.aload_n 2, 1) := sorry
theorem dL_law_1243 : decode cL_law 1243 = .ok (.aload_n 0, 1) := sorry
theorem dL_law_1244 : decode cL_law 1244 = .ok (.iload 4, 2) := sorry
theorem dL_law_1246 : decode cL_law 1246 = .ok (.iconst 1, 1) := sorry
theorem dL_law_1247 : decode cL_law 1247 = .ok (.iadd, 1) := sorry
theorem dL_law_1248 : decode cL_law 1248 = .ok (.iaload, 1) := sorry
theorem dL_law_1249 : decode cL_law 1249 = .ok (.invokevirtual 173, 3) := sorry
theorem dL_law_1252 : decode cL_law 1252 = .ok (.if_icmp .eq 323, 3) := sorry
theorem dL_law_1257 : decode cL_law 1257 = .ok (.aload_n 1, 1) := sorry
theorem dL_law_1258 : decode cL_law 1258 = .ok (.aload_n 0, 1) := sorry
theorem dL_law_1259 : decode cL_law 1259 = .ok (.iload 4, 2) := sorry
theorem dL_law_1261 : decode cL_law 1261 = .ok (.iconst 1, 1) := sorry
theorem dL_law_1262 : decode cL_law 1262 = .ok (.iadd, 1) := sorry
theorem dL_law_1263 : decode cL_law 1263 = .ok (.iaload, 1) := sorry
theorem dL_law_1264 : decode cL_law 1264 = .ok (.invokevirtual 174, 3) := sorry
theorem dL_law_1267 : decode cL_law 1267 = .ok (.aload_n 2, 1) := sorry
theorem dL_law_1268 : decode cL_law 1268 = .ok (.aload_n 0, 1) := sorry
theorem dL_law_1269 : decode cL_law 1269 = .ok (.iload 4, 2) := sorry
theorem dL_law_1271 : decode cL_law 1271 = .ok (.iconst 1, 1) := sorry
theorem dL_law_1272 : decode cL_law 1272 = .ok (.iadd, 1) := sorry
theorem dL_law_1273 : decode cL_law 1273 = .ok (.iaload, 1) := sorry
theorem dL_law_1274 : decode cL_law 1274 = .ok (.invokevirtual 177, 3) := sorry
theorem dL_law_1277 : decode cL_law 1277 = .ok (.if_icmp .eq 298, 3) := sorry
theorem dL_law_1282 : decode cL_law 1282 = .ok (.aload_n 1, 1) := sorry
theorem dL_law_1283 : decode cL_law 1283 = .ok (.aload_n 0, 1) := sorry
theorem dL_law_1284 : decode cL_law 1284 = .ok (.iload 4, 2) := sorry
theorem dL_law_1286 : decode cL_law 1286 = .ok (.iconst 1, 1) := sorry
theorem dL_law_1287 : decode cL_law 1287 = .ok (.iadd, 1) := sorry
theorem dL_law_1288 : decode cL_law 1288 = .ok (.iaload, 1) := sorry
theorem dL_law_1289 : decode cL_law 1289 = .ok (.aload_n 0, 1) := sorry
theorem dL_law_1290 : decode cL_law 1290 = .ok (.iload 4, 2) := sorry
theorem dL_law_1292 : decode cL_law 1292 = .ok (.iconst 2, 1) := sorry
theorem dL_law_1293 : decode cL_law 1293 = .ok (.iadd, 1) := sorry
theorem dL_law_1294 : decode cL_law 1294 = .ok (.iaload, 1) := sorry
theorem dL_law_1295 : decode cL_law 1295 = .ok (.aload_n 0, 1) := sorry
theorem dL_law_1296 : decode cL_law 1296 = .ok (.iload 4, 2) := sorry
theorem dL_law_1298 : decode cL_law 1298 = .ok (.iconst 3, 1) := sorry
theorem dL_law_1299 : decode cL_law 1299 = .ok (.iadd, 1) := sorry
theorem dL_law_1300 : decode cL_law 1300 = .ok (.iaload, 1) := sorry
theorem dL_law_1301 : decode cL_law 1301 = .ok (.invokevirtual 178, 3) := sorry
theorem dL_law_1304 : decode cL_law 1304 = .ok (.aload_n 2, 1) := sorry
theorem dL_law_1305 : decode cL_law 1305 = .ok (.aload_n 0, 1) := sorry
theorem dL_law_1306 : decode cL_law 1306 = .ok (.iload 4, 2) := sorry
theorem dL_law_1308 : decode cL_law 1308 = .ok (.iconst 1, 1) := sorry
theorem dL_law_1309 : decode cL_law 1309 = .ok (.iadd, 1) := sorry
theorem dL_law_1310 : decode cL_law 1310 = .ok (.iaload, 1) := sorry
theorem dL_law_1311 : decode cL_law 1311 = .ok (.aload_n 0, 1) := sorry
theorem dL_law_1312 : decode cL_law 1312 = .ok (.iload 4, 2) := sorry
theorem dL_law_1314 : decode cL_law 1314 = .ok (.iconst 2, 1) := sorry
theorem dL_law_1315 : decode cL_law 1315 = .ok (.iadd, 1) := sorry
theorem dL_law_1316 : decode cL_law 1316 = .ok (.iaload, 1) := sorry
theorem dL_law_1317 : decode cL_law 1317 = .ok (.aload_n 0, 1) := sorry
theorem dL_law_1318 : decode cL_law 1318 = .ok (.iload 4, 2) := sorry
theorem dL_law_1320 : decode cL_law 1320 = .ok (.iconst 3, 1) := sorry
theorem dL_law_1321 : decode cL_law 1321 = .ok (.iadd, 1) := sorry
theorem dL_law_1322 : decode cL_law 1322 = .ok (.iaload, 1) := sorry
theorem dL_law_1323 : decode cL_law 1323 = .ok (.invokevirtual 181, 3) := sorry
theorem dL_law_1326 : decode cL_law 1326 = .ok (.if_icmp .eq 249, 3) := sorry
theorem dL_law_1331 : decode cL_law 1331 = .ok (.aload_n 1, 1) := sorry
theorem dL_law_1332 : decode cL_law 1332 = .ok (.aload_n 0, 1) := sorry
theorem dL_law_1333 : decode cL_law 1333 = .ok (.iload 4, 2) := sorry
theorem dL_law_1335 : decode cL_law 1335 = .ok (.iconst 1, 1) := sorry
theorem dL_law_1336 : decode cL_law 1336 = .ok (.iadd, 1) := sorry
theorem dL_law_1337 : decode cL_law 1337 = .ok (.iaload, 1) := sorry
theorem dL_law_1338 : decode cL_law 1338 = .ok (.invokevirtual 182, 3) := sorry
theorem dL_law_1341 : decode cL_law 1341 = .ok (.aload_n 2, 1) := sorry
theorem dL_law_1342 : decode cL_law 1342 = .ok (.aload_n 0, 1) := sorry
theorem dL_law_1343 : decode cL_law 1343 = .ok (.iload 4, 2) := sorry
theorem dL_law_1345 : decode cL_law 1345 = .ok (.iconst 1, 1) := sorry
theorem dL_law_1346 : decode cL_law 1346 = .ok (.iadd, 1) := sorry
theorem dL_law_1347 : decode cL_law 1347 = .ok (.iaload, 1) := sorry
theorem dL_law_1348 : decode cL_law 1348 = .ok (.invokevirtual 185, 3) := sorry
theorem dL_law_1351 : decode cL_law 1351 = .ok (.if_icmp .eq 224, 3) := sorry
theorem dL_law_1356 : decode cL_law 1356 = .ok (.aload_n 1, 1) := sorry
theorem dL_law_1357 : decode cL_law 1357 = .ok (.aload_n 0, 1) := sorry
theorem dL_law_1358 : decode cL_law 1358 = .ok (.iload 4, 2) := sorry
theorem dL_law_1360 : decode cL_law 1360 = .ok (.iconst 1, 1) := sorry
theorem dL_law_1361 : decode cL_law 1361 = .ok (.iadd, 1) := sorry
theorem dL_law_1362 : decode cL_law 1362 = .ok (.iaload, 1) := sorry
theorem dL_law_1363 : decode cL_law 1363 = .ok (.invokevirtual 186, 3) := sorry
theorem dL_law_1366 : decode cL_law 1366 = .ok (.aload_n 2, 1) := sorry
theorem dL_law_1367 : decode cL_law 1367 = .ok (.aload_n 0, 1) := sorry
theorem dL_law_1368 : decode cL_law 1368 = .ok (.iload 4, 2) := sorry
theorem dL_law_1370 : decode cL_law 1370 = .ok (.iconst 1, 1) := sorry
theorem dL_law_1371 : decode cL_law 1371 = .ok (.iadd, 1) := sorry
theorem dL_law_1372 : decode cL_law 1372 = .ok (.iaload, 1) := sorry
theorem dL_law_1373 : decode cL_law 1373 = .ok (.invokevirtual 189, 3) := sorry
theorem dL_law_1376 : decode cL_law 1376 = .ok (.if_icmp .eq 199, 3) := sorry
theorem dL_law_1381 : decode cL_law 1381 = .ok (.aload_n 1, 1) := sorry
theorem dL_law_1382 : decode cL_law 1382 = .ok (.aload_n 0, 1) := sorry
theorem dL_law_1383 : decode cL_law 1383 = .ok (.iload 4, 2) := sorry
theorem dL_law_1385 : decode cL_law 1385 = .ok (.iconst 1, 1) := sorry
theorem dL_law_1386 : decode cL_law 1386 = .ok (.iadd, 1) := sorry
theorem dL_law_1387 : decode cL_law 1387 = .ok (.iaload, 1) := sorry
theorem dL_law_1388 : decode cL_law 1388 = .ok (.invokevirtual 190, 3) := sorry
theorem dL_law_1391 : decode cL_law 1391 = .ok (.aload_n 2, 1) := sorry
theorem dL_law_1392 : decode cL_law 1392 = .ok (.aload_n 0, 1) := sorry
theorem dL_law_1393 : decode cL_law 1393 = .ok (.iload 4, 2) := sorry
theorem dL_law_1395 : decode cL_law 1395 = .ok (.iconst 1, 1) := sorry
theorem dL_law_1396 : decode cL_law 1396 = .ok (.iadd, 1) := sorry
theorem dL_law_1397 : decode cL_law 1397 = .ok (.iaload, 1) := sorry
theorem dL_law_1398 : decode cL_law 1398 = .ok (.invokevirtual 193, 3) := sorry
theorem dL_law_1401 : decode cL_law 1401 = .ok (.if_icmp .eq 174, 3) := sorry
theorem dL_law_1406 : decode cL_law 1406 = .ok (.aload_n 1, 1) := sorry
theorem dL_law_1407 : decode cL_law 1407 = .ok (.invokevirtual 194, 3) := sorry
theorem dL_law_1410 : decode cL_law 1410 = .ok (.aload_n 2, 1) := sorry
theorem dL_law_1411 : decode cL_law 1411 = .ok (.invokevirtual 197, 3) := sorry
theorem dL_law_1414 : decode cL_law 1414 = .ok (.if_icmp .eq 161, 3) := sorry
theorem dL_law_1419 : decode cL_law 1419 = .ok (.aload_n 1, 1) := sorry
theorem dL_law_1420 : decode cL_law 1420 = .ok (.aload_n 0, 1) := sorry
theorem dL_law_1421 : decode cL_law 1421 = .ok (.iload 4, 2) := sorry
theorem dL_law_1423 : decode cL_law 1423 = .ok (.iconst 1, 1) := sorry
theorem dL_law_1424 : decode cL_law 1424 = .ok (.iadd, 1) := sorry
theorem dL_law_1425 : decode cL_law 1425 = .ok (.iaload, 1) := sorry
theorem dL_law_1426 : decode cL_law 1426 = .ok (.invokevirtual 198, 3) := sorry
theorem dL_law_1429 : decode cL_law 1429 = .ok (.aload_n 2, 1) := sorry
theorem dL_law_1430 : decode cL_law 1430 = .ok (.aload_n 0, 1) := sorry
theorem dL_law_1431 : decode cL_law 1431 = .ok (.iload 4, 2) := sorry
theorem dL_law_1433 : decode cL_law 1433 = .ok (.iconst 1, 1) := sorry
theorem dL_law_1434 : decode cL_law 1434 = .ok (.iadd, 1) := sorry
theorem dL_law_1435 : decode cL_law 1435 = .ok (.iaload, 1) := sorry
theorem dL_law_1436 : decode cL_law 1436 = .ok (.invokevirtual 201, 3) := sorry
theorem dL_law_1439 : decode cL_law 1439 = .ok (.if_icmp .eq 136, 3) := sorry
theorem dL_law_1444 : decode cL_law 1444 = .ok (.aload_n 1, 1) := sorry
theorem dL_law_1445 : decode cL_law 1445 = .ok (.aload_n 0, 1) := sorry
theorem dL_law_1446 : decode cL_law 1446 = .ok (.iload 4, 2) := sorry
theorem dL_law_1448 : decode cL_law 1448 = .ok (.iconst 1, 1) := sorry
theorem dL_law_1449 : decode cL_law 1449 = .ok (.iadd, 1) := sorry
theorem dL_law_1450 : decode cL_law 1450 = .ok (.iaload, 1) := sorry
theorem dL_law_1451 : decode cL_law 1451 = .ok (.invokevirtual 202, 3) := sorry
theorem dL_law_1454 : decode cL_law 1454 = .ok (.aload_n 2, 1) := sorry
theorem dL_law_1455 : decode cL_law 1455 = .ok (.aload_n 0, 1) := sorry
theorem dL_law_1456 : decode cL_law 1456 = .ok (.iload 4, 2) := sorry
theorem dL_law_1458 : decode cL_law 1458 = .ok (.iconst 1, 1) := sorry
theorem dL_law_1459 : decode cL_law 1459 = .ok (.iadd, 1) := sorry
theorem dL_law_1460 : decode cL_law 1460 = .ok (.iaload, 1) := sorry
theorem dL_law_1461 : decode cL_law 1461 = .ok (.invokevirtual 205, 3) := sorry
theorem dL_law_1464 : decode cL_law 1464 = .ok (.if_icmp .eq 111, 3) := sorry
theorem dL_law_1469 : decode cL_law 1469 = .ok (.aload_n 1, 1) := sorry
theorem dL_law_1470 : decode cL_law 1470 = .ok (.aload_n 0, 1) := sorry
theorem dL_law_1471 : decode cL_law 1471 = .ok (.iload 4, 2) := sorry
theorem dL_law_1473 : decode cL_law 1473 = .ok (.iconst 1, 1) := sorry
theorem dL_law_1474 : decode cL_law 1474 = .ok (.iadd, 1) := sorry
theorem dL_law_1475 : decode cL_law 1475 = .ok (.iaload, 1) := sorry
theorem dL_law_1476 : decode cL_law 1476 = .ok (.invokevirtual 206, 3) := sorry
theorem dL_law_1479 : decode cL_law 1479 = .ok (.aload_n 2, 1) := sorry
theorem dL_law_1480 : decode cL_law 1480 = .ok (.aload_n 0, 1) := sorry
theorem dL_law_1481 : decode cL_law 1481 = .ok (.iload 4, 2) := sorry
theorem dL_law_1483 : decode cL_law 1483 = .ok (.iconst 1, 1) := sorry
theorem dL_law_1484 : decode cL_law 1484 = .ok (.iadd, 1) := sorry
theorem dL_law_1485 : decode cL_law 1485 = .ok (.iaload, 1) := sorry
theorem dL_law_1486 : decode cL_law 1486 = .ok (.invokevirtual 209, 3) := sorry
theorem dL_law_1489 : decode cL_law 1489 = .ok (.if_icmp .eq 86, 3) := sorry
theorem dL_law_1494 : decode cL_law 1494 = .ok (.aload_n 1, 1) := sorry
theorem dL_law_1495 : decode cL_law 1495 = .ok (.aload_n 0, 1) := sorry
theorem dL_law_1496 : decode cL_law 1496 = .ok (.iload 4, 2) := sorry
theorem dL_law_1498 : decode cL_law 1498 = .ok (.iconst 1, 1) := sorry
theorem dL_law_1499 : decode cL_law 1499 = .ok (.iadd, 1) := sorry
theorem dL_law_1500 : decode cL_law 1500 = .ok (.iaload, 1) := sorry
theorem dL_law_1501 : decode cL_law 1501 = .ok (.invokevirtual 210, 3) := sorry
theorem dL_law_1504 : decode cL_law 1504 = .ok (.aload_n 2, 1) := sorry
theorem dL_law_1505 : decode cL_law 1505 = .ok (.aload_n 0, 1) := sorry
theorem dL_law_1506 : decode cL_law 1506 = .ok (.iload 4, 2) := sorry
theorem dL_law_1508 : decode cL_law 1508 = .ok (.iconst 1, 1) := sorry
theorem dL_law_1509 : decode cL_law 1509 = .ok (.iadd, 1) := sorry
theorem dL_law_1510 : decode cL_law 1510 = .ok (.iaload, 1) := sorry
theorem dL_law_1511 : decode cL_law 1511 = .ok (.invokevirtual 213, 3) := sorry
theorem dL_law_1514 : decode cL_law 1514 = .ok (.if_icmp .eq 61, 3) := sorry
theorem dL_law_1519 : decode cL_law 1519 = .ok (.aload_n 1, 1) := sorry
theorem dL_law_1520 : decode cL_law 1520 = .ok (.aload_n 0, 1) := sorry
theorem dL_law_1521 : decode cL_law 1521 = .ok (.iload 4, 2) := sorry
theorem dL_law_1523 : decode cL_law 1523 = .ok (.iconst 1, 1) := sorry
theorem dL_law_1524 : decode cL_law 1524 = .ok (.iadd, 1) := sorry
theorem dL_law_1525 : decode cL_law 1525 = .ok (.iaload, 1) := sorry
theorem dL_law_1526 : decode cL_law 1526 = .ok (.aload_n 3, 1) := sorry
theorem dL_law_1527 : decode cL_law 1527 = .ok (.invokestatic 214, 3) := sorry
theorem dL_law_1530 : decode cL_law 1530 = .ok (.istore 5, 2) := sorry
theorem dL_law_1532 : decode cL_law 1532 = .ok (.aload_n 2, 1) := sorry
theorem dL_law_1533 : decode cL_law 1533 = .ok (.aload_n 0, 1) := sorry
theorem dL_law_1534 : decode cL_law 1534 = .ok (.iload 4, 2) := sorry
theorem dL_law_1536 : decode cL_law 1536 = .ok (.iconst 1, 1) := sorry
theorem dL_law_1537 : decode cL_law 1537 = .ok (.iadd, 1) := sorry
theorem dL_law_1538 : decode cL_law 1538 = .ok (.iaload, 1) := sorry
theorem dL_law_1539 : decode cL_law 1539 = .ok (.invokevirtual 217, 3) := sorry
theorem dL_law_1542 : decode cL_law 1542 = .ok (.istore 6, 2) := sorry
theorem dL_law_1544 : decode cL_law 1544 = .ok (.aload_n 2, 1) := sorry
theorem dL_law_1545 : decode cL_law 1545 = .ok (.invokevirtual 50, 3) := sorry
theorem dL_law_1548 : decode cL_law 1548 = .ok (.iload 5, 2) := sorry
theorem dL_law_1550 : decode cL_law 1550 = .ok (.if_icmp .eq 5, 3) := sorry
theorem dL_law_1555 : decode cL_law 1555 = .ok (.iload 5, 2) := sorry
theorem dL_law_1557 : decode cL_law 1557 = .ok (.ifCond .ne 15, 3) := sorry
theorem dL_law_1572 : decode cL_law 1572 = .ok (.goto 3, 3) := sorry
theorem dL_law_1575 : decode cL_law 1575 = .ok (.iinc 4 5, 3) := sorry
theorem dL_law_1578 : decode cL_law 1578 = .ok (.goto (-1555), 3) := sorry
theorem dL_law_1581 : decode cL_law 1581 = .ok (.iconst 1, 1) := sorry
theorem dL_law_1582 : decode cL_law 1582 = .ok (.ireturn, 1) := sorry
set_option maxRecDepth 20000 in
theorem ggL_law_X11_init : GoodIn wsL_law wsX11_init := sorry
set_option maxRecDepth 20000 in
theorem gL_law_X11_init : GoodIn wsL_law wsX11_init := sorry
set_option maxRecDepth 20000 in
theorem ggL_law_X12_init : GoodIn wsL_law wsX12_init := sorry
set_option maxRecDepth 20000 in
theorem gL_law_X12_init : GoodIn wsL_law wsX12_init := sorry
set_option maxRecDepth 20000 in
theorem ggL_law_X11_sign : GoodIn wsL_law wsX11_sign := sorry
set_option maxRecDepth 20000 in
theorem gL_law_X11_sign : GoodIn wsL_law (wsV RL 26 RX11 yX11_sign wsX11_sign) := sorry
set_option maxRecDepth 20000 in
theorem ggL_law_X12_sign : GoodIn wsL_law wsX12_sign := sorry
set_option maxRecDepth 20000 in
theorem gL_law_X12_sign : GoodIn wsL_law (wsV RL 29 RX12 yX12_sign wsX12_sign) := sorry
set_option maxRecDepth 20000 in
theorem ggL_law_X11_end : GoodIn wsL_law wsX11_end := sorry
set_option maxRecDepth 20000 in
theorem gL_law_X11_end : GoodIn wsL_law (wsV RL 30 RX11 yX11_end wsX11_end) := sorry
set_option maxRecDepth 20000 in
theorem ggL_law_X12_end : GoodIn wsL_law wsX12_end := sorry
set_option maxRecDepth 20000 in
theorem gL_law_X12_end : GoodIn wsL_law (wsV RL 34 RX12 yX12_end wsX12_end) := sorry
set_option maxRecDepth 20000 in
theorem ggL_law_X11_market : GoodIn wsL_law wsX11_market := sorry
set_option maxRecDepth 20000 in
theorem gL_law_X11_market : GoodIn wsL_law (wsV RL 35 RX11 yX11_market wsX11_market) := sorry
set_option maxRecDepth 20000 in
theorem ggL_law_X12_market : GoodIn wsL_law wsX12_market := sorry
set_option maxRecDepth 20000 in
theorem gL_law_X12_market : GoodIn wsL_law (wsV RL 39 RX12 yX12_market wsX12_market) := sorry
set_option maxRecDepth 20000 in
theorem ggL_law_X11_rule : GoodIn wsL_law wsX11_rule := sorry
set_option maxRecDepth 20000 in
theorem gL_law_X11_rule : GoodIn wsL_law (wsV RL 40 RX11 yX11_rule wsX11_rule) := sorry
set_option maxRecDepth 20000 in
theorem ggL_law_X12_rule : GoodIn wsL_law wsX12_rule := sorry
set_option maxRecDepth 20000 in
theorem gL_law_X12_rule : GoodIn wsL_law (wsV RL 43 RX12 yX12_rule wsX12_rule) := sorry
set_option maxRecDepth 20000 in
theorem ggL_law_L_of : GoodIn wsL_law wsL_of := sorry
set_option maxRecDepth 20000 in
theorem gL_law_L_of : GoodIn wsL_law (va_wsS RL 44 yL_of wsL_of) := sorry
set_option maxRecDepth 20000 in
theorem ggL_law_X12_of : GoodIn wsL_law wsX12_of := sorry
set_option maxRecDepth 20000 in
theorem gL_law_X12_of : GoodIn wsL_law (wsV RL 49 RX12 yX12_of wsX12_of) := sorry
set_option maxRecDepth 20000 in
theorem ggL_law_X12_thrown : GoodIn wsL_law wsX12_thrown := sorry
set_option maxRecDepth 20000 in
theorem gL_law_X12_thrown : GoodIn wsL_law (wsV RL 50 RX12 yX12_thrown wsX12_thrown) := sorry
set_option maxRecDepth 20000 in
theorem ggL_law_L_thing : GoodIn wsL_law wsL_thing := sorry
set_option maxRecDepth 20000 in
theorem gL_law_L_thing : GoodIn wsL_law (va_wsS RL 53 yL_thing wsL_thing) := sorry
set_option maxRecDepth 20000 in
theorem ggL_law_X12_thing : GoodIn wsL_law wsX12_thing := sorry
set_option maxRecDepth 20000 in
theorem gL_law_X12_thing : GoodIn wsL_law (wsV RL 55 RX12 yX12_thing wsX12_thing) := sorry
set_option maxRecDepth 20000 in
theorem ggL_law_X11_between : GoodIn wsL_law wsX11_between := sorry
set_option maxRecDepth 20000 in
theorem gL_law_X11_between : GoodIn wsL_law (wsV RL 56 RX11 yX11_between wsX11_between) := sorry
set_option maxRecDepth 20000 in
theorem ggL_law_X12_between : GoodIn wsL_law wsX12_between := sorry
set_option maxRecDepth 20000 in
theorem gL_law_X12_between : GoodIn wsL_law (wsV RL 60 RX12 yX12_between wsX12_between) := sorry
set_option maxRecDepth 20000 in
theorem ggL_law_X11_law : GoodIn wsL_law wsX11_law := sorry
set_option maxRecDepth 20000 in
theorem gL_law_X11_law : GoodIn wsL_law (wsV RL 61 RX11 yX11_law wsX11_law) := sorry
set_option maxRecDepth 20000 in
theorem ggL_law_X12_law : GoodIn wsL_law wsX12_law := sorry
set_option maxRecDepth 20000 in
theorem gL_law_X12_law : GoodIn wsL_law (wsV RL 64 RX12 yX12_law wsX12_law) := sorry
set_option maxRecDepth 20000 in
theorem ggL_law_X11_sheet : GoodIn wsL_law wsX11_sheet := sorry
set_option maxRecDepth 20000 in
theorem gL_law_X11_sheet : GoodIn wsL_law (wsV RL 65 RX11 yX11_sheet wsX11_sheet) := sorry
set_option maxRecDepth 20000 in
theorem ggL_law_X12_sheet : GoodIn wsL_law wsX12_sheet := sorry
set_option maxRecDepth 20000 in
theorem gL_law_X12_sheet : GoodIn wsL_law (wsV RL 69 RX12 yX12_sheet wsX12_sheet) := sorry
set_option maxRecDepth 20000 in
theorem ggL_law_X11_worth : GoodIn wsL_law wsX11_worth := sorry
set_option maxRecDepth 20000 in
theorem gL_law_X11_worth : GoodIn wsL_law (wsV RL 70 RX11 yX11_worth wsX11_worth) := sorry
set_option maxRecDepth 20000 in
theorem ggL_law_X12_worth : GoodIn wsL_law wsX12_worth := sorry
set_option maxRecDepth 20000 in
theorem gL_law_X12_worth : GoodIn wsL_law (wsV RL 73 RX12 yX12_worth wsX12_worth) := sorry
set_option maxRecDepth 20000 in
theorem ggL_law_X11_can : GoodIn wsL_law wsX11_can := sorry
set_option maxRecDepth 20000 in
theorem gL_law_X11_can : GoodIn wsL_law (wsV RL 74 RX11 yX11_can wsX11_can) := sorry
set_option maxRecDepth 20000 in
theorem ggL_law_X12_can : GoodIn wsL_law wsX12_can := sorry
set_option maxRecDepth 20000 in
theorem gL_law_X12_can : GoodIn wsL_law (wsV RL 77 RX12 yX12_can wsX12_can) := sorry
set_option maxRecDepth 20000 in
theorem ggL_law_X11_sell : GoodIn wsL_law wsX11_sell := sorry
set_option maxRecDepth 20000 in
theorem gL_law_X11_sell : GoodIn wsL_law (wsV RL 78 RX11 yX11_sell wsX11_sell) := sorry
set_option maxRecDepth 20000 in
theorem ggL_law_X12_sell : GoodIn wsL_law wsX12_sell := sorry
set_option maxRecDepth 20000 in
theorem gL_law_X12_sell : GoodIn wsL_law (wsV RL 81 RX12 yX12_sell wsX12_sell) := sorry
set_option maxRecDepth 20000 in
theorem ggL_law_X11_undo : GoodIn wsL_law wsX11_undo := sorry
set_option maxRecDepth 20000 in
theorem gL_law_X11_undo : GoodIn wsL_law (wsV RL 82 RX11 yX11_undo wsX11_undo) := sorry
set_option maxRecDepth 20000 in
theorem ggL_law_X12_undo : GoodIn wsL_law wsX12_undo := sorry
set_option maxRecDepth 20000 in
theorem gL_law_X12_undo : GoodIn wsL_law (wsV RL 85 RX12 yX12_undo wsX12_undo) := sorry
set_option maxRecDepth 20000 in
theorem ggL_law_X11_judge : GoodIn wsL_law wsX11_judge := sorry
set_option maxRecDepth 20000 in
theorem gL_law_X11_judge : GoodIn wsL_law (wsV RL 86 RX11 yX11_judge wsX11_judge) := sorry
set_option maxRecDepth 20000 in
theorem ggL_law_X12_judge : GoodIn wsL_law wsX12_judge := sorry
set_option maxRecDepth 20000 in
theorem gL_law_X12_judge : GoodIn wsL_law (wsV RL 89 RX12 yX12_judge wsX12_judge) := sorry
set_option maxRecDepth 20000 in
theorem ggL_law_X11_open : GoodIn wsL_law wsX11_open := sorry
set_option maxRecDepth 20000 in
theorem gL_law_X11_open : GoodIn wsL_law (wsV RL 90 RX11 yX11_open wsX11_open) := sorry
set_option maxRecDepth 20000 in
theorem ggL_law_X12_open : GoodIn wsL_law wsX12_open := sorry
set_option maxRecDepth 20000 in
theorem gL_law_X12_open : GoodIn wsL_law (wsV RL 93 RX12 yX12_open wsX12_open) := sorry
set_option maxRecDepth 20000 in
theorem ggL_law_X11_run : GoodIn wsL_law wsX11_run := sorry
set_option maxRecDepth 20000 in
theorem gL_law_X11_run : GoodIn wsL_law (wsV RL 94 RX11 yX11_run wsX11_run) := sorry
set_option maxRecDepth 20000 in
theorem ggL_law_X12_run : GoodIn wsL_law wsX12_run := sorry
set_option maxRecDepth 20000 in
theorem gL_law_X12_run : GoodIn wsL_law (wsV RL 97 RX12 yX12_run wsX12_run) := sorry
set_option maxRecDepth 20000 in
theorem ggL_law_X11_partner : GoodIn wsL_law wsX11_partner := sorry
set_option maxRecDepth 20000 in
theorem gL_law_X11_partner : GoodIn wsL_law (wsV RL 98 RX11 yX11_partner wsX11_partner) := sorry
set_option maxRecDepth 20000 in
theorem ggL_law_X12_partner : GoodIn wsL_law wsX12_partner := sorry
set_option maxRecDepth 20000 in
theorem gL_law_X12_partner : GoodIn wsL_law (wsV RL 101 RX12 yX12_partner wsX12_partner) := sorry
set_option maxRecDepth 20000 in
theorem ggL_law_X11_day : GoodIn wsL_law wsX11_day := sorry
set_option maxRecDepth 20000 in
theorem gL_law_X11_day : GoodIn wsL_law (wsV RL 102 RX11 yX11_day wsX11_day) := sorry
set_option maxRecDepth 20000 in
theorem ggL_law_X12_day : GoodIn wsL_law wsX12_day := sorry
set_option maxRecDepth 20000 in
theorem gL_law_X12_day : GoodIn wsL_law (wsV RL 105 RX12 yX12_day wsX12_day) := sorry
set_option maxRecDepth 20000 in
theorem ggL_law_X11_quarrel : GoodIn wsL_law wsX11_quarrel := sorry
set_option maxRecDepth 20000 in
theorem gL_law_X11_quarrel : GoodIn wsL_law (wsV RL 106 RX11 yX11_quarrel wsX11_quarrel) := sorry
set_option maxRecDepth 20000 in
theorem ggL_law_X12_quarrel : GoodIn wsL_law wsX12_quarrel := sorry
set_option maxRecDepth 20000 in
theorem gL_law_X12_quarrel : GoodIn wsL_law (wsV RL 109 RX12 yX12_quarrel wsX12_quarrel) := sorry
set_option maxRecDepth 20000 in
theorem ggL_law_X11_bars : GoodIn wsL_law wsX11_bars := sorry
set_option maxRecDepth 20000 in
theorem gL_law_X11_bars : GoodIn wsL_law (wsV RL 110 RX11 yX11_bars wsX11_bars) := sorry
set_option maxRecDepth 20000 in
theorem ggL_law_X12_bars : GoodIn wsL_law wsX12_bars := sorry
set_option maxRecDepth 20000 in
theorem gL_law_X12_bars : GoodIn wsL_law (wsV RL 113 RX12 yX12_bars wsX12_bars) := sorry
set_option maxRecDepth 20000 in
theorem ggL_law_X11_without : GoodIn wsL_law wsX11_without := sorry
set_option maxRecDepth 20000 in
theorem gL_law_X11_without : GoodIn wsL_law (wsV RL 114 RX11 yX11_without wsX11_without) := sorry
set_option maxRecDepth 20000 in
theorem ggL_law_X12_without : GoodIn wsL_law wsX12_without := sorry
set_option maxRecDepth 20000 in
theorem gL_law_X12_without : GoodIn wsL_law (wsV RL 117 RX12 yX12_without wsX12_without) := sorry
set_option maxRecDepth 20000 in
theorem ggL_law_X11_pair : GoodIn wsL_law wsX11_pair := sorry
set_option maxRecDepth 20000 in
theorem gL_law_X11_pair : GoodIn wsL_law (wsV RL 118 RX11 yX11_pair wsX11_pair) := sorry
set_option maxRecDepth 20000 in
theorem ggL_law_X12_pair : GoodIn wsL_law wsX12_pair := sorry
set_option maxRecDepth 20000 in
theorem gL_law_X12_pair : GoodIn wsL_law (wsV RL 121 RX12 yX12_pair wsX12_pair) := sorry
set_option maxRecDepth 20000 in
theorem ggL_law_X11_wealth : GoodIn wsL_law wsX11_wealth := sorry
set_option maxRecDepth 20000 in
theorem gL_law_X11_wealth : GoodIn wsL_law (wsV RL 122 RX11 yX11_wealth wsX11_wealth) := sorry
set_option maxRecDepth 20000 in
theorem ggL_law_X12_wealth : GoodIn wsL_law wsX12_wealth := sorry
set_option maxRecDepth 20000 in
theorem gL_law_X12_wealth : GoodIn wsL_law (wsV RL 125 RX12 yX12_wealth wsX12_wealth) := sorry
set_option maxRecDepth 20000 in
theorem ggL_law_X11_richest : GoodIn wsL_law wsX11_richest := sorry
set_option maxRecDepth 20000 in
theorem gL_law_X11_richest : GoodIn wsL_law (wsV RL 126 RX11 yX11_richest wsX11_richest) := sorry
set_option maxRecDepth 20000 in
theorem ggL_law_X12_richest : GoodIn wsL_law wsX12_richest := sorry
set_option maxRecDepth 20000 in
theorem gL_law_X12_richest : GoodIn wsL_law (wsV RL 129 RX12 yX12_richest wsX12_richest) := sorry
set_option maxRecDepth 20000 in
theorem ggL_law_X11_use : GoodIn wsL_law wsX11_use := sorry
set_option maxRecDepth 20000 in
theorem gL_law_X11_use : GoodIn wsL_law (wsV RL 130 RX11 yX11_use wsX11_use) := sorry
set_option maxRecDepth 20000 in
theorem ggL_law_X12_use : GoodIn wsL_law wsX12_use := sorry
set_option maxRecDepth 20000 in
theorem gL_law_X12_use : GoodIn wsL_law (wsV RL 133 RX12 yX12_use wsX12_use) := sorry
set_option maxRecDepth 20000 in
theorem ggL_law_X11_days : GoodIn wsL_law wsX11_days := sorry
set_option maxRecDepth 20000 in
theorem gL_law_X11_days : GoodIn wsL_law (wsV RL 134 RX11 yX11_days wsX11_days) := sorry
set_option maxRecDepth 20000 in
theorem ggL_law_X12_days : GoodIn wsL_law wsX12_days := sorry
set_option maxRecDepth 20000 in
theorem gL_law_X12_days : GoodIn wsL_law (wsV RL 137 RX12 yX12_days wsX12_days) := sorry
set_option maxRecDepth 20000 in
theorem ggL_law_X11_feast : GoodIn wsL_law wsX11_feast := sorry
set_option maxRecDepth 20000 in
theorem gL_law_X11_feast : GoodIn wsL_law (wsV RL 138 RX11 yX11_feast wsX11_feast) := sorry
set_option maxRecDepth 20000 in
theorem ggL_law_X12_feast : GoodIn wsL_law wsX12_feast := sorry
set_option maxRecDepth 20000 in
theorem gL_law_X12_feast : GoodIn wsL_law (wsV RL 141 RX12 yX12_feast wsX12_feast) := sorry
set_option maxRecDepth 20000 in
theorem ggL_law_X11_prepare : GoodIn wsL_law wsX11_prepare := sorry
set_option maxRecDepth 20000 in
theorem gL_law_X11_prepare : GoodIn wsL_law (wsV RL 142 RX11 yX11_prepare wsX11_prepare) := sorry
set_option maxRecDepth 20000 in
theorem ggL_law_X12_prepare : GoodIn wsL_law wsX12_prepare := sorry
set_option maxRecDepth 20000 in
theorem gL_law_X12_prepare : GoodIn wsL_law (wsV RL 145 RX12 yX12_prepare wsX12_prepare) := sorry
set_option maxRecDepth 20000 in
theorem ggL_law_X11_maySwap : GoodIn wsL_law wsX11_maySwap := sorry
set_option maxRecDepth 20000 in
theorem gL_law_X11_maySwap : GoodIn wsL_law (wsV RL 146 RX11 yX11_maySwap wsX11_maySwap) := sorry
set_option maxRecDepth 20000 in
theorem ggL_law_X12_maySwap : GoodIn wsL_law wsX12_maySwap := sorry
set_option maxRecDepth 20000 in
theorem gL_law_X12_maySwap : GoodIn wsL_law (wsV RL 149 RX12 yX12_maySwap wsX12_maySwap) := sorry
set_option maxRecDepth 20000 in
theorem ggL_law_X11_swap : GoodIn wsL_law wsX11_swap := sorry
set_option maxRecDepth 20000 in
theorem gL_law_X11_swap : GoodIn wsL_law (wsV RL 150 RX11 yX11_swap wsX11_swap) := sorry
set_option maxRecDepth 20000 in
theorem ggL_law_X12_swap : GoodIn wsL_law wsX12_swap := sorry
set_option maxRecDepth 20000 in
theorem gL_law_X12_swap : GoodIn wsL_law (wsV RL 153 RX12 yX12_swap wsX12_swap) := sorry
set_option maxRecDepth 20000 in
theorem ggL_law_X11_good : GoodIn wsL_law wsX11_good := sorry
set_option maxRecDepth 20000 in
theorem gL_law_X11_good : GoodIn wsL_law (wsV RL 154 RX11 yX11_good wsX11_good) := sorry
set_option maxRecDepth 20000 in
theorem ggL_law_X12_good : GoodIn wsL_law wsX12_good := sorry
set_option maxRecDepth 20000 in
theorem gL_law_X12_good : GoodIn wsL_law (wsV RL 157 RX12 yX12_good wsX12_good) := sorry
set_option maxRecDepth 20000 in
theorem ggL_law_X11_rests : GoodIn wsL_law wsX11_rests := sorry
set_option maxRecDepth 20000 in
theorem gL_law_X11_rests : GoodIn wsL_law (wsV RL 158 RX11 yX11_rests wsX11_rests) := sorry
set_option maxRecDepth 20000 in
theorem ggL_law_X12_rests : GoodIn wsL_law wsX12_rests := sorry
set_option maxRecDepth 20000 in
theorem gL_law_X12_rests : GoodIn wsL_law (wsV RL 161 RX12 yX12_rests wsX12_rests) := sorry
set_option maxRecDepth 20000 in
theorem ggL_law_X11_friends : GoodIn wsL_law wsX11_friends := sorry
set_option maxRecDepth 20000 in
theorem gL_law_X11_friends : GoodIn wsL_law (wsV RL 162 RX11 yX11_friends wsX11_friends) := sorry
set_option maxRecDepth 20000 in
theorem ggL_law_X12_friends : GoodIn wsL_law wsX12_friends := sorry
set_option maxRecDepth 20000 in
theorem gL_law_X12_friends : GoodIn wsL_law (wsV RL 165 RX12 yX12_friends wsX12_friends) := sorry
set_option maxRecDepth 20000 in
theorem ggL_law_X11_states : GoodIn wsL_law wsX11_states := sorry
set_option maxRecDepth 20000 in
theorem gL_law_X11_states : GoodIn wsL_law (wsV RL 166 RX11 yX11_states wsX11_states) := sorry
set_option maxRecDepth 20000 in
theorem ggL_law_X12_states : GoodIn wsL_law wsX12_states := sorry
set_option maxRecDepth 20000 in
theorem gL_law_X12_states : GoodIn wsL_law (wsV RL 169 RX12 yX12_states wsX12_states) := sorry
set_option maxRecDepth 20000 in
theorem ggL_law_X11_estate : GoodIn wsL_law wsX11_estate := sorry
set_option maxRecDepth 20000 in
theorem gL_law_X11_estate : GoodIn wsL_law (wsV RL 170 RX11 yX11_estate wsX11_estate) := sorry
set_option maxRecDepth 20000 in
theorem ggL_law_X12_estate : GoodIn wsL_law wsX12_estate := sorry
set_option maxRecDepth 20000 in
theorem gL_law_X12_estate : GoodIn wsL_law (wsV RL 173 RX12 yX12_estate wsX12_estate) := sorry
set_option maxRecDepth 20000 in
theorem ggL_law_X11_greedy : GoodIn wsL_law wsX11_greedy := sorry
set_option maxRecDepth 20000 in
theorem gL_law_X11_greedy : GoodIn wsL_law (wsV RL 174 RX11 yX11_greedy wsX11_greedy) := sorry
set_option maxRecDepth 20000 in
theorem ggL_law_X12_greedy : GoodIn wsL_law wsX12_greedy := sorry
set_option maxRecDepth 20000 in
theorem gL_law_X12_greedy : GoodIn wsL_law (wsV RL 177 RX12 yX12_greedy wsX12_greedy) := sorry
set_option maxRecDepth 20000 in
theorem ggL_law_X11_told : GoodIn wsL_law wsX11_told := sorry
set_option maxRecDepth 20000 in
theorem gL_law_X11_told : GoodIn wsL_law (wsV RL 178 RX11 yX11_told wsX11_told) := sorry
set_option maxRecDepth 20000 in
theorem ggL_law_X12_told : GoodIn wsL_law wsX12_told := sorry
set_option maxRecDepth 20000 in
theorem gL_law_X12_told : GoodIn wsL_law (wsV RL 181 RX12 yX12_told wsX12_told) := sorry
set_option maxRecDepth 20000 in
theorem ggL_law_X11_explains : GoodIn wsL_law wsX11_explains := sorry
set_option maxRecDepth 20000 in
theorem gL_law_X11_explains : GoodIn wsL_law (wsV RL 182 RX11 yX11_explains wsX11_explains) := sorry
set_option maxRecDepth 20000 in
theorem ggL_law_X12_explains : GoodIn wsL_law wsX12_explains := sorry
set_option maxRecDepth 20000 in
theorem gL_law_X12_explains : GoodIn wsL_law (wsV RL 185 RX12 yX12_explains wsX12_explains) := sorry
set_option maxRecDepth 20000 in
theorem ggL_law_X11_steady : GoodIn wsL_law wsX11_steady := sorry
set_option maxRecDepth 20000 in
theorem gL_law_X11_steady : GoodIn wsL_law (wsV RL 186 RX11 yX11_steady wsX11_steady) := sorry
set_option maxRecDepth 20000 in
theorem ggL_law_X12_steady : GoodIn wsL_law wsX12_steady := sorry
set_option maxRecDepth 20000 in
theorem gL_law_X12_steady : GoodIn wsL_law (wsV RL 189 RX12 yX12_steady wsX12_steady) := sorry
set_option maxRecDepth 20000 in
theorem ggL_law_X11_bear : GoodIn wsL_law wsX11_bear := sorry
set_option maxRecDepth 20000 in
theorem gL_law_X11_bear : GoodIn wsL_law (wsV RL 190 RX11 yX11_bear wsX11_bear) := sorry
set_option maxRecDepth 20000 in
theorem ggL_law_X12_bear : GoodIn wsL_law wsX12_bear := sorry
set_option maxRecDepth 20000 in
theorem gL_law_X12_bear : GoodIn wsL_law (wsV RL 193 RX12 yX12_bear wsX12_bear) := sorry
set_option maxRecDepth 20000 in
theorem ggL_law_X11_today : GoodIn wsL_law wsX11_today := sorry
set_option maxRecDepth 20000 in
theorem gL_law_X11_today : GoodIn wsL_law (wsV RL 194 RX11 yX11_today wsX11_today) := sorry
set_option maxRecDepth 20000 in
theorem ggL_law_X12_today : GoodIn wsL_law wsX12_today := sorry
set_option maxRecDepth 20000 in
theorem gL_law_X12_today : GoodIn wsL_law (wsV RL 197 RX12 yX12_today wsX12_today) := sorry
set_option maxRecDepth 20000 in
theorem ggL_law_X11_seed : GoodIn wsL_law wsX11_seed := sorry
set_option maxRecDepth 20000 in
theorem gL_law_X11_seed : GoodIn wsL_law (wsV RL 198 RX11 yX11_seed wsX11_seed) := sorry
set_option maxRecDepth 20000 in
theorem ggL_law_X12_seed : GoodIn wsL_law wsX12_seed := sorry
set_option maxRecDepth 20000 in
theorem gL_law_X12_seed : GoodIn wsL_law (wsV RL 201 RX12 yX12_seed wsX12_seed) := sorry
set_option maxRecDepth 20000 in
theorem ggL_law_X11_keep : GoodIn wsL_law wsX11_keep := sorry
set_option maxRecDepth 20000 in
theorem gL_law_X11_keep : GoodIn wsL_law (wsV RL 202 RX11 yX11_keep wsX11_keep) := sorry
set_option maxRecDepth 20000 in
theorem ggL_law_X12_keep : GoodIn wsL_law wsX12_keep := sorry
set_option maxRecDepth 20000 in
theorem gL_law_X12_keep : GoodIn wsL_law (wsV RL 205 RX12 yX12_keep wsX12_keep) := sorry
set_option maxRecDepth 20000 in
theorem ggL_law_X11_again : GoodIn wsL_law wsX11_again := sorry
set_option maxRecDepth 20000 in
theorem gL_law_X11_again : GoodIn wsL_law (wsV RL 206 RX11 yX11_again wsX11_again) := sorry
set_option maxRecDepth 20000 in
theorem ggL_law_X12_again : GoodIn wsL_law wsX12_again := sorry
set_option maxRecDepth 20000 in
theorem gL_law_X12_again : GoodIn wsL_law (wsV RL 209 RX12 yX12_again wsX12_again) := sorry
set_option maxRecDepth 20000 in
theorem ggL_law_X11_count : GoodIn wsL_law wsX11_count := sorry
set_option maxRecDepth 20000 in
theorem gL_law_X11_count : GoodIn wsL_law (wsV RL 210 RX11 yX11_count wsX11_count) := sorry
set_option maxRecDepth 20000 in
theorem ggL_law_X12_count : GoodIn wsL_law wsX12_count := sorry
set_option maxRecDepth 20000 in
theorem gL_law_X12_count : GoodIn wsL_law (wsV RL 213 RX12 yX12_count wsX12_count) := sorry
set_option maxRecDepth 20000 in
theorem ggL_law_L_row : GoodIn wsL_law wsL_row := sorry
set_option maxRecDepth 20000 in
theorem gL_law_L_row : GoodIn wsL_law (va_wsS RL 214 yL_row wsL_row) := sorry
set_option maxRecDepth 20000 in
theorem ggL_law_X12_row : GoodIn wsL_law wsX12_row := sorry
set_option maxRecDepth 20000 in
theorem gL_law_X12_row : GoodIn wsL_law (wsV RL 217 RX12 yX12_row wsX12_row) := sorry
theorem inX0 : ∀ w ∈ wsX00, w ∈ lw_tbl := sorry
theorem inX1 : ∀ w ∈ wsX10, w ∈ lw_tbl := sorry
theorem inX2 : ∀ w ∈ wsX20, w ∈ lw_tbl := sorry
theorem inX3 : ∀ w ∈ wsX30, w ∈ lw_tbl := sorry
theorem inX4 : ∀ w ∈ wsX40, w ∈ lw_tbl := sorry
theorem inX5 : ∀ w ∈ wsX50, w ∈ lw_tbl := sorry
theorem inX6 : ∀ w ∈ wsX60, w ∈ lw_tbl := sorry
theorem inX7 : ∀ w ∈ wsX70, w ∈ lw_tbl := sorry
theorem inX8 : ∀ w ∈ wsX80, w ∈ lw_tbl := sorry
theorem inX9 : ∀ w ∈ wsX90, w ∈ lw_tbl := sorry
theorem inX10 : ∀ w ∈ wsX100, w ∈ lw_tbl := sorry
theorem inX11 : ∀ w ∈ wsX110, w ∈ lw_tbl := sorry
theorem inX12 : ∀ w ∈ wsX120, w ∈ lw_tbl := sorry
theorem wsL_law_x0 : ∀ w ∈ (vx_atS RX11 119 "java/util/NoSuchElementException" ["java/lang/RuntimeException", "java/lang/Exception"]).filter goodWord, w ∈ lw_tbl := sorry
set_option maxRecDepth 20000 in
theorem wl_1 : ∀ w ∈ wsL_law_r1, w ∈ lw_tbl := sorry
set_option maxRecDepth 20000 in
theorem wl_2 : ∀ w ∈ wsL_law_r2, w ∈ lw_tbl := sorry
set_option maxRecDepth 20000 in
theorem wl_3 : ∀ w ∈ wsL_law_r3, w ∈ lw_tbl := sorry
set_option maxRecDepth 20000 in
theorem wl_4 : ∀ w ∈ wsL_law_r4, w ∈ lw_tbl := sorry
set_option maxRecDepth 20000 in
theorem wl_5 : ∀ w ∈ wsL_law_r5, w ∈ lw_tbl := sorry
set_option maxRecDepth 20000 in
theorem wl_6 : ∀ w ∈ wsL_law_r6, w ∈ lw_tbl := sorry
set_option maxRecDepth 20000 in
theorem wl_7 : ∀ w ∈ wsL_law_r7, w ∈ lw_tbl := sorry
set_option maxRecDepth 20000 in
theorem wl_8 : ∀ w ∈ wsL_law_r8, w ∈ lw_tbl := sorry
set_option maxRecDepth 20000 in
theorem wl_9 : ∀ w ∈ wsL_law_r9, w ∈ lw_tbl := sorry
set_option maxRecDepth 20000 in
theorem wl_10 : ∀ w ∈ wsL_law_r10, w ∈ lw_tbl := sorry
set_option maxRecDepth 20000 in
theorem wl_11 : ∀ w ∈ wsL_law_r11, w ∈ lw_tbl := sorry
set_option maxRecDepth 20000 in
theorem wl_12 : ∀ w ∈ wsL_law_r12, w ∈ lw_tbl := sorry
set_option maxRecDepth 20000 in
theorem wl_13 : ∀ w ∈ wsL_law_r13, w ∈ lw_tbl := sorry
set_option maxRecDepth 20000 in
theorem wl_14 : ∀ w ∈ wsL_law_r14, w ∈ lw_tbl := sorry
set_option maxRecDepth 20000 in
theorem wl_15 : ∀ w ∈ wsL_law_r15, w ∈ lw_tbl := sorry
set_option maxRecDepth 20000 in
theorem wl_16 : ∀ w ∈ wsL_law_r16, w ∈ lw_tbl := sorry
set_option maxRecDepth 20000 in
theorem wl_17 : ∀ w ∈ wsL_law_r17, w ∈ lw_tbl := sorry
set_option maxRecDepth 20000 in
theorem wl_18 : ∀ w ∈ wsL_law_r18, w ∈ lw_tbl := sorry
set_option maxRecDepth 20000 in
theorem wl_19 : ∀ w ∈ wsL_law_r19, w ∈ lw_tbl := sorry
set_option maxRecDepth 20000 in
theorem wl_20 : ∀ w ∈ wsL_law_r20, w ∈ lw_tbl := sorry
set_option maxRecDepth 20000 in
theorem wl_21 : ∀ w ∈ wsL_law_r21, w ∈ lw_tbl := sorry
set_option maxRecDepth 20000 in
theorem wl_22 : ∀ w ∈ wsL_law_r22, w ∈ lw_tbl := sorry
set_option maxRecDepth 20000 in
theorem wl_23 : ∀ w ∈ wsL_law_r23, w ∈ lw_tbl := sorry
set_option maxRecDepth 20000 in
theorem wl_24 : ∀ w ∈ wsL_law_r24, w ∈ lw_tbl := sorry
theorem wsL_law_in : ∀ w ∈ wsL_law, w ∈ lw_tbl := sorry
