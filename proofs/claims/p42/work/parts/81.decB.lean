theorem dL_isMade_312 : decode cL_isMade 312 = .ok (.if_icmp .ne 37, 3) := by decide +kernel
theorem dL_isMade_315 : decode cL_isMade 315 = .ok (.aload_n 1, 1) := by decide +kernel
theorem dL_isMade_316 : decode cL_isMade 316 = .ok (.iload 5, 2) := by decide +kernel
theorem dL_isMade_318 : decode cL_isMade 318 = .ok (.iconst 1, 1) := by decide +kernel
theorem dL_isMade_319 : decode cL_isMade 319 = .ok (.iadd, 1) := by decide +kernel
theorem dL_isMade_320 : decode cL_isMade 320 = .ok (.iaload, 1) := by decide +kernel
theorem dL_isMade_321 : decode cL_isMade 321 = .ok (.aload_n 1, 1) := by decide +kernel
theorem dL_isMade_322 : decode cL_isMade 322 = .ok (.iload 11, 2) := by decide +kernel
theorem dL_isMade_324 : decode cL_isMade 324 = .ok (.iconst 1, 1) := by decide +kernel
theorem dL_isMade_325 : decode cL_isMade 325 = .ok (.iadd, 1) := by decide +kernel
theorem dL_isMade_326 : decode cL_isMade 326 = .ok (.iaload, 1) := by decide +kernel
theorem dL_isMade_327 : decode cL_isMade 327 = .ok (.if_icmp .eq 22, 3) := by decide +kernel
theorem dL_isMade_330 : decode cL_isMade 330 = .ok (.aload_n 1, 1) := by decide +kernel
theorem dL_isMade_331 : decode cL_isMade 331 = .ok (.iconst 1, 1) := by decide +kernel
theorem dL_isMade_332 : decode cL_isMade 332 = .ok (.aload_n 1, 1) := by decide +kernel
theorem dL_isMade_333 : decode cL_isMade 333 = .ok (.iload 11, 2) := by decide +kernel
theorem dL_isMade_335 : decode cL_isMade 335 = .ok (.iconst 1, 1) := by decide +kernel
theorem dL_isMade_336 : decode cL_isMade 336 = .ok (.iadd, 1) := by decide +kernel
theorem dL_isMade_337 : decode cL_isMade 337 = .ok (.iaload, 1) := by decide +kernel
theorem dL_isMade_338 : decode cL_isMade 338 = .ok (.invokestatic 113, 3) := by decide +kernel
theorem dL_isMade_341 : decode cL_isMade 341 = .ok (.iconst 3, 1) := by decide +kernel
theorem dL_isMade_342 : decode cL_isMade 342 = .ok (.if_icmp .ge 7, 3) := by decide +kernel
theorem dL_isMade_345 : decode cL_isMade 345 = .ok (.iconst 1, 1) := by decide +kernel
theorem dL_isMade_346 : decode cL_isMade 346 = .ok (.goto 4, 3) := by decide +kernel
theorem dL_isMade_349 : decode cL_isMade 349 = .ok (.iconst 0, 1) := by decide +kernel
theorem dL_isMade_350 : decode cL_isMade 350 = .ok (.istore 12, 2) := by decide +kernel
theorem dL_isMade_352 : decode cL_isMade 352 = .ok (.aload_n 0, 1) := by decide +kernel
theorem dL_isMade_353 : decode cL_isMade 353 = .ok (.iload 4, 2) := by decide +kernel
theorem dL_isMade_355 : decode cL_isMade 355 = .ok (.iload 6, 2) := by decide +kernel
theorem dL_isMade_357 : decode cL_isMade 357 = .ok (.iload 7, 2) := by decide +kernel
theorem dL_isMade_359 : decode cL_isMade 359 = .ok (.iload 8, 2) := by decide +kernel
theorem dL_isMade_361 : decode cL_isMade 361 = .ok (.invokestatic 157, 3) := by decide +kernel
theorem dL_isMade_364 : decode cL_isMade 364 = .ok (.iload 12, 2) := by decide +kernel
theorem dL_isMade_366 : decode cL_isMade 366 = .ok (.ifCond .eq 34, 3) := by decide +kernel
theorem dL_isMade_369 : decode cL_isMade 369 = .ok (.aload_n 1, 1) := by decide +kernel
theorem dL_isMade_370 : decode cL_isMade 370 = .ok (.aload_n 1, 1) := by decide +kernel
theorem dL_isMade_371 : decode cL_isMade 371 = .ok (.iload 11, 2) := by decide +kernel
theorem dL_isMade_373 : decode cL_isMade 373 = .ok (.iaload, 1) := by decide +kernel
theorem dL_isMade_374 : decode cL_isMade 374 = .ok (.aload_n 1, 1) := by decide +kernel
theorem dL_isMade_375 : decode cL_isMade 375 = .ok (.iload 11, 2) := by decide +kernel
theorem dL_isMade_377 : decode cL_isMade 377 = .ok (.iconst 1, 1) := by decide +kernel
theorem dL_isMade_378 : decode cL_isMade 378 = .ok (.iadd, 1) := by decide +kernel
theorem dL_isMade_379 : decode cL_isMade 379 = .ok (.iaload, 1) := by decide +kernel
theorem dL_isMade_380 : decode cL_isMade 380 = .ok (.aload_n 1, 1) := by decide +kernel
theorem dL_isMade_381 : decode cL_isMade 381 = .ok (.iload 5, 2) := by decide +kernel
theorem dL_isMade_383 : decode cL_isMade 383 = .ok (.iaload, 1) := by decide +kernel
theorem dL_isMade_384 : decode cL_isMade 384 = .ok (.aload_n 1, 1) := by decide +kernel
theorem dL_isMade_385 : decode cL_isMade 385 = .ok (.iload 5, 2) := by decide +kernel
theorem dL_isMade_387 : decode cL_isMade 387 = .ok (.iconst 1, 1) := by decide +kernel
theorem dL_isMade_388 : decode cL_isMade 388 = .ok (.iadd, 1) := by decide +kernel
theorem dL_isMade_389 : decode cL_isMade 389 = .ok (.iaload, 1) := by decide +kernel
theorem dL_isMade_390 : decode cL_isMade 390 = .ok (.iload 7, 2) := by decide +kernel
theorem dL_isMade_392 : decode cL_isMade 392 = .ok (.iload 8, 2) := by decide +kernel
theorem dL_isMade_394 : decode cL_isMade 394 = .ok (.invokestatic 109, 3) := by decide +kernel
theorem dL_isMade_397 : decode cL_isMade 397 = .ok (.goto 5, 3) := by decide +kernel
theorem dL_isMade_400 : decode cL_isMade 400 = .ok (.ldc 39, 2) := by decide +kernel
theorem dL_isMade_402 : decode cL_isMade 402 = .ok (.if_icmp .ne 7, 3) := by decide +kernel
theorem dL_isMade_405 : decode cL_isMade 405 = .ok (.iconst 1, 1) := by decide +kernel
theorem dL_isMade_406 : decode cL_isMade 406 = .ok (.goto 4, 3) := by decide +kernel
theorem dL_isMade_409 : decode cL_isMade 409 = .ok (.iconst 0, 1) := by decide +kernel
theorem dL_isMade_410 : decode cL_isMade 410 = .ok (.ireturn, 1) := by decide +kernel
theorem dL_isMade_411 : decode cL_isMade 411 = .ok (.aload_n 2, 1) := by decide +kernel
theorem dL_isMade_412 : decode cL_isMade 412 = .ok (.iload_n 3, 1) := by decide +kernel
theorem dL_isMade_413 : decode cL_isMade 413 = .ok (.bipush 10, 2) := by decide +kernel
theorem dL_isMade_415 : decode cL_isMade 415 = .ok (.iadd, 1) := by decide +kernel
theorem dL_isMade_416 : decode cL_isMade 416 = .ok (.iconst 3, 1) := by decide +kernel
theorem dL_isMade_417 : decode cL_isMade 417 = .ok (.invokestatic 101, 3) := by decide +kernel
theorem dL_isMade_420 : decode cL_isMade 420 = .ok (.ifCond .ne 7, 3) := by decide +kernel
theorem dL_isMade_423 : decode cL_isMade 423 = .ok (.iconst 0, 1) := by decide +kernel
theorem dL_isMade_424 : decode cL_isMade 424 = .ok (.goto 26, 3) := by decide +kernel
theorem dL_isMade_427 : decode cL_isMade 427 = .ok (.aload_n 1, 1) := by decide +kernel
theorem dL_isMade_428 : decode cL_isMade 428 = .ok (.iload 5, 2) := by decide +kernel
theorem dL_isMade_430 : decode cL_isMade 430 = .ok (.iaload, 1) := by decide +kernel
theorem dL_isMade_431 : decode cL_isMade 431 = .ok (.bipush 9, 2) := by decide +kernel
theorem dL_isMade_433 : decode cL_isMade 433 = .ok (.if_icmp .le 13, 3) := by decide +kernel
theorem dL_isMade_436 : decode cL_isMade 436 = .ok (.aload_n 1, 1) := by decide +kernel
theorem dL_isMade_437 : decode cL_isMade 437 = .ok (.iload 5, 2) := by decide +kernel
theorem dL_isMade_439 : decode cL_isMade 439 = .ok (.iaload, 1) := by decide +kernel
theorem dL_isMade_440 : decode cL_isMade 440 = .ok (.bipush 10, 2) := by decide +kernel
theorem dL_isMade_442 : decode cL_isMade 442 = .ok (.idiv, 1) := by decide +kernel
theorem dL_isMade_443 : decode cL_isMade 443 = .ok (.goto 7, 3) := by decide +kernel
theorem dL_isMade_446 : decode cL_isMade 446 = .ok (.aload_n 1, 1) := by decide +kernel
theorem dL_isMade_447 : decode cL_isMade 447 = .ok (.iload 5, 2) := by decide +kernel
theorem dL_isMade_449 : decode cL_isMade 449 = .ok (.iaload, 1) := by decide +kernel
theorem dL_isMade_450 : decode cL_isMade 450 = .ok (.istore 11, 2) := by decide +kernel
theorem dL_isMade_452 : decode cL_isMade 452 = .ok (.aload_n 2, 1) := by decide +kernel
theorem dL_isMade_453 : decode cL_isMade 453 = .ok (.iload_n 3, 1) := by decide +kernel
theorem dL_isMade_454 : decode cL_isMade 454 = .ok (.bipush 11, 2) := by decide +kernel
theorem dL_isMade_456 : decode cL_isMade 456 = .ok (.iadd, 1) := by decide +kernel
theorem dL_isMade_457 : decode cL_isMade 457 = .ok (.iconst 2, 1) := by decide +kernel
theorem dL_isMade_458 : decode cL_isMade 458 = .ok (.invokestatic 101, 3) := by decide +kernel
theorem dL_isMade_461 : decode cL_isMade 461 = .ok (.ifCond .ne 7, 3) := by decide +kernel
theorem dL_isMade_464 : decode cL_isMade 464 = .ok (.iconst 0, 1) := by decide +kernel
theorem dL_isMade_465 : decode cL_isMade 465 = .ok (.goto 5, 3) := by decide +kernel
theorem dL_isMade_468 : decode cL_isMade 468 = .ok (.iload 9, 2) := by decide +kernel
theorem dL_isMade_470 : decode cL_isMade 470 = .ok (.istore 12, 2) := by decide +kernel
theorem dL_isMade_472 : decode cL_isMade 472 = .ok (.aload_n 1, 1) := by decide +kernel
theorem dL_isMade_473 : decode cL_isMade 473 = .ok (.iload 5, 2) := by decide +kernel
theorem dL_isMade_475 : decode cL_isMade 475 = .ok (.bipush 6, 2) := by decide +kernel
theorem dL_isMade_477 : decode cL_isMade 477 = .ok (.iadd, 1) := by decide +kernel
theorem dL_isMade_478 : decode cL_isMade 478 = .ok (.iaload, 1) := by decide +kernel
theorem dL_isMade_479 : decode cL_isMade 479 = .ok (.iconst 1, 1) := by decide +kernel
theorem dL_isMade_480 : decode cL_isMade 480 = .ok (.if_icmp .ne 20, 3) := by decide +kernel
theorem dL_isMade_483 : decode cL_isMade 483 = .ok (.aload_n 1, 1) := by decide +kernel
theorem dL_isMade_484 : decode cL_isMade 484 = .ok (.aload_n 1, 1) := by decide +kernel
theorem dL_isMade_485 : decode cL_isMade 485 = .ok (.iload 5, 2) := by decide +kernel
theorem dL_isMade_487 : decode cL_isMade 487 = .ok (.iconst 1, 1) := by decide +kernel
theorem dL_isMade_488 : decode cL_isMade 488 = .ok (.iadd, 1) := by decide +kernel
theorem dL_isMade_489 : decode cL_isMade 489 = .ok (.iaload, 1) := by decide +kernel
theorem dL_isMade_490 : decode cL_isMade 490 = .ok (.invokestatic 159, 3) := by decide +kernel
theorem dL_isMade_493 : decode cL_isMade 493 = .ok (.ifCond .ne 7, 3) := by decide +kernel
theorem dL_isMade_496 : decode cL_isMade 496 = .ok (.iconst 1, 1) := by decide +kernel
theorem dL_isMade_497 : decode cL_isMade 497 = .ok (.goto 4, 3) := by decide +kernel
theorem dL_isMade_500 : decode cL_isMade 500 = .ok (.iconst 0, 1) := by decide +kernel
theorem dL_isMade_501 : decode cL_isMade 501 = .ok (.istore 13, 2) := by decide +kernel
theorem dL_isMade_503 : decode cL_isMade 503 = .ok (.aload_n 1, 1) := by decide +kernel
theorem dL_isMade_504 : decode cL_isMade 504 = .ok (.iload 5, 2) := by decide +kernel
theorem dL_isMade_506 : decode cL_isMade 506 = .ok (.bipush 8, 2) := by decide +kernel
theorem dL_isMade_508 : decode cL_isMade 508 = .ok (.iadd, 1) := by decide +kernel
theorem dL_isMade_509 : decode cL_isMade 509 = .ok (.iload 13, 2) := by decide +kernel
theorem dL_isMade_511 : decode cL_isMade 511 = .ok (.ifCond .eq 8, 3) := by decide +kernel
theorem dL_isMade_514 : decode cL_isMade 514 = .ok (.iload 11, 2) := by decide +kernel
theorem dL_isMade_516 : decode cL_isMade 516 = .ok (.goto 10, 3) := by decide +kernel
theorem dL_isMade_519 : decode cL_isMade 519 = .ok (.aload_n 1, 1) := by decide +kernel
theorem dL_isMade_520 : decode cL_isMade 520 = .ok (.iload 5, 2) := by decide +kernel
theorem dL_isMade_522 : decode cL_isMade 522 = .ok (.bipush 8, 2) := by decide +kernel
theorem dL_isMade_524 : decode cL_isMade 524 = .ok (.iadd, 1) := by decide +kernel
theorem dL_isMade_525 : decode cL_isMade 525 = .ok (.iaload, 1) := by decide +kernel
theorem dL_isMade_526 : decode cL_isMade 526 = .ok (.iastore, 1) := by decide +kernel
theorem dL_isMade_527 : decode cL_isMade 527 = .ok (.aload_n 1, 1) := by decide +kernel
theorem dL_isMade_528 : decode cL_isMade 528 = .ok (.iload 5, 2) := by decide +kernel
theorem dL_isMade_530 : decode cL_isMade 530 = .ok (.bipush 9, 2) := by decide +kernel
theorem dL_isMade_532 : decode cL_isMade 532 = .ok (.iadd, 1) := by decide +kernel
theorem dL_isMade_533 : decode cL_isMade 533 = .ok (.iload 13, 2) := by decide +kernel
theorem dL_isMade_535 : decode cL_isMade 535 = .ok (.ifCond .eq 8, 3) := by decide +kernel
theorem dL_isMade_538 : decode cL_isMade 538 = .ok (.iload 12, 2) := by decide +kernel
theorem dL_isMade_540 : decode cL_isMade 540 = .ok (.goto 10, 3) := by decide +kernel
theorem dL_isMade_543 : decode cL_isMade 543 = .ok (.aload_n 1, 1) := by decide +kernel
theorem dL_isMade_544 : decode cL_isMade 544 = .ok (.iload 5, 2) := by decide +kernel
theorem dL_isMade_546 : decode cL_isMade 546 = .ok (.bipush 9, 2) := by decide +kernel
theorem dL_isMade_548 : decode cL_isMade 548 = .ok (.iadd, 1) := by decide +kernel
theorem dL_isMade_549 : decode cL_isMade 549 = .ok (.iaload, 1) := by decide +kernel
theorem dL_isMade_550 : decode cL_isMade 550 = .ok (.iastore, 1) := by decide +kernel
theorem dL_isMade_551 : decode cL_isMade 551 = .ok (.aload_n 0, 1) := by decide +kernel
theorem dL_isMade_552 : decode cL_isMade 552 = .ok (.iload 4, 2) := by decide +kernel
theorem dL_isMade_554 : decode cL_isMade 554 = .ok (.iload 11, 2) := by decide +kernel
theorem dL_isMade_556 : decode cL_isMade 556 = .ok (.iload 12, 2) := by decide +kernel
theorem dL_isMade_558 : decode cL_isMade 558 = .ok (.invokestatic 163, 3) := by decide +kernel
theorem dL_isMade_561 : decode cL_isMade 561 = .ok (.iload 13, 2) := by decide +kernel
theorem dL_isMade_563 : decode cL_isMade 563 = .ok (.ifCond .eq 27, 3) := by decide +kernel
theorem dL_isMade_566 : decode cL_isMade 566 = .ok (.iload 11, 2) := by decide +kernel
theorem dL_isMade_568 : decode cL_isMade 568 = .ok (.ifCond .le 7, 3) := by decide +kernel
theorem dL_isMade_571 : decode cL_isMade 571 = .ok (.iconst 1, 1) := by decide +kernel
theorem dL_isMade_572 : decode cL_isMade 572 = .ok (.goto 4, 3) := by decide +kernel
theorem dL_isMade_575 : decode cL_isMade 575 = .ok (.iconst 0, 1) := by decide +kernel
theorem dL_isMade_576 : decode cL_isMade 576 = .ok (.iload 12, 2) := by decide +kernel
theorem dL_isMade_578 : decode cL_isMade 578 = .ok (.ifCond .le 7, 3) := by decide +kernel
theorem dL_isMade_581 : decode cL_isMade 581 = .ok (.iconst 1, 1) := by decide +kernel
theorem dL_isMade_582 : decode cL_isMade 582 = .ok (.goto 4, 3) := by decide +kernel
theorem dL_isMade_585 : decode cL_isMade 585 = .ok (.iconst 0, 1) := by decide +kernel
theorem dL_isMade_586 : decode cL_isMade 586 = .ok (.iadd, 1) := by decide +kernel
theorem dL_isMade_587 : decode cL_isMade 587 = .ok (.goto 5, 3) := by decide +kernel
theorem dL_isMade_590 : decode cL_isMade 590 = .ok (.ldc 39, 2) := by decide +kernel
theorem dL_isMade_592 : decode cL_isMade 592 = .ok (.if_icmp .ne 7, 3) := by decide +kernel
theorem dL_isMade_595 : decode cL_isMade 595 = .ok (.iconst 1, 1) := by decide +kernel
theorem dL_isMade_596 : decode cL_isMade 596 = .ok (.goto 4, 3) := by decide +kernel
theorem dL_isMade_599 : decode cL_isMade 599 = .ok (.iconst 0, 1) := by decide +kernel
theorem dL_isMade_600 : decode cL_isMade 600 = .ok (.ireturn, 1) := by decide +kernel
theorem dL_isMade_601 : decode cL_isMade 601 = .ok (.aload_n 1, 1) := by decide +kernel
theorem dL_isMade_602 : decode cL_isMade 602 = .ok (.iload 5, 2) := by decide +kernel
theorem dL_isMade_604 : decode cL_isMade 604 = .ok (.bipush 13, 2) := by decide +kernel
theorem dL_isMade_606 : decode cL_isMade 606 = .ok (.iadd, 1) := by decide +kernel
theorem dL_isMade_607 : decode cL_isMade 607 = .ok (.iaload, 1) := by decide +kernel
theorem dL_isMade_608 : decode cL_isMade 608 = .ok (.iconst 1, 1) := by decide +kernel
theorem dL_isMade_609 : decode cL_isMade 609 = .ok (.if_icmp .ne 7, 3) := by decide +kernel
theorem dL_isMade_612 : decode cL_isMade 612 = .ok (.iconst 1, 1) := by decide +kernel
theorem dL_isMade_613 : decode cL_isMade 613 = .ok (.goto 4, 3) := by decide +kernel
theorem dL_isMade_616 : decode cL_isMade 616 = .ok (.iconst 0, 1) := by decide +kernel
theorem dL_isMade_617 : decode cL_isMade 617 = .ok (.istore 11, 2) := by decide +kernel
theorem dL_isMade_619 : decode cL_isMade 619 = .ok (.aload_n 1, 1) := by decide +kernel
theorem dL_isMade_620 : decode cL_isMade 620 = .ok (.iload 5, 2) := by decide +kernel
theorem dL_isMade_622 : decode cL_isMade 622 = .ok (.bipush 12, 2) := by decide +kernel
theorem dL_isMade_624 : decode cL_isMade 624 = .ok (.iadd, 1) := by decide +kernel
theorem dL_isMade_625 : decode cL_isMade 625 = .ok (.iload 11, 2) := by decide +kernel
theorem dL_isMade_627 : decode cL_isMade 627 = .ok (.ifCond .eq 19, 3) := by decide +kernel
theorem dL_isMade_630 : decode cL_isMade 630 = .ok (.aload_n 2, 1) := by decide +kernel
theorem dL_isMade_631 : decode cL_isMade 631 = .ok (.iload_n 3, 1) := by decide +kernel
theorem dL_isMade_632 : decode cL_isMade 632 = .ok (.bipush 10, 2) := by decide +kernel
theorem dL_isMade_634 : decode cL_isMade 634 = .ok (.iadd, 1) := by decide +kernel
theorem dL_isMade_635 : decode cL_isMade 635 = .ok (.iconst 4, 1) := by decide +kernel
theorem dL_isMade_636 : decode cL_isMade 636 = .ok (.invokestatic 101, 3) := by decide +kernel
theorem dL_isMade_639 : decode cL_isMade 639 = .ok (.ifCond .le 7, 3) := by decide +kernel
theorem dL_isMade_642 : decode cL_isMade 642 = .ok (.iconst 1, 1) := by decide +kernel
theorem dL_isMade_643 : decode cL_isMade 643 = .ok (.goto 4, 3) := by decide +kernel
theorem dL_isMade_646 : decode cL_isMade 646 = .ok (.iconst 0, 1) := by decide +kernel
theorem dL_isMade_647 : decode cL_isMade 647 = .ok (.iastore, 1) := by decide +kernel
theorem dL_isMade_648 : decode cL_isMade 648 = .ok (.aload_n 0, 1) := by decide +kernel
theorem dL_isMade_649 : decode cL_isMade 649 = .ok (.iload 4, 2) := by decide +kernel
theorem dL_isMade_651 : decode cL_isMade 651 = .ok (.aload_n 2, 1) := by decide +kernel
theorem dL_isMade_652 : decode cL_isMade 652 = .ok (.iload_n 3, 1) := by decide +kernel
theorem dL_isMade_653 : decode cL_isMade 653 = .ok (.bipush 10, 2) := by decide +kernel
theorem dL_isMade_655 : decode cL_isMade 655 = .ok (.iadd, 1) := by decide +kernel
theorem dL_isMade_656 : decode cL_isMade 656 = .ok (.iconst 4, 1) := by decide +kernel
theorem dL_isMade_657 : decode cL_isMade 657 = .ok (.invokestatic 101, 3) := by decide +kernel
theorem dL_isMade_660 : decode cL_isMade 660 = .ok (.ifCond .le 7, 3) := by decide +kernel
theorem dL_isMade_663 : decode cL_isMade 663 = .ok (.iconst 1, 1) := by decide +kernel
theorem dL_isMade_664 : decode cL_isMade 664 = .ok (.goto 4, 3) := by decide +kernel
theorem dL_isMade_667 : decode cL_isMade 667 = .ok (.iconst 0, 1) := by decide +kernel
theorem dL_isMade_668 : decode cL_isMade 668 = .ok (.invokestatic 165, 3) := by decide +kernel
theorem dL_isMade_671 : decode cL_isMade 671 = .ok (.iload 11, 2) := by decide +kernel
theorem dL_isMade_673 : decode cL_isMade 673 = .ok (.ifCond .eq 13, 3) := by decide +kernel
theorem dL_isMade_676 : decode cL_isMade 676 = .ok (.aload_n 1, 1) := by decide +kernel
theorem dL_isMade_677 : decode cL_isMade 677 = .ok (.bipush 12, 2) := by decide +kernel
theorem dL_isMade_679 : decode cL_isMade 679 = .ok (.iconst 1, 1) := by decide +kernel
theorem dL_isMade_680 : decode cL_isMade 680 = .ok (.invokestatic 113, 3) := by decide +kernel
theorem dL_isMade_683 : decode cL_isMade 683 = .ok (.goto 5, 3) := by decide +kernel
theorem dL_isMade_686 : decode cL_isMade 686 = .ok (.ldc 33, 2) := by decide +kernel
theorem dL_isMade_688 : decode cL_isMade 688 = .ok (.if_icmp .ne 7, 3) := by decide +kernel
theorem dL_isMade_691 : decode cL_isMade 691 = .ok (.iconst 1, 1) := by decide +kernel
theorem dL_isMade_692 : decode cL_isMade 692 = .ok (.goto 4, 3) := by decide +kernel
theorem dL_isMade_695 : decode cL_isMade 695 = .ok (.iconst 0, 1) := by decide +kernel
theorem dL_isMade_696 : decode cL_isMade 696 = .ok (.ireturn, 1) := by decide +kernel
theorem dL_isKept_0 : decode cL_isKept 0 = .ok (.aload_n 2, 1) := by decide +kernel
theorem dL_isKept_1 : decode cL_isKept 1 = .ok (.iload_n 3, 1) := by decide +kernel
theorem dL_isKept_2 : decode cL_isKept 2 = .ok (.iconst 1, 1) := by decide +kernel
theorem dL_isKept_3 : decode cL_isKept 3 = .ok (.iadd, 1) := by decide +kernel
theorem dL_isKept_4 : decode cL_isKept 4 = .ok (.aload_n 1, 1) := by decide +kernel
theorem dL_isKept_5 : decode cL_isKept 5 = .ok (.iconst 0, 1) := by decide +kernel
theorem dL_isKept_6 : decode cL_isKept 6 = .ok (.iaload, 1) := by decide +kernel
theorem dL_isKept_7 : decode cL_isKept 7 = .ok (.invokestatic 101, 3) := by decide +kernel
theorem dL_isKept_10 : decode cL_isKept 10 = .ok (.istore 4, 2) := by decide +kernel
theorem dL_isKept_12 : decode cL_isKept 12 = .ok (.bipush 10, 2) := by decide +kernel
theorem dL_isKept_14 : decode cL_isKept 14 = .ok (.bipush 14, 2) := by decide +kernel
theorem dL_isKept_16 : decode cL_isKept 16 = .ok (.iload 4, 2) := by decide +kernel
theorem dL_isKept_18 : decode cL_isKept 18 = .ok (.imul, 1) := by decide +kernel
theorem dL_isKept_19 : decode cL_isKept 19 = .ok (.iadd, 1) := by decide +kernel
theorem dL_isKept_20 : decode cL_isKept 20 = .ok (.istore 5, 2) := by decide +kernel
theorem dL_isKept_22 : decode cL_isKept 22 = .ok (.aload_n 2, 1) := by decide +kernel
theorem dL_isKept_23 : decode cL_isKept 23 = .ok (.iload_n 3, 1) := by decide +kernel
theorem dL_isKept_24 : decode cL_isKept 24 = .ok (.iconst 3, 1) := by decide +kernel
theorem dL_isKept_25 : decode cL_isKept 25 = .ok (.invokestatic 101, 3) := by decide +kernel
theorem dL_isKept_28 : decode cL_isKept 28 = .ok (.ifCond .ne 88, 3) := by decide +kernel
theorem dL_isKept_31 : decode cL_isKept 31 = .ok (.aload_n 1, 1) := by decide +kernel
theorem dL_isKept_32 : decode cL_isKept 32 = .ok (.iload 5, 2) := by decide +kernel
theorem dL_isKept_34 : decode cL_isKept 34 = .ok (.bipush 13, 2) := by decide +kernel
theorem dL_isKept_36 : decode cL_isKept 36 = .ok (.iadd, 1) := by decide +kernel
theorem dL_isKept_37 : decode cL_isKept 37 = .ok (.iaload, 1) := by decide +kernel
theorem dL_isKept_38 : decode cL_isKept 38 = .ok (.ifCond .ne 17, 3) := by decide +kernel
theorem dL_isKept_41 : decode cL_isKept 41 = .ok (.aload_n 1, 1) := by decide +kernel
theorem dL_isKept_42 : decode cL_isKept 42 = .ok (.iload 5, 2) := by decide +kernel
theorem dL_isKept_44 : decode cL_isKept 44 = .ok (.bipush 11, 2) := by decide +kernel
theorem dL_isKept_46 : decode cL_isKept 46 = .ok (.iadd, 1) := by decide +kernel
theorem dL_isKept_47 : decode cL_isKept 47 = .ok (.iaload, 1) := by decide +kernel
theorem dL_isKept_48 : decode cL_isKept 48 = .ok (.ifCond .ne 7, 3) := by decide +kernel
theorem dL_isKept_51 : decode cL_isKept 51 = .ok (.iconst 1, 1) := by decide +kernel
theorem dL_isKept_52 : decode cL_isKept 52 = .ok (.goto 4, 3) := by decide +kernel
theorem dL_isKept_55 : decode cL_isKept 55 = .ok (.iconst 0, 1) := by decide +kernel
theorem dL_isKept_56 : decode cL_isKept 56 = .ok (.istore 6, 2) := by decide +kernel
theorem dL_isKept_58 : decode cL_isKept 58 = .ok (.aload_n 1, 1) := by decide +kernel
theorem dL_isKept_59 : decode cL_isKept 59 = .ok (.iload 5, 2) := by decide +kernel
theorem dL_isKept_61 : decode cL_isKept 61 = .ok (.bipush 11, 2) := by decide +kernel
theorem dL_isKept_63 : decode cL_isKept 63 = .ok (.iadd, 1) := by decide +kernel
theorem dL_isKept_64 : decode cL_isKept 64 = .ok (.iload 6, 2) := by decide +kernel
theorem dL_isKept_66 : decode cL_isKept 66 = .ok (.ifCond .eq 7, 3) := by decide +kernel
theorem dL_isKept_69 : decode cL_isKept 69 = .ok (.iconst 1, 1) := by decide +kernel
theorem dL_isKept_70 : decode cL_isKept 70 = .ok (.goto 10, 3) := by decide +kernel
theorem dL_isKept_73 : decode cL_isKept 73 = .ok (.aload_n 1, 1) := by decide +kernel
theorem dL_isKept_74 : decode cL_isKept 74 = .ok (.iload 5, 2) := by decide +kernel
theorem dL_isKept_76 : decode cL_isKept 76 = .ok (.bipush 11, 2) := by decide +kernel
theorem dL_isKept_78 : decode cL_isKept 78 = .ok (.iadd, 1) := by decide +kernel
theorem dL_isKept_79 : decode cL_isKept 79 = .ok (.iaload, 1) := by decide +kernel
theorem dL_isKept_80 : decode cL_isKept 80 = .ok (.iastore, 1) := by decide +kernel
theorem dL_isKept_81 : decode cL_isKept 81 = .ok (.aload_n 0, 1) := by decide +kernel
theorem dL_isKept_82 : decode cL_isKept 82 = .ok (.iload 4, 2) := by decide +kernel
theorem dL_isKept_84 : decode cL_isKept 84 = .ok (.invokestatic 168, 3) := by decide +kernel
theorem dL_isKept_87 : decode cL_isKept 87 = .ok (.iload 6, 2) := by decide +kernel
theorem dL_isKept_89 : decode cL_isKept 89 = .ok (.ifCond .eq 16, 3) := by decide +kernel
theorem dL_isKept_92 : decode cL_isKept 92 = .ok (.aload_n 1, 1) := by decide +kernel
theorem dL_isKept_93 : decode cL_isKept 93 = .ok (.aload_n 1, 1) := by decide +kernel
theorem dL_isKept_94 : decode cL_isKept 94 = .ok (.iload 5, 2) := by decide +kernel
theorem dL_isKept_96 : decode cL_isKept 96 = .ok (.iconst 3, 1) := by decide +kernel
theorem dL_isKept_97 : decode cL_isKept 97 = .ok (.iadd, 1) := by decide +kernel
theorem dL_isKept_98 : decode cL_isKept 98 = .ok (.iaload, 1) := by decide +kernel
theorem dL_isKept_99 : decode cL_isKept 99 = .ok (.invokestatic 171, 3) := by decide +kernel
theorem dL_isKept_102 : decode cL_isKept 102 = .ok (.goto 5, 3) := by decide +kernel
theorem dL_isKept_105 : decode cL_isKept 105 = .ok (.ldc 33, 2) := by decide +kernel
theorem dL_isKept_107 : decode cL_isKept 107 = .ok (.if_icmp .ne 7, 3) := by decide +kernel
theorem dL_isKept_110 : decode cL_isKept 110 = .ok (.iconst 1, 1) := by decide +kernel
theorem dL_isKept_111 : decode cL_isKept 111 = .ok (.goto 4, 3) := by decide +kernel
theorem dL_isKept_114 : decode cL_isKept 114 = .ok (.iconst 0, 1) := by decide +kernel
theorem dL_isKept_115 : decode cL_isKept 115 = .ok (.ireturn, 1) := by decide +kernel
theorem dL_isKept_116 : decode cL_isKept 116 = .ok (.aload_n 2, 1) := by decide +kernel
theorem dL_isKept_117 : decode cL_isKept 117 = .ok (.iload_n 3, 1) := by decide +kernel
theorem dL_isKept_118 : decode cL_isKept 118 = .ok (.iconst 3, 1) := by decide +kernel
theorem dL_isKept_119 : decode cL_isKept 119 = .ok (.invokestatic 101, 3) := by decide +kernel
theorem dL_isKept_122 : decode cL_isKept 122 = .ok (.iconst 1, 1) := by decide +kernel
theorem dL_isKept_123 : decode cL_isKept 123 = .ok (.if_icmp .ne 136, 3) := by decide +kernel
theorem dL_isKept_126 : decode cL_isKept 126 = .ok (.aload_n 1, 1) := by decide +kernel
theorem dL_isKept_127 : decode cL_isKept 127 = .ok (.iload 5, 2) := by decide +kernel
theorem dL_isKept_129 : decode cL_isKept 129 = .ok (.bipush 6, 2) := by decide +kernel
theorem dL_isKept_131 : decode cL_isKept 131 = .ok (.iadd, 1) := by decide +kernel
theorem dL_isKept_132 : decode cL_isKept 132 = .ok (.iaload, 1) := by decide +kernel
theorem dL_isKept_133 : decode cL_isKept 133 = .ok (.iconst 1, 1) := by decide +kernel
theorem dL_isKept_134 : decode cL_isKept 134 = .ok (.if_icmp .ne 16, 3) := by decide +kernel
theorem dL_isKept_137 : decode cL_isKept 137 = .ok (.aload_n 1, 1) := by decide +kernel
theorem dL_isKept_138 : decode cL_isKept 138 = .ok (.aload_n 1, 1) := by decide +kernel
theorem dL_isKept_139 : decode cL_isKept 139 = .ok (.iload 5, 2) := by decide +kernel
theorem dL_isKept_141 : decode cL_isKept 141 = .ok (.iconst 1, 1) := by decide +kernel
theorem dL_isKept_142 : decode cL_isKept 142 = .ok (.iadd, 1) := by decide +kernel
theorem dL_isKept_143 : decode cL_isKept 143 = .ok (.iaload, 1) := by decide +kernel
theorem dL_isKept_144 : decode cL_isKept 144 = .ok (.invokestatic 171, 3) := by decide +kernel
theorem dL_isKept_147 : decode cL_isKept 147 = .ok (.goto 5, 3) := by decide +kernel
theorem dL_isKept_150 : decode cL_isKept 150 = .ok (.ldc 33, 2) := by decide +kernel
theorem dL_isKept_152 : decode cL_isKept 152 = .ok (.istore 6, 2) := by decide +kernel
theorem dL_isKept_154 : decode cL_isKept 154 = .ok (.iconst 0, 1) := by decide +kernel
theorem dL_isKept_155 : decode cL_isKept 155 = .ok (.istore 7, 2) := by decide +kernel
theorem dL_isKept_157 : decode cL_isKept 157 = .ok (.iload 7, 2) := by decide +kernel
theorem dL_isKept_159 : decode cL_isKept 159 = .ok (.aload_n 1, 1) := by decide +kernel
theorem dL_isKept_160 : decode cL_isKept 160 = .ok (.iconst 0, 1) := by decide +kernel
theorem dL_isKept_161 : decode cL_isKept 161 = .ok (.iaload, 1) := by decide +kernel
theorem dL_isKept_162 : decode cL_isKept 162 = .ok (.if_icmp .ge 80, 3) := by decide +kernel
theorem dL_isKept_165 : decode cL_isKept 165 = .ok (.iload 6, 2) := by decide +kernel
theorem dL_isKept_167 : decode cL_isKept 167 = .ok (.ifCond .le 75, 3) := by decide +kernel
theorem dL_isKept_170 : decode cL_isKept 170 = .ok (.bipush 10, 2) := by decide +kernel
theorem dL_isKept_172 : decode cL_isKept 172 = .ok (.bipush 14, 2) := by decide +kernel
theorem dL_isKept_174 : decode cL_isKept 174 = .ok (.iload 7, 2) := by decide +kernel
theorem dL_isKept_176 : decode cL_isKept 176 = .ok (.imul, 1) := by decide +kernel
theorem dL_isKept_177 : decode cL_isKept 177 = .ok (.iadd, 1) := by decide +kernel
theorem dL_isKept_178 : decode cL_isKept 178 = .ok (.istore 8, 2) := by decide +kernel
theorem dL_isKept_180 : decode cL_isKept 180 = .ok (.aload_n 1, 1) := by decide +kernel
theorem dL_isKept_181 : decode cL_isKept 181 = .ok (.iload 8, 2) := by decide +kernel
theorem dL_isKept_183 : decode cL_isKept 183 = .ok (.bipush 10, 2) := by decide +kernel
theorem dL_isKept_185 : decode cL_isKept 185 = .ok (.iadd, 1) := by decide +kernel
theorem dL_isKept_186 : decode cL_isKept 186 = .ok (.aload_n 1, 1) := by decide +kernel
theorem dL_isKept_187 : decode cL_isKept 187 = .ok (.iload 8, 2) := by decide +kernel
theorem dL_isKept_189 : decode cL_isKept 189 = .ok (.iconst 3, 1) := by decide +kernel
theorem dL_isKept_190 : decode cL_isKept 190 = .ok (.iadd, 1) := by decide +kernel
theorem dL_isKept_191 : decode cL_isKept 191 = .ok (.iaload, 1) := by decide +kernel
theorem dL_isKept_192 : decode cL_isKept 192 = .ok (.aload_n 1, 1) := by decide +kernel
theorem dL_isKept_193 : decode cL_isKept 193 = .ok (.iload 5, 2) := by decide +kernel
theorem dL_isKept_195 : decode cL_isKept 195 = .ok (.iconst 1, 1) := by decide +kernel
theorem dL_isKept_196 : decode cL_isKept 196 = .ok (.iadd, 1) := by decide +kernel
theorem dL_isKept_197 : decode cL_isKept 197 = .ok (.iaload, 1) := by decide +kernel
theorem dL_isKept_198 : decode cL_isKept 198 = .ok (.if_icmp .ne 30, 3) := by decide +kernel
theorem dL_isKept_201 : decode cL_isKept 201 = .ok (.aload_n 1, 1) := by decide +kernel
theorem dL_isKept_202 : decode cL_isKept 202 = .ok (.iload 8, 2) := by decide +kernel
theorem dL_isKept_204 : decode cL_isKept 204 = .ok (.bipush 11, 2) := by decide +kernel
theorem dL_isKept_206 : decode cL_isKept 206 = .ok (.iadd, 1) := by decide +kernel
theorem dL_isKept_207 : decode cL_isKept 207 = .ok (.iaload, 1) := by decide +kernel
theorem dL_isKept_208 : decode cL_isKept 208 = .ok (.iconst 1, 1) := by decide +kernel
theorem dL_isKept_209 : decode cL_isKept 209 = .ok (.if_icmp .ne 19, 3) := by decide +kernel
theorem dL_isKept_212 : decode cL_isKept 212 = .ok (.aload_n 1, 1) := by decide +kernel
theorem dL_isKept_213 : decode cL_isKept 213 = .ok (.iload 8, 2) := by decide +kernel
theorem dL_isKept_215 : decode cL_isKept 215 = .ok (.bipush 10, 2) := by decide +kernel
theorem dL_isKept_217 : decode cL_isKept 217 = .ok (.iadd, 1) := by decide +kernel
theorem dL_isKept_218 : decode cL_isKept 218 = .ok (.iaload, 1) := by decide +kernel
theorem dL_isKept_219 : decode cL_isKept 219 = .ok (.ifCond .ge 9, 3) := by decide +kernel
theorem dL_isKept_222 : decode cL_isKept 222 = .ok (.aload_n 1, 1) := by decide +kernel
theorem dL_isKept_223 : decode cL_isKept 223 = .ok (.iconst 2, 1) := by decide +kernel
theorem dL_isKept_224 : decode cL_isKept 224 = .ok (.iaload, 1) := by decide +kernel
theorem dL_isKept_225 : decode cL_isKept 225 = .ok (.goto 10, 3) := by decide +kernel
theorem dL_isKept_228 : decode cL_isKept 228 = .ok (.aload_n 1, 1) := by decide +kernel
theorem dL_isKept_229 : decode cL_isKept 229 = .ok (.iload 8, 2) := by decide +kernel
theorem dL_isKept_231 : decode cL_isKept 231 = .ok (.bipush 10, 2) := by decide +kernel
theorem dL_isKept_233 : decode cL_isKept 233 = .ok (.iadd, 1) := by decide +kernel
theorem dL_isKept_234 : decode cL_isKept 234 = .ok (.iaload, 1) := by decide +kernel
theorem dL_isKept_235 : decode cL_isKept 235 = .ok (.iastore, 1) := by decide +kernel
theorem dL_isKept_236 : decode cL_isKept 236 = .ok (.iinc 7 1, 3) := by decide +kernel
theorem dL_isKept_239 : decode cL_isKept 239 = .ok (.goto (-82), 3) := by decide +kernel
theorem dL_isKept_242 : decode cL_isKept 242 = .ok (.aload_n 0, 1) := by decide +kernel
theorem dL_isKept_243 : decode cL_isKept 243 = .ok (.iload 4, 2) := by decide +kernel
theorem dL_isKept_245 : decode cL_isKept 245 = .ok (.invokestatic 174, 3) := by decide +kernel
theorem dL_isKept_248 : decode cL_isKept 248 = .ok (.iload 6, 2) := by decide +kernel
theorem dL_isKept_250 : decode cL_isKept 250 = .ok (.if_icmp .ne 7, 3) := by decide +kernel
theorem dL_isKept_253 : decode cL_isKept 253 = .ok (.iconst 1, 1) := by decide +kernel
theorem dL_isKept_254 : decode cL_isKept 254 = .ok (.goto 4, 3) := by decide +kernel
theorem dL_isKept_257 : decode cL_isKept 257 = .ok (.iconst 0, 1) := by decide +kernel
theorem dL_isKept_258 : decode cL_isKept 258 = .ok (.ireturn, 1) := by decide +kernel
theorem dL_isKept_259 : decode cL_isKept 259 = .ok (.iconst 1, 1) := by decide +kernel
theorem dL_isKept_260 : decode cL_isKept 260 = .ok (.aload_n 2, 1) := by decide +kernel
theorem dL_isKept_261 : decode cL_isKept 261 = .ok (.iload_n 3, 1) := by decide +kernel
theorem dL_isKept_262 : decode cL_isKept 262 = .ok (.iconst 2, 1) := by decide +kernel
theorem dL_isKept_263 : decode cL_isKept 263 = .ok (.iadd, 1) := by decide +kernel
theorem dL_isKept_264 : decode cL_isKept 264 = .ok (.bipush 6, 2) := by decide +kernel
theorem dL_isKept_266 : decode cL_isKept 266 = .ok (.invokestatic 101, 3) := by decide +kernel
theorem dL_isKept_269 : decode cL_isKept 269 = .ok (.iadd, 1) := by decide +kernel
theorem dL_isKept_270 : decode cL_isKept 270 = .ok (.istore 6, 2) := by decide +kernel
theorem dL_isKept_272 : decode cL_isKept 272 = .ok (.aload_n 1, 1) := by decide +kernel
theorem dL_isKept_273 : decode cL_isKept 273 = .ok (.iconst 2, 1) := by decide +kernel
theorem dL_isKept_274 : decode cL_isKept 274 = .ok (.dup2, 1) := by decide +kernel
theorem dL_isKept_275 : decode cL_isKept 275 = .ok (.iaload, 1) := by decide +kernel
theorem dL_isKept_276 : decode cL_isKept 276 = .ok (.iload 6, 2) := by decide +kernel
theorem dL_isKept_278 : decode cL_isKept 278 = .ok (.iadd, 1) := by decide +kernel
theorem dL_isKept_279 : decode cL_isKept 279 = .ok (.iastore, 1) := by decide +kernel
theorem dL_isKept_280 : decode cL_isKept 280 = .ok (.aload_n 0, 1) := by decide +kernel
theorem dL_isKept_281 : decode cL_isKept 281 = .ok (.iload 6, 2) := by decide +kernel
theorem dL_isKept_283 : decode cL_isKept 283 = .ok (.invokestatic 176, 3) := by decide +kernel
theorem dL_isKept_286 : decode cL_isKept 286 = .ok (.aload_n 1, 1) := by decide +kernel
theorem dL_isKept_287 : decode cL_isKept 287 = .ok (.iconst 2, 1) := by decide +kernel
theorem dL_isKept_288 : decode cL_isKept 288 = .ok (.iaload, 1) := by decide +kernel
theorem dL_isKept_289 : decode cL_isKept 289 = .ok (.if_icmp .ne 7, 3) := by decide +kernel
theorem dL_isKept_292 : decode cL_isKept 292 = .ok (.iconst 1, 1) := by decide +kernel
theorem dL_isKept_293 : decode cL_isKept 293 = .ok (.goto 4, 3) := by decide +kernel
theorem dL_isKept_296 : decode cL_isKept 296 = .ok (.iconst 0, 1) := by decide +kernel
theorem dL_isKept_297 : decode cL_isKept 297 = .ok (.ireturn, 1) := by decide +kernel
theorem dL_begun_0 : decode cL_begun 0 = .ok (.new 10, 3) := by decide +kernel
theorem dL_begun_3 : decode cL_begun 3 = .ok (.dup, 1) := by decide +kernel
theorem dL_begun_4 : decode cL_begun 4 = .ok (.invokespecial 178, 3) := by decide +kernel
theorem dL_begun_7 : decode cL_begun 7 = .ok (.astore_n 3, 1) := by decide +kernel
theorem dL_begun_8 : decode cL_begun 8 = .ok (.iconst 1, 1) := by decide +kernel
theorem dL_begun_9 : decode cL_begun 9 = .ok (.istore 4, 2) := by decide +kernel
theorem dL_begun_11 : decode cL_begun 11 = .ok (.iconst 0, 1) := by decide +kernel
theorem dL_begun_12 : decode cL_begun 12 = .ok (.istore 5, 2) := by decide +kernel
theorem dL_begun_14 : decode cL_begun 14 = .ok (.iload 5, 2) := by decide +kernel
theorem dL_begun_16 : decode cL_begun 16 = .ok (.iconst 2, 1) := by decide +kernel
theorem dL_begun_17 : decode cL_begun 17 = .ok (.if_icmp .ge 101, 3) := by decide +kernel
theorem dL_begun_20 : decode cL_begun 20 = .ok (.iconst 1, 1) := by decide +kernel
theorem dL_begun_21 : decode cL_begun 21 = .ok (.aload_n 0, 1) := by decide +kernel
theorem dL_begun_22 : decode cL_begun 22 = .ok (.iload 5, 2) := by decide +kernel
theorem dL_begun_24 : decode cL_begun 24 = .ok (.iconst 2, 1) := by decide +kernel
theorem dL_begun_25 : decode cL_begun 25 = .ok (.invokestatic 101, 3) := by decide +kernel
theorem dL_begun_28 : decode cL_begun 28 = .ok (.iadd, 1) := by decide +kernel
theorem dL_begun_29 : decode cL_begun 29 = .ok (.istore 6, 2) := by decide +kernel
theorem dL_begun_31 : decode cL_begun 31 = .ok (.iconst 1, 1) := by decide +kernel
theorem dL_begun_32 : decode cL_begun 32 = .ok (.aload_n 0, 1) := by decide +kernel
theorem dL_begun_33 : decode cL_begun 33 = .ok (.iconst 2, 1) := by decide +kernel
theorem dL_begun_34 : decode cL_begun 34 = .ok (.iload 5, 2) := by decide +kernel
theorem dL_begun_36 : decode cL_begun 36 = .ok (.iadd, 1) := by decide +kernel
theorem dL_begun_37 : decode cL_begun 37 = .ok (.iconst 5, 1) := by decide +kernel
theorem dL_begun_38 : decode cL_begun 38 = .ok (.invokestatic 101, 3) := by decide +kernel
theorem dL_begun_41 : decode cL_begun 41 = .ok (.iadd, 1) := by decide +kernel
theorem dL_begun_42 : decode cL_begun 42 = .ok (.istore 7, 2) := by decide +kernel
theorem dL_begun_44 : decode cL_begun 44 = .ok (.iload 4, 2) := by decide +kernel
theorem dL_begun_46 : decode cL_begun 46 = .ok (.aload_n 3, 1) := by decide +kernel
theorem dL_begun_47 : decode cL_begun 47 = .ok (.iload 6, 2) := by decide +kernel
theorem dL_begun_49 : decode cL_begun 49 = .ok (.bipush 60, 2) := by decide +kernel
theorem dL_begun_51 : decode cL_begun 51 = .ok (.iload 7, 2) := by decide +kernel
theorem dL_begun_53 : decode cL_begun 53 = .ok (.invokestatic 141, 3) := by decide +kernel
theorem dL_begun_56 : decode cL_begun 56 = .ok (.aload_n 1, 1) := by decide +kernel
theorem dL_begun_57 : decode cL_begun 57 = .ok (.iload 6, 2) := by decide +kernel
theorem dL_begun_59 : decode cL_begun 59 = .ok (.bipush 60, 2) := by decide +kernel
theorem dL_begun_61 : decode cL_begun 61 = .ok (.iload 7, 2) := by decide +kernel
theorem dL_begun_63 : decode cL_begun 63 = .ok (.invokestatic 144, 3) := by decide +kernel
theorem dL_begun_66 : decode cL_begun 66 = .ok (.if_icmp .ne 7, 3) := by decide +kernel
theorem dL_begun_69 : decode cL_begun 69 = .ok (.iconst 1, 1) := by decide +kernel
theorem dL_begun_70 : decode cL_begun 70 = .ok (.goto 4, 3) := by decide +kernel
theorem dL_begun_73 : decode cL_begun 73 = .ok (.iconst 0, 1) := by decide +kernel
theorem dL_begun_74 : decode cL_begun 74 = .ok (.iand, 1) := by decide +kernel
theorem dL_begun_75 : decode cL_begun 75 = .ok (.istore 4, 2) := by decide +kernel
theorem dL_begun_77 : decode cL_begun 77 = .ok (.iload 4, 2) := by decide +kernel
theorem dL_begun_79 : decode cL_begun 79 = .ok (.aload_n 3, 1) := by decide +kernel
theorem dL_begun_80 : decode cL_begun 80 = .ok (.iload 5, 2) := by decide +kernel
theorem dL_begun_82 : decode cL_begun 82 = .ok (.iconst 1, 1) := by decide +kernel
theorem dL_begun_83 : decode cL_begun 83 = .ok (.invokestatic 165, 3) := by decide +kernel
theorem dL_begun_86 : decode cL_begun 86 = .ok (.iload 5, 2) := by decide +kernel
theorem dL_begun_88 : decode cL_begun 88 = .ok (.iconst 1, 1) := by decide +kernel
theorem dL_begun_89 : decode cL_begun 89 = .ok (.iadd, 1) := by decide +kernel
theorem dL_begun_90 : decode cL_begun 90 = .ok (.if_icmp .ne 7, 3) := by decide +kernel
theorem dL_begun_93 : decode cL_begun 93 = .ok (.iconst 1, 1) := by decide +kernel
theorem dL_begun_94 : decode cL_begun 94 = .ok (.goto 4, 3) := by decide +kernel
theorem dL_begun_97 : decode cL_begun 97 = .ok (.iconst 0, 1) := by decide +kernel
theorem dL_begun_98 : decode cL_begun 98 = .ok (.iand, 1) := by decide +kernel
theorem dL_begun_99 : decode cL_begun 99 = .ok (.istore 4, 2) := by decide +kernel
theorem dL_begun_101 : decode cL_begun 101 = .ok (.aload_n 1, 1) := by decide +kernel
theorem dL_begun_102 : decode cL_begun 102 = .ok (.bipush 22, 2) := by decide +kernel
theorem dL_begun_104 : decode cL_begun 104 = .ok (.bipush 14, 2) := by decide +kernel
theorem dL_begun_106 : decode cL_begun 106 = .ok (.iload 5, 2) := by decide +kernel
theorem dL_begun_108 : decode cL_begun 108 = .ok (.imul, 1) := by decide +kernel
theorem dL_begun_109 : decode cL_begun 109 = .ok (.iadd, 1) := by decide +kernel
theorem dL_begun_110 : decode cL_begun 110 = .ok (.iconst 1, 1) := by decide +kernel
theorem dL_begun_111 : decode cL_begun 111 = .ok (.iastore, 1) := by decide +kernel
theorem dL_begun_112 : decode cL_begun 112 = .ok (.iinc 5 1, 3) := by decide +kernel
theorem dL_begun_115 : decode cL_begun 115 = .ok (.goto (-101), 3) := by decide +kernel
theorem dL_begun_118 : decode cL_begun 118 = .ok (.iconst 0, 1) := by decide +kernel
theorem dL_begun_119 : decode cL_begun 119 = .ok (.istore 5, 2) := by decide +kernel
theorem dL_begun_121 : decode cL_begun 121 = .ok (.iload 5, 2) := by decide +kernel
theorem dL_begun_123 : decode cL_begun 123 = .ok (.iload_n 2, 1) := by decide +kernel
theorem dL_begun_124 : decode cL_begun 124 = .ok (.if_icmp .ge 63, 3) := by decide +kernel
theorem dL_begun_127 : decode cL_begun 127 = .ok (.iload 4, 2) := by decide +kernel
theorem dL_begun_129 : decode cL_begun 129 = .ok (.ifCond .eq 58, 3) := by decide +kernel
theorem dL_begun_132 : decode cL_begun 132 = .ok (.aload_n 0, 1) := by decide +kernel
theorem dL_begun_133 : decode cL_begun 133 = .ok (.bipush 9, 2) := by decide +kernel
theorem dL_begun_135 : decode cL_begun 135 = .ok (.bipush 12, 2) := by decide +kernel
theorem dL_begun_137 : decode cL_begun 137 = .ok (.iload 5, 2) := by decide +kernel
theorem dL_begun_139 : decode cL_begun 139 = .ok (.imul, 1) := by decide +kernel
theorem dL_begun_140 : decode cL_begun 140 = .ok (.iadd, 1) := by decide +kernel
theorem dL_begun_141 : decode cL_begun 141 = .ok (.iconst 4, 1) := by decide +kernel
theorem dL_begun_142 : decode cL_begun 142 = .ok (.invokestatic 101, 3) := by decide +kernel
theorem dL_begun_145 : decode cL_begun 145 = .ok (.ifCond .le 20, 3) := by decide +kernel
theorem dL_begun_148 : decode cL_begun 148 = .ok (.aload_n 3, 1) := by decide +kernel
theorem dL_begun_149 : decode cL_begun 149 = .ok (.aload_n 1, 1) := by decide +kernel
theorem dL_begun_150 : decode cL_begun 150 = .ok (.aload_n 0, 1) := by decide +kernel
theorem dL_begun_151 : decode cL_begun 151 = .ok (.bipush 10, 2) := by decide +kernel
theorem dL_begun_153 : decode cL_begun 153 = .ok (.bipush 12, 2) := by decide +kernel
theorem dL_begun_155 : decode cL_begun 155 = .ok (.iload 5, 2) := by decide +kernel
theorem dL_begun_157 : decode cL_begun 157 = .ok (.imul, 1) := by decide +kernel
theorem dL_begun_158 : decode cL_begun 158 = .ok (.iadd, 1) := by decide +kernel
theorem dL_begun_159 : decode cL_begun 159 = .ok (.invokestatic 179, 3) := by decide +kernel
theorem dL_begun_162 : decode cL_begun 162 = .ok (.goto 17, 3) := by decide +kernel
theorem dL_begun_165 : decode cL_begun 165 = .ok (.aload_n 3, 1) := by decide +kernel
theorem dL_begun_166 : decode cL_begun 166 = .ok (.aload_n 1, 1) := by decide +kernel
theorem dL_begun_167 : decode cL_begun 167 = .ok (.aload_n 0, 1) := by decide +kernel
theorem dL_begun_168 : decode cL_begun 168 = .ok (.bipush 10, 2) := by decide +kernel
theorem dL_begun_170 : decode cL_begun 170 = .ok (.bipush 12, 2) := by decide +kernel
theorem dL_begun_172 : decode cL_begun 172 = .ok (.iload 5, 2) := by decide +kernel
theorem dL_begun_174 : decode cL_begun 174 = .ok (.imul, 1) := by decide +kernel
theorem dL_begun_175 : decode cL_begun 175 = .ok (.iadd, 1) := by decide +kernel
theorem dL_begun_176 : decode cL_begun 176 = .ok (.invokestatic 183, 3) := by decide +kernel
theorem dL_begun_179 : decode cL_begun 179 = .ok (.istore 4, 2) := by decide +kernel
theorem dL_begun_181 : decode cL_begun 181 = .ok (.iinc 5 1, 3) := by decide +kernel
theorem dL_begun_184 : decode cL_begun 184 = .ok (.goto (-63), 3) := by decide +kernel
theorem dL_begun_187 : decode cL_begun 187 = .ok (.iload 4, 2) := by decide +kernel
theorem dL_begun_189 : decode cL_begun 189 = .ok (.ifCond .eq 7, 3) := by decide +kernel
theorem dL_begun_192 : decode cL_begun 192 = .ok (.aload_n 3, 1) := by decide +kernel
theorem dL_begun_193 : decode cL_begun 193 = .ok (.goto 4, 3) := by decide +kernel
theorem dL_begun_196 : decode cL_begun 196 = .ok (.aconst_null, 1) := by decide +kernel
theorem dL_begun_197 : decode cL_begun 197 = .ok (.areturn, 1) := by decide +kernel
theorem dL_isWalked_0 : decode cL_isWalked 0 = .ok (.aload_n 2, 1) := by decide +kernel
theorem dL_isWalked_1 : decode cL_isWalked 1 = .ok (.iload_n 3, 1) := by decide +kernel
theorem dL_isWalked_2 : decode cL_isWalked 2 = .ok (.iconst 3, 1) := by decide +kernel
theorem dL_isWalked_3 : decode cL_isWalked 3 = .ok (.invokestatic 101, 3) := by decide +kernel
theorem dL_isWalked_6 : decode cL_isWalked 6 = .ok (.ifCond .eq 9, 3) := by decide +kernel
theorem dL_isWalked_9 : decode cL_isWalked 9 = .ok (.aload_n 1, 1) := by decide +kernel
theorem dL_isWalked_10 : decode cL_isWalked 10 = .ok (.iconst 3, 1) := by decide +kernel
theorem dL_isWalked_11 : decode cL_isWalked 11 = .ok (.iaload, 1) := by decide +kernel
theorem dL_isWalked_12 : decode cL_isWalked 12 = .ok (.ifCond .ne 134, 3) := by decide +kernel
theorem dL_isWalked_15 : decode cL_isWalked 15 = .ok (.aload_n 2, 1) := by decide +kernel
theorem dL_isWalked_16 : decode cL_isWalked 16 = .ok (.iload_n 3, 1) := by decide +kernel
theorem dL_isWalked_17 : decode cL_isWalked 17 = .ok (.iconst 1, 1) := by decide +kernel
theorem dL_isWalked_18 : decode cL_isWalked 18 = .ok (.iadd, 1) := by decide +kernel
theorem dL_isWalked_19 : decode cL_isWalked 19 = .ok (.aload_n 1, 1) := by decide +kernel
theorem dL_isWalked_20 : decode cL_isWalked 20 = .ok (.iconst 0, 1) := by decide +kernel
theorem dL_isWalked_21 : decode cL_isWalked 21 = .ok (.iaload, 1) := by decide +kernel
theorem dL_isWalked_22 : decode cL_isWalked 22 = .ok (.invokestatic 101, 3) := by decide +kernel
theorem dL_isWalked_25 : decode cL_isWalked 25 = .ok (.istore 4, 2) := by decide +kernel
theorem dL_isWalked_27 : decode cL_isWalked 27 = .ok (.aload_n 1, 1) := by decide +kernel
theorem dL_isWalked_28 : decode cL_isWalked 28 = .ok (.iconst 2, 1) := by decide +kernel
theorem dL_isWalked_29 : decode cL_isWalked 29 = .ok (.iaload, 1) := by decide +kernel
theorem dL_isWalked_30 : decode cL_isWalked 30 = .ok (.aload_n 2, 1) := by decide +kernel
theorem dL_isWalked_31 : decode cL_isWalked 31 = .ok (.iload_n 3, 1) := by decide +kernel
theorem dL_isWalked_32 : decode cL_isWalked 32 = .ok (.iconst 2, 1) := by decide +kernel
theorem dL_isWalked_33 : decode cL_isWalked 33 = .ok (.iadd, 1) := by decide +kernel
theorem dL_isWalked_34 : decode cL_isWalked 34 = .ok (.bipush 9, 2) := by decide +kernel
theorem dL_isWalked_36 : decode cL_isWalked 36 = .ok (.invokestatic 101, 3) := by decide +kernel
theorem dL_isWalked_39 : decode cL_isWalked 39 = .ok (.iadd, 1) := by decide +kernel
theorem dL_isWalked_40 : decode cL_isWalked 40 = .ok (.iconst 2, 1) := by decide +kernel
theorem dL_isWalked_41 : decode cL_isWalked 41 = .ok (.isub, 1) := by decide +kernel
theorem dL_isWalked_42 : decode cL_isWalked 42 = .ok (.istore 5, 2) := by decide +kernel
theorem dL_isWalked_44 : decode cL_isWalked 44 = .ok (.iload 5, 2) := by decide +kernel
theorem dL_isWalked_46 : decode cL_isWalked 46 = .ok (.ifCond .ge 22, 3) := by decide +kernel
theorem dL_isWalked_49 : decode cL_isWalked 49 = .ok (.aload_n 0, 1) := by decide +kernel
theorem dL_isWalked_50 : decode cL_isWalked 50 = .ok (.iload 4, 2) := by decide +kernel
theorem dL_isWalked_52 : decode cL_isWalked 52 = .ok (.iload 5, 2) := by decide +kernel
theorem dL_isWalked_54 : decode cL_isWalked 54 = .ok (.invokestatic 186, 3) := by decide +kernel
theorem dL_isWalked_57 : decode cL_isWalked 57 = .ok (.ldc 33, 2) := by decide +kernel
theorem dL_isWalked_59 : decode cL_isWalked 59 = .ok (.if_icmp .ne 7, 3) := by decide +kernel
theorem dL_isWalked_62 : decode cL_isWalked 62 = .ok (.iconst 1, 1) := by decide +kernel
theorem dL_isWalked_63 : decode cL_isWalked 63 = .ok (.goto 4, 3) := by decide +kernel
theorem dL_isWalked_66 : decode cL_isWalked 66 = .ok (.iconst 0, 1) := by decide +kernel
theorem dL_isWalked_67 : decode cL_isWalked 67 = .ok (.ireturn, 1) := by decide +kernel
theorem dL_isWalked_68 : decode cL_isWalked 68 = .ok (.aload_n 1, 1) := by decide +kernel
theorem dL_isWalked_69 : decode cL_isWalked 69 = .ok (.iload 4, 2) := by decide +kernel
theorem dL_isWalked_71 : decode cL_isWalked 71 = .ok (.iload 5, 2) := by decide +kernel
theorem dL_isWalked_73 : decode cL_isWalked 73 = .ok (.invokestatic 120, 3) := by decide +kernel
theorem dL_isWalked_76 : decode cL_isWalked 76 = .ok (.ifCond .ne 8, 3) := by decide +kernel
theorem dL_isWalked_79 : decode cL_isWalked 79 = .ok (.bipush 116, 2) := by decide +kernel
theorem dL_isWalked_81 : decode cL_isWalked 81 = .ok (.goto 21, 3) := by decide +kernel
theorem dL_isWalked_84 : decode cL_isWalked 84 = .ok (.aload_n 1, 1) := by decide +kernel
theorem dL_isWalked_85 : decode cL_isWalked 85 = .ok (.iload 4, 2) := by decide +kernel
theorem dL_isWalked_87 : decode cL_isWalked 87 = .ok (.iload 5, 2) := by decide +kernel
theorem dL_isWalked_89 : decode cL_isWalked 89 = .ok (.invokestatic 123, 3) := by decide +kernel
theorem dL_isWalked_92 : decode cL_isWalked 92 = .ok (.ifCond .eq 8, 3) := by decide +kernel
theorem dL_isWalked_95 : decode cL_isWalked 95 = .ok (.bipush 114, 2) := by decide +kernel
theorem dL_isWalked_97 : decode cL_isWalked 97 = .ok (.goto 5, 3) := by decide +kernel
theorem dL_isWalked_100 : decode cL_isWalked 100 = .ok (.bipush 111, 2) := by decide +kernel
theorem dL_isWalked_102 : decode cL_isWalked 102 = .ok (.istore 6, 2) := by decide +kernel
theorem dL_isWalked_104 : decode cL_isWalked 104 = .ok (.iload 6, 2) := by decide +kernel
theorem dL_isWalked_106 : decode cL_isWalked 106 = .ok (.bipush 111, 2) := by decide +kernel
theorem dL_isWalked_108 : decode cL_isWalked 108 = .ok (.if_icmp .ne 19, 3) := by decide +kernel
theorem dL_isWalked_111 : decode cL_isWalked 111 = .ok (.aload_n 1, 1) := by decide +kernel
theorem dL_isWalked_112 : decode cL_isWalked 112 = .ok (.sipush 600, 3) := by decide +kernel
theorem dL_isWalked_115 : decode cL_isWalked 115 = .ok (.iload 4, 2) := by decide +kernel
theorem dL_isWalked_117 : decode cL_isWalked 117 = .ok (.iastore, 1) := by decide +kernel
theorem dL_isWalked_118 : decode cL_isWalked 118 = .ok (.aload_n 1, 1) := by decide +kernel
theorem dL_isWalked_119 : decode cL_isWalked 119 = .ok (.iconst 3, 1) := by decide +kernel
theorem dL_isWalked_120 : decode cL_isWalked 120 = .ok (.iconst 1, 1) := by decide +kernel
theorem dL_isWalked_121 : decode cL_isWalked 121 = .ok (.iastore, 1) := by decide +kernel
theorem dL_isWalked_122 : decode cL_isWalked 122 = .ok (.aload_n 1, 1) := by decide +kernel
theorem dL_isWalked_123 : decode cL_isWalked 123 = .ok (.iconst 4, 1) := by decide +kernel
theorem dL_isWalked_124 : decode cL_isWalked 124 = .ok (.iload 5, 2) := by decide +kernel
theorem dL_isWalked_126 : decode cL_isWalked 126 = .ok (.iastore, 1) := by decide +kernel
theorem dL_isWalked_127 : decode cL_isWalked 127 = .ok (.aload_n 0, 1) := by decide +kernel
theorem dL_isWalked_128 : decode cL_isWalked 128 = .ok (.iload 4, 2) := by decide +kernel
theorem dL_isWalked_130 : decode cL_isWalked 130 = .ok (.iload 5, 2) := by decide +kernel
theorem dL_isWalked_132 : decode cL_isWalked 132 = .ok (.invokestatic 186, 3) := by decide +kernel
theorem dL_isWalked_135 : decode cL_isWalked 135 = .ok (.iload 6, 2) := by decide +kernel
theorem dL_isWalked_137 : decode cL_isWalked 137 = .ok (.if_icmp .ne 7, 3) := by decide +kernel
theorem dL_isWalked_140 : decode cL_isWalked 140 = .ok (.iconst 1, 1) := by decide +kernel
theorem dL_isWalked_141 : decode cL_isWalked 141 = .ok (.goto 4, 3) := by decide +kernel
theorem dL_isWalked_144 : decode cL_isWalked 144 = .ok (.iconst 0, 1) := by decide +kernel
theorem dL_isWalked_145 : decode cL_isWalked 145 = .ok (.ireturn, 1) := by decide +kernel
theorem dL_isWalked_146 : decode cL_isWalked 146 = .ok (.aload_n 1, 1) := by decide +kernel
theorem dL_isWalked_147 : decode cL_isWalked 147 = .ok (.iconst 3, 1) := by decide +kernel
theorem dL_isWalked_148 : decode cL_isWalked 148 = .ok (.iaload, 1) := by decide +kernel
theorem dL_isWalked_149 : decode cL_isWalked 149 = .ok (.newarray .int, 2) := by decide +kernel
theorem dL_isWalked_151 : decode cL_isWalked 151 = .ok (.astore 4, 2) := by decide +kernel
theorem dL_isWalked_153 : decode cL_isWalked 153 = .ok (.iconst 0, 1) := by decide +kernel
theorem dL_isWalked_154 : decode cL_isWalked 154 = .ok (.istore 5, 2) := by decide +kernel
theorem dL_isWalked_156 : decode cL_isWalked 156 = .ok (.iload 5, 2) := by decide +kernel
theorem dL_isWalked_158 : decode cL_isWalked 158 = .ok (.aload_n 1, 1) := by decide +kernel
theorem dL_isWalked_159 : decode cL_isWalked 159 = .ok (.iconst 3, 1) := by decide +kernel
theorem dL_isWalked_160 : decode cL_isWalked 160 = .ok (.iaload, 1) := by decide +kernel
theorem dL_isWalked_161 : decode cL_isWalked 161 = .ok (.if_icmp .ge 22, 3) := by decide +kernel
theorem dL_isWalked_164 : decode cL_isWalked 164 = .ok (.aload 4, 2) := by decide +kernel
theorem dL_isWalked_166 : decode cL_isWalked 166 = .ok (.iload 5, 2) := by decide +kernel
theorem dL_isWalked_168 : decode cL_isWalked 168 = .ok (.aload_n 1, 1) := by decide +kernel
theorem dL_isWalked_169 : decode cL_isWalked 169 = .ok (.sipush 600, 3) := by decide +kernel
theorem dL_isWalked_172 : decode cL_isWalked 172 = .ok (.iload 5, 2) := by decide +kernel
theorem dL_isWalked_174 : decode cL_isWalked 174 = .ok (.iadd, 1) := by decide +kernel
theorem dL_isWalked_175 : decode cL_isWalked 175 = .ok (.iaload, 1) := by decide +kernel
theorem dL_isWalked_176 : decode cL_isWalked 176 = .ok (.iastore, 1) := by decide +kernel
theorem dL_isWalked_177 : decode cL_isWalked 177 = .ok (.iinc 5 1, 3) := by decide +kernel
theorem dL_isWalked_180 : decode cL_isWalked 180 = .ok (.goto (-24), 3) := by decide +kernel
theorem dL_isWalked_183 : decode cL_isWalked 183 = .ok (.aload_n 2, 1) := by decide +kernel
theorem dL_isWalked_184 : decode cL_isWalked 184 = .ok (.iload_n 3, 1) := by decide +kernel
theorem dL_isWalked_185 : decode cL_isWalked 185 = .ok (.iconst 1, 1) := by decide +kernel
theorem dL_isWalked_186 : decode cL_isWalked 186 = .ok (.iadd, 1) := by decide +kernel
theorem dL_isWalked_187 : decode cL_isWalked 187 = .ok (.iconst 3, 1) := by decide +kernel
theorem dL_isWalked_188 : decode cL_isWalked 188 = .ok (.invokestatic 101, 3) := by decide +kernel
theorem dL_isWalked_191 : decode cL_isWalked 191 = .ok (.istore 5, 2) := by decide +kernel
theorem dL_isWalked_193 : decode cL_isWalked 193 = .ok (.aload_n 1, 1) := by decide +kernel
theorem dL_isWalked_194 : decode cL_isWalked 194 = .ok (.aload 4, 2) := by decide +kernel
theorem dL_isWalked_196 : decode cL_isWalked 196 = .ok (.aload_n 1, 1) := by decide +kernel
theorem dL_isWalked_197 : decode cL_isWalked 197 = .ok (.iconst 3, 1) := by decide +kernel
theorem dL_isWalked_198 : decode cL_isWalked 198 = .ok (.iaload, 1) := by decide +kernel
theorem dL_isWalked_199 : decode cL_isWalked 199 = .ok (.iconst 1, 1) := by decide +kernel
theorem dL_isWalked_200 : decode cL_isWalked 200 = .ok (.isub, 1) := by decide +kernel
theorem dL_isWalked_201 : decode cL_isWalked 201 = .ok (.iaload, 1) := by decide +kernel
theorem dL_isWalked_202 : decode cL_isWalked 202 = .ok (.iload 5, 2) := by decide +kernel
theorem dL_isWalked_204 : decode cL_isWalked 204 = .ok (.invokestatic 189, 3) := by decide +kernel
theorem dL_isWalked_207 : decode cL_isWalked 207 = .ok (.istore 6, 2) := by decide +kernel
theorem dL_isWalked_209 : decode cL_isWalked 209 = .ok (.iload 6, 2) := by decide +kernel
theorem dL_isWalked_211 : decode cL_isWalked 211 = .ok (.ifCond .ge 20, 3) := by decide +kernel
theorem dL_isWalked_214 : decode cL_isWalked 214 = .ok (.aload_n 0, 1) := by decide +kernel
theorem dL_isWalked_215 : decode cL_isWalked 215 = .ok (.iload 5, 2) := by decide +kernel
theorem dL_isWalked_217 : decode cL_isWalked 217 = .ok (.invokestatic 192, 3) := by decide +kernel
theorem dL_isWalked_220 : decode cL_isWalked 220 = .ok (.ldc 33, 2) := by decide +kernel
theorem dL_isWalked_222 : decode cL_isWalked 222 = .ok (.if_icmp .ne 7, 3) := by decide +kernel
theorem dL_isWalked_225 : decode cL_isWalked 225 = .ok (.iconst 1, 1) := by decide +kernel
theorem dL_isWalked_226 : decode cL_isWalked 226 = .ok (.goto 4, 3) := by decide +kernel
theorem dL_isWalked_229 : decode cL_isWalked 229 = .ok (.iconst 0, 1) := by decide +kernel
theorem dL_isWalked_230 : decode cL_isWalked 230 = .ok (.ireturn, 1) := by decide +kernel
theorem dL_isWalked_231 : decode cL_isWalked 231 = .ok (.aload_n 1, 1) := by decide +kernel
theorem dL_isWalked_232 : decode cL_isWalked 232 = .ok (.aload 4, 2) := by decide +kernel
theorem dL_isWalked_234 : decode cL_isWalked 234 = .ok (.aload_n 1, 1) := by decide +kernel
theorem dL_isWalked_235 : decode cL_isWalked 235 = .ok (.iconst 3, 1) := by decide +kernel
theorem dL_isWalked_236 : decode cL_isWalked 236 = .ok (.iaload, 1) := by decide +kernel
theorem dL_isWalked_237 : decode cL_isWalked 237 = .ok (.iload 6, 2) := by decide +kernel
theorem dL_isWalked_239 : decode cL_isWalked 239 = .ok (.aload_n 1, 1) := by decide +kernel
theorem dL_isWalked_240 : decode cL_isWalked 240 = .ok (.iconst 4, 1) := by decide +kernel
theorem dL_isWalked_241 : decode cL_isWalked 241 = .ok (.iaload, 1) := by decide +kernel
theorem dL_isWalked_242 : decode cL_isWalked 242 = .ok (.invokestatic 130, 3) := by decide +kernel
theorem dL_isWalked_245 : decode cL_isWalked 245 = .ok (.istore 7, 2) := by decide +kernel
theorem dL_isWalked_247 : decode cL_isWalked 247 = .ok (.iload 7, 2) := by decide +kernel
theorem dL_isWalked_249 : decode cL_isWalked 249 = .ok (.bipush 111, 2) := by decide +kernel
theorem dL_isWalked_251 : decode cL_isWalked 251 = .ok (.if_icmp .ne 21, 3) := by decide +kernel
theorem dL_isWalked_254 : decode cL_isWalked 254 = .ok (.aload_n 1, 1) := by decide +kernel
theorem dL_isWalked_255 : decode cL_isWalked 255 = .ok (.sipush 600, 3) := by decide +kernel
theorem dL_isWalked_258 : decode cL_isWalked 258 = .ok (.aload_n 1, 1) := by decide +kernel
theorem dL_isWalked_259 : decode cL_isWalked 259 = .ok (.iconst 3, 1) := by decide +kernel
theorem dL_isWalked_260 : decode cL_isWalked 260 = .ok (.iaload, 1) := by decide +kernel
theorem dL_isWalked_261 : decode cL_isWalked 261 = .ok (.iadd, 1) := by decide +kernel
theorem dL_isWalked_262 : decode cL_isWalked 262 = .ok (.iload 6, 2) := by decide +kernel
theorem dL_isWalked_264 : decode cL_isWalked 264 = .ok (.iastore, 1) := by decide +kernel
theorem dL_isWalked_265 : decode cL_isWalked 265 = .ok (.aload_n 1, 1) := by decide +kernel
theorem dL_isWalked_266 : decode cL_isWalked 266 = .ok (.iconst 3, 1) := by decide +kernel
theorem dL_isWalked_267 : decode cL_isWalked 267 = .ok (.dup2, 1) := by decide +kernel
theorem dL_isWalked_268 : decode cL_isWalked 268 = .ok (.iaload, 1) := by decide +kernel
theorem dL_isWalked_269 : decode cL_isWalked 269 = .ok (.iconst 1, 1) := by decide +kernel
theorem dL_isWalked_270 : decode cL_isWalked 270 = .ok (.iadd, 1) := by decide +kernel
theorem dL_isWalked_271 : decode cL_isWalked 271 = .ok (.iastore, 1) := by decide +kernel
theorem dL_isWalked_272 : decode cL_isWalked 272 = .ok (.aload_n 0, 1) := by decide +kernel
theorem dL_isWalked_273 : decode cL_isWalked 273 = .ok (.iload 5, 2) := by decide +kernel
theorem dL_isWalked_275 : decode cL_isWalked 275 = .ok (.invokestatic 192, 3) := by decide +kernel
theorem dL_isWalked_278 : decode cL_isWalked 278 = .ok (.iload 7, 2) := by decide +kernel
theorem dL_isWalked_280 : decode cL_isWalked 280 = .ok (.if_icmp .ne 7, 3) := by decide +kernel
theorem dL_isWalked_283 : decode cL_isWalked 283 = .ok (.iconst 1, 1) := by decide +kernel
theorem dL_isWalked_284 : decode cL_isWalked 284 = .ok (.goto 4, 3) := by decide +kernel
theorem dL_isWalked_287 : decode cL_isWalked 287 = .ok (.iconst 0, 1) := by decide +kernel
theorem dL_isWalked_288 : decode cL_isWalked 288 = .ok (.ireturn, 1) := by decide +kernel
theorem dL_isWell_0 : decode cL_isWell 0 = .ok (.bipush 10, 2) := by decide +kernel
theorem dL_isWell_2 : decode cL_isWell 2 = .ok (.bipush 14, 2) := by decide +kernel
theorem dL_isWell_4 : decode cL_isWell 4 = .ok (.iload_n 2, 1) := by decide +kernel
theorem dL_isWell_5 : decode cL_isWell 5 = .ok (.imul, 1) := by decide +kernel
theorem dL_isWell_6 : decode cL_isWell 6 = .ok (.iadd, 1) := by decide +kernel
theorem dL_isWell_7 : decode cL_isWell 7 = .ok (.istore 4, 2) := by decide +kernel
theorem dL_isWell_9 : decode cL_isWell 9 = .ok (.aload_n 0, 1) := by decide +kernel
theorem dL_isWell_10 : decode cL_isWell 10 = .ok (.iload_n 2, 1) := by decide +kernel
theorem dL_isWell_11 : decode cL_isWell 11 = .ok (.invokevirtual 194, 3) := by decide +kernel
theorem dL_isWell_14 : decode cL_isWell 14 = .ok (.aload_n 1, 1) := by decide +kernel
theorem dL_isWell_15 : decode cL_isWell 15 = .ok (.iload 4, 2) := by decide +kernel
theorem dL_isWell_17 : decode cL_isWell 17 = .ok (.iaload, 1) := by decide +kernel
theorem dL_isWell_18 : decode cL_isWell 18 = .ok (.if_icmp .ne 49, 3) := by decide +kernel
theorem dL_isWell_21 : decode cL_isWell 21 = .ok (.aload_n 0, 1) := by decide +kernel
theorem dL_isWell_22 : decode cL_isWell 22 = .ok (.iload_n 2, 1) := by decide +kernel
theorem dL_isWell_23 : decode cL_isWell 23 = .ok (.invokevirtual 197, 3) := by decide +kernel
theorem dL_isWell_26 : decode cL_isWell 26 = .ok (.aload_n 1, 1) := by decide +kernel
theorem dL_isWell_27 : decode cL_isWell 27 = .ok (.iload 4, 2) := by decide +kernel
theorem dL_isWell_29 : decode cL_isWell 29 = .ok (.iconst 1, 1) := by decide +kernel
theorem dL_isWell_30 : decode cL_isWell 30 = .ok (.iadd, 1) := by decide +kernel
theorem dL_isWell_31 : decode cL_isWell 31 = .ok (.iaload, 1) := by decide +kernel
theorem dL_isWell_32 : decode cL_isWell 32 = .ok (.if_icmp .ne 35, 3) := by decide +kernel
theorem dL_isWell_35 : decode cL_isWell 35 = .ok (.aload_n 0, 1) := by decide +kernel
theorem dL_isWell_36 : decode cL_isWell 36 = .ok (.iload_n 2, 1) := by decide +kernel
theorem dL_isWell_37 : decode cL_isWell 37 = .ok (.invokevirtual 200, 3) := by decide +kernel
theorem dL_isWell_40 : decode cL_isWell 40 = .ok (.aload_n 1, 1) := by decide +kernel
theorem dL_isWell_41 : decode cL_isWell 41 = .ok (.iload 4, 2) := by decide +kernel
theorem dL_isWell_43 : decode cL_isWell 43 = .ok (.iconst 3, 1) := by decide +kernel
theorem dL_isWell_44 : decode cL_isWell 44 = .ok (.iadd, 1) := by decide +kernel
theorem dL_isWell_45 : decode cL_isWell 45 = .ok (.iaload, 1) := by decide +kernel
theorem dL_isWell_46 : decode cL_isWell 46 = .ok (.if_icmp .ne 21, 3) := by decide +kernel
theorem dL_isWell_49 : decode cL_isWell 49 = .ok (.aload_n 0, 1) := by decide +kernel
theorem dL_isWell_50 : decode cL_isWell 50 = .ok (.iload_n 2, 1) := by decide +kernel
theorem dL_isWell_51 : decode cL_isWell 51 = .ok (.invokevirtual 203, 3) := by decide +kernel
theorem dL_isWell_54 : decode cL_isWell 54 = .ok (.aload_n 1, 1) := by decide +kernel
theorem dL_isWell_55 : decode cL_isWell 55 = .ok (.iload 4, 2) := by decide +kernel
theorem dL_isWell_57 : decode cL_isWell 57 = .ok (.iconst 5, 1) := by decide +kernel
theorem dL_isWell_58 : decode cL_isWell 58 = .ok (.iadd, 1) := by decide +kernel
theorem dL_isWell_59 : decode cL_isWell 59 = .ok (.iaload, 1) := by decide +kernel
theorem dL_isWell_60 : decode cL_isWell 60 = .ok (.if_icmp .ne 7, 3) := by decide +kernel
theorem dL_isWell_63 : decode cL_isWell 63 = .ok (.iconst 1, 1) := by decide +kernel
theorem dL_isWell_64 : decode cL_isWell 64 = .ok (.goto 4, 3) := by decide +kernel
theorem dL_isWell_67 : decode cL_isWell 67 = .ok (.iconst 0, 1) := by decide +kernel
theorem dL_isWell_68 : decode cL_isWell 68 = .ok (.istore 5, 2) := by decide +kernel
theorem dL_isWell_70 : decode cL_isWell 70 = .ok (.iload 5, 2) := by decide +kernel
theorem dL_isWell_72 : decode cL_isWell 72 = .ok (.aload_n 0, 1) := by decide +kernel
theorem dL_isWell_73 : decode cL_isWell 73 = .ok (.iload_n 2, 1) := by decide +kernel
theorem dL_isWell_74 : decode cL_isWell 74 = .ok (.invokevirtual 64, 3) := by decide +kernel
theorem dL_isWell_77 : decode cL_isWell 77 = .ok (.aload_n 1, 1) := by decide +kernel
theorem dL_isWell_78 : decode cL_isWell 78 = .ok (.iload 4, 2) := by decide +kernel
theorem dL_isWell_80 : decode cL_isWell 80 = .ok (.bipush 13, 2) := by decide +kernel
theorem dL_isWell_82 : decode cL_isWell 82 = .ok (.iadd, 1) := by decide +kernel
theorem dL_isWell_83 : decode cL_isWell 83 = .ok (.iaload, 1) := by decide +kernel
theorem dL_isWell_84 : decode cL_isWell 84 = .ok (.iconst 1, 1) := by decide +kernel
theorem dL_isWell_85 : decode cL_isWell 85 = .ok (.if_icmp .ne 8, 3) := by decide +kernel
theorem dL_isWell_88 : decode cL_isWell 88 = .ok (.bipush 114, 2) := by decide +kernel
theorem dL_isWell_90 : decode cL_isWell 90 = .ok (.goto 21, 3) := by decide +kernel
theorem dL_isWell_93 : decode cL_isWell 93 = .ok (.aload_n 1, 1) := by decide +kernel
theorem dL_isWell_94 : decode cL_isWell 94 = .ok (.iload 4, 2) := by decide +kernel
theorem dL_isWell_96 : decode cL_isWell 96 = .ok (.bipush 6, 2) := by decide +kernel
theorem dL_isWell_98 : decode cL_isWell 98 = .ok (.iadd, 1) := by decide +kernel
theorem dL_isWell_99 : decode cL_isWell 99 = .ok (.iaload, 1) := by decide +kernel
theorem dL_isWell_100 : decode cL_isWell 100 = .ok (.iconst 1, 1) := by decide +kernel
theorem dL_isWell_101 : decode cL_isWell 101 = .ok (.if_icmp .ne 8, 3) := by decide +kernel
theorem dL_isWell_104 : decode cL_isWell 104 = .ok (.bipush 97, 2) := by decide +kernel
theorem dL_isWell_106 : decode cL_isWell 106 = .ok (.goto 5, 3) := by decide +kernel
theorem dL_isWell_109 : decode cL_isWell 109 = .ok (.bipush 101, 2) := by decide +kernel
theorem dL_isWell_111 : decode cL_isWell 111 = .ok (.if_icmp .ne 7, 3) := by decide +kernel
theorem dL_isWell_114 : decode cL_isWell 114 = .ok (.iconst 1, 1) := by decide +kernel
theorem dL_isWell_115 : decode cL_isWell 115 = .ok (.goto 4, 3) := by decide +kernel
theorem dL_isWell_118 : decode cL_isWell 118 = .ok (.iconst 0, 1) := by decide +kernel
theorem dL_isWell_119 : decode cL_isWell 119 = .ok (.iand, 1) := by decide +kernel
theorem dL_isWell_120 : decode cL_isWell 120 = .ok (.istore 5, 2) := by decide +kernel
theorem dL_isWell_122 : decode cL_isWell 122 = .ok (.iload 5, 2) := by decide +kernel
theorem dL_isWell_124 : decode cL_isWell 124 = .ok (.aload_n 0, 1) := by decide +kernel
theorem dL_isWell_125 : decode cL_isWell 125 = .ok (.iload_n 2, 1) := by decide +kernel
theorem dL_isWell_126 : decode cL_isWell 126 = .ok (.iload_n 3, 1) := by decide +kernel
theorem dL_isWell_127 : decode cL_isWell 127 = .ok (.invokevirtual 206, 3) := by decide +kernel
theorem dL_isWell_130 : decode cL_isWell 130 = .ok (.aload_n 1, 1) := by decide +kernel
theorem dL_isWell_131 : decode cL_isWell 131 = .ok (.iload_n 2, 1) := by decide +kernel
theorem dL_isWell_132 : decode cL_isWell 132 = .ok (.iload_n 3, 1) := by decide +kernel
theorem dL_isWell_133 : decode cL_isWell 133 = .ok (.invokestatic 123, 3) := by decide +kernel
theorem dL_isWell_136 : decode cL_isWell 136 = .ok (.if_icmp .ne 22, 3) := by decide +kernel
theorem dL_isWell_139 : decode cL_isWell 139 = .ok (.aload_n 0, 1) := by decide +kernel
theorem dL_isWell_140 : decode cL_isWell 140 = .ok (.iload_n 2, 1) := by decide +kernel
theorem dL_isWell_141 : decode cL_isWell 141 = .ok (.iload_n 3, 1) := by decide +kernel
theorem dL_isWell_142 : decode cL_isWell 142 = .ok (.invokevirtual 209, 3) := by decide +kernel
theorem dL_isWell_145 : decode cL_isWell 145 = .ok (.aload_n 1, 1) := by decide +kernel
theorem dL_isWell_146 : decode cL_isWell 146 = .ok (.iload_n 2, 1) := by decide +kernel
theorem dL_isWell_147 : decode cL_isWell 147 = .ok (.iload_n 3, 1) := by decide +kernel
theorem dL_isWell_148 : decode cL_isWell 148 = .ok (.invokestatic 123, 3) := by decide +kernel
theorem dL_isWell_151 : decode cL_isWell 151 = .ok (.if_icmp .ne 7, 3) := by decide +kernel
theorem dL_isWell_154 : decode cL_isWell 154 = .ok (.iconst 1, 1) := by decide +kernel
theorem dL_isWell_155 : decode cL_isWell 155 = .ok (.goto 4, 3) := by decide +kernel
theorem dL_isWell_158 : decode cL_isWell 158 = .ok (.iconst 0, 1) := by decide +kernel
theorem dL_isWell_159 : decode cL_isWell 159 = .ok (.iand, 1) := by decide +kernel
theorem dL_isWell_160 : decode cL_isWell 160 = .ok (.istore 5, 2) := by decide +kernel
theorem dL_isWell_162 : decode cL_isWell 162 = .ok (.iconst 0, 1) := by decide +kernel
theorem dL_isWell_163 : decode cL_isWell 163 = .ok (.istore 6, 2) := by decide +kernel
theorem dL_isWell_165 : decode cL_isWell 165 = .ok (.aload_n 1, 1) := by decide +kernel
theorem dL_isWell_166 : decode cL_isWell 166 = .ok (.iload_n 2, 1) := by decide +kernel
theorem dL_isWell_167 : decode cL_isWell 167 = .ok (.iconst 0, 1) := by decide +kernel
theorem dL_isWell_168 : decode cL_isWell 168 = .ok (.invokestatic 189, 3) := by decide +kernel
theorem dL_isWell_171 : decode cL_isWell 171 = .ok (.istore 7, 2) := by decide +kernel
theorem dL_isWell_173 : decode cL_isWell 173 = .ok (.iload 7, 2) := by decide +kernel
theorem dL_isWell_175 : decode cL_isWell 175 = .ok (.ifCond .lt 40, 3) := by decide +kernel
theorem dL_isWell_178 : decode cL_isWell 178 = .ok (.iload 5, 2) := by decide +kernel
theorem dL_isWell_180 : decode cL_isWell 180 = .ok (.aload_n 0, 1) := by decide +kernel
theorem dL_isWell_181 : decode cL_isWell 181 = .ok (.iload_n 2, 1) := by decide +kernel
theorem dL_isWell_182 : decode cL_isWell 182 = .ok (.iload 6, 2) := by decide +kernel
theorem dL_isWell_184 : decode cL_isWell 184 = .ok (.invokestatic 212, 3) := by decide +kernel
theorem dL_isWell_187 : decode cL_isWell 187 = .ok (.iload 7, 2) := by decide +kernel
theorem dL_isWell_189 : decode cL_isWell 189 = .ok (.if_icmp .ne 7, 3) := by decide +kernel
theorem dL_isWell_192 : decode cL_isWell 192 = .ok (.iconst 1, 1) := by decide +kernel
theorem dL_isWell_193 : decode cL_isWell 193 = .ok (.goto 4, 3) := by decide +kernel
theorem dL_isWell_196 : decode cL_isWell 196 = .ok (.iconst 0, 1) := by decide +kernel
theorem dL_isWell_197 : decode cL_isWell 197 = .ok (.iand, 1) := by decide +kernel
theorem dL_isWell_198 : decode cL_isWell 198 = .ok (.istore 5, 2) := by decide +kernel
theorem dL_isWell_200 : decode cL_isWell 200 = .ok (.iinc 6 1, 3) := by decide +kernel
theorem dL_isWell_203 : decode cL_isWell 203 = .ok (.aload_n 1, 1) := by decide +kernel
theorem dL_isWell_204 : decode cL_isWell 204 = .ok (.iload_n 2, 1) := by decide +kernel
theorem dL_isWell_205 : decode cL_isWell 205 = .ok (.iload 6, 2) := by decide +kernel
theorem dL_isWell_207 : decode cL_isWell 207 = .ok (.invokestatic 189, 3) := by decide +kernel
theorem dL_isWell_210 : decode cL_isWell 210 = .ok (.istore 7, 2) := by decide +kernel
theorem dL_isWell_212 : decode cL_isWell 212 = .ok (.goto (-39), 3) := by decide +kernel
theorem dL_isWell_215 : decode cL_isWell 215 = .ok (.iload 5, 2) := by decide +kernel
theorem dL_isWell_217 : decode cL_isWell 217 = .ok (.aload_n 0, 1) := by decide +kernel
theorem dL_isWell_218 : decode cL_isWell 218 = .ok (.iload_n 2, 1) := by decide +kernel
theorem dL_isWell_219 : decode cL_isWell 219 = .ok (.invokevirtual 214, 3) := by decide +kernel
theorem dL_isWell_222 : decode cL_isWell 222 = .ok (.iload 6, 2) := by decide +kernel
theorem dL_isWell_224 : decode cL_isWell 224 = .ok (.if_icmp .ne 19, 3) := by decide +kernel
theorem dL_isWell_227 : decode cL_isWell 227 = .ok (.aload_n 0, 1) := by decide +kernel
theorem dL_isWell_228 : decode cL_isWell 228 = .ok (.iload_n 2, 1) := by decide +kernel
theorem dL_isWell_229 : decode cL_isWell 229 = .ok (.iload 6, 2) := by decide +kernel
theorem dL_isWell_231 : decode cL_isWell 231 = .ok (.invokestatic 212, 3) := by decide +kernel
theorem dL_isWell_234 : decode cL_isWell 234 = .ok (.ldc 33, 2) := by decide +kernel
theorem dL_isWell_236 : decode cL_isWell 236 = .ok (.if_icmp .ne 7, 3) := by decide +kernel
theorem dL_isWell_239 : decode cL_isWell 239 = .ok (.iconst 1, 1) := by decide +kernel
theorem dL_isWell_240 : decode cL_isWell 240 = .ok (.goto 4, 3) := by decide +kernel
theorem dL_isWell_243 : decode cL_isWell 243 = .ok (.iconst 0, 1) := by decide +kernel
theorem dL_isWell_244 : decode cL_isWell 244 = .ok (.iand, 1) := by decide +kernel
theorem dL_isWell_245 : decode cL_isWell 245 = .ok (.istore 5, 2) := by decide +kernel
theorem dL_isWell_247 : decode cL_isWell 247 = .ok (.aload_n 1, 1) := by decide +kernel
theorem dL_isWell_248 : decode cL_isWell 248 = .ok (.iload_n 2, 1) := by decide +kernel
theorem dL_isWell_249 : decode cL_isWell 249 = .ok (.iload_n 3, 1) := by decide +kernel
theorem dL_isWell_250 : decode cL_isWell 250 = .ok (.invokestatic 217, 3) := by decide +kernel
theorem dL_isWell_253 : decode cL_isWell 253 = .ok (.astore 7, 2) := by decide +kernel
theorem dL_isWell_255 : decode cL_isWell 255 = .ok (.iload 5, 2) := by decide +kernel
theorem dL_isWell_257 : decode cL_isWell 257 = .ok (.aload_n 0, 1) := by decide +kernel
theorem dL_isWell_258 : decode cL_isWell 258 = .ok (.iload_n 2, 1) := by decide +kernel
theorem dL_isWell_259 : decode cL_isWell 259 = .ok (.iload_n 3, 1) := by decide +kernel
theorem dL_isWell_260 : decode cL_isWell 260 = .ok (.invokevirtual 74, 3) := by decide +kernel
theorem dL_isWell_263 : decode cL_isWell 263 = .ok (.aload 7, 2) := by decide +kernel
theorem dL_isWell_265 : decode cL_isWell 265 = .ok (.iconst 1, 1) := by decide +kernel
theorem dL_isWell_266 : decode cL_isWell 266 = .ok (.iaload, 1) := by decide +kernel
theorem dL_isWell_267 : decode cL_isWell 267 = .ok (.if_icmp .ne 48, 3) := by decide +kernel
theorem dL_isWell_270 : decode cL_isWell 270 = .ok (.aload_n 0, 1) := by decide +kernel
theorem dL_isWell_271 : decode cL_isWell 271 = .ok (.iload_n 2, 1) := by decide +kernel
theorem dL_isWell_272 : decode cL_isWell 272 = .ok (.iload_n 3, 1) := by decide +kernel
theorem dL_isWell_273 : decode cL_isWell 273 = .ok (.invokevirtual 80, 3) := by decide +kernel
theorem dL_isWell_276 : decode cL_isWell 276 = .ok (.aload 7, 2) := by decide +kernel
theorem dL_isWell_278 : decode cL_isWell 278 = .ok (.iconst 0, 1) := by decide +kernel
theorem dL_isWell_279 : decode cL_isWell 279 = .ok (.iaload, 1) := by decide +kernel
theorem dL_isWell_280 : decode cL_isWell 280 = .ok (.if_icmp .ne 35, 3) := by decide +kernel
theorem dL_isWell_283 : decode cL_isWell 283 = .ok (.aload_n 0, 1) := by decide +kernel
theorem dL_isWell_284 : decode cL_isWell 284 = .ok (.iload_n 2, 1) := by decide +kernel
theorem dL_isWell_285 : decode cL_isWell 285 = .ok (.iload_n 3, 1) := by decide +kernel
theorem dL_isWell_286 : decode cL_isWell 286 = .ok (.invokevirtual 221, 3) := by decide +kernel
theorem dL_isWell_289 : decode cL_isWell 289 = .ok (.aload 7, 2) := by decide +kernel
theorem dL_isWell_291 : decode cL_isWell 291 = .ok (.iconst 0, 1) := by decide +kernel
theorem dL_isWell_292 : decode cL_isWell 292 = .ok (.iaload, 1) := by decide +kernel
theorem dL_isWell_293 : decode cL_isWell 293 = .ok (.if_icmp .ne 22, 3) := by decide +kernel
theorem dL_isWell_296 : decode cL_isWell 296 = .ok (.aload_n 0, 1) := by decide +kernel
theorem dL_isWell_297 : decode cL_isWell 297 = .ok (.iload_n 2, 1) := by decide +kernel
theorem dL_isWell_298 : decode cL_isWell 298 = .ok (.iload_n 3, 1) := by decide +kernel
theorem dL_isWell_299 : decode cL_isWell 299 = .ok (.aload 7, 2) := by decide +kernel
theorem dL_isWell_301 : decode cL_isWell 301 = .ok (.iconst 1, 1) := by decide +kernel
theorem dL_isWell_302 : decode cL_isWell 302 = .ok (.iaload, 1) := by decide +kernel
theorem dL_isWell_303 : decode cL_isWell 303 = .ok (.invokestatic 224, 3) := by decide +kernel
theorem dL_isWell_306 : decode cL_isWell 306 = .ok (.ldc 39, 2) := by decide +kernel
theorem dL_isWell_308 : decode cL_isWell 308 = .ok (.if_icmp .ne 7, 3) := by decide +kernel
theorem dL_isWell_311 : decode cL_isWell 311 = .ok (.iconst 1, 1) := by decide +kernel
theorem dL_isWell_312 : decode cL_isWell 312 = .ok (.goto 4, 3) := by decide +kernel
theorem dL_isWell_315 : decode cL_isWell 315 = .ok (.iconst 0, 1) := by decide +kernel
theorem dL_isWell_316 : decode cL_isWell 316 = .ok (.iand, 1) := by decide +kernel
theorem dL_isWell_317 : decode cL_isWell 317 = .ok (.istore 5, 2) := by decide +kernel
theorem dL_isWell_319 : decode cL_isWell 319 = .ok (.iconst 0, 1) := by decide +kernel
theorem dL_isWell_320 : decode cL_isWell 320 = .ok (.istore 8, 2) := by decide +kernel
theorem dL_isWell_322 : decode cL_isWell 322 = .ok (.iload 8, 2) := by decide +kernel
theorem dL_isWell_324 : decode cL_isWell 324 = .ok (.aload 7, 2) := by decide +kernel
theorem dL_isWell_326 : decode cL_isWell 326 = .ok (.iconst 1, 1) := by decide +kernel
theorem dL_isWell_327 : decode cL_isWell 327 = .ok (.iaload, 1) := by decide +kernel
theorem dL_isWell_328 : decode cL_isWell 328 = .ok (.if_icmp .ge 37, 3) := by decide +kernel
theorem dL_isWell_331 : decode cL_isWell 331 = .ok (.iload 5, 2) := by decide +kernel
theorem dL_isWell_333 : decode cL_isWell 333 = .ok (.aload_n 0, 1) := by decide +kernel
theorem dL_isWell_334 : decode cL_isWell 334 = .ok (.iload_n 2, 1) := by decide +kernel
theorem dL_isWell_335 : decode cL_isWell 335 = .ok (.iload_n 3, 1) := by decide +kernel
theorem dL_isWell_336 : decode cL_isWell 336 = .ok (.iload 8, 2) := by decide +kernel
theorem dL_isWell_338 : decode cL_isWell 338 = .ok (.invokestatic 224, 3) := by decide +kernel
theorem dL_isWell_341 : decode cL_isWell 341 = .ok (.aload 7, 2) := by decide +kernel
theorem dL_isWell_343 : decode cL_isWell 343 = .ok (.iconst 2, 1) := by decide +kernel
theorem dL_isWell_344 : decode cL_isWell 344 = .ok (.iload 8, 2) := by decide +kernel
theorem dL_isWell_346 : decode cL_isWell 346 = .ok (.iadd, 1) := by decide +kernel
theorem dL_isWell_347 : decode cL_isWell 347 = .ok (.iaload, 1) := by decide +kernel
theorem dL_isWell_348 : decode cL_isWell 348 = .ok (.if_icmp .ne 7, 3) := by decide +kernel
theorem dL_isWell_351 : decode cL_isWell 351 = .ok (.iconst 1, 1) := by decide +kernel
theorem dL_isWell_352 : decode cL_isWell 352 = .ok (.goto 4, 3) := by decide +kernel
theorem dL_isWell_355 : decode cL_isWell 355 = .ok (.iconst 0, 1) := by decide +kernel
theorem dL_isWell_356 : decode cL_isWell 356 = .ok (.iand, 1) := by decide +kernel
theorem dL_isWell_357 : decode cL_isWell 357 = .ok (.istore 5, 2) := by decide +kernel
theorem dL_isWell_359 : decode cL_isWell 359 = .ok (.iinc 8 1, 3) := by decide +kernel
theorem dL_isWell_362 : decode cL_isWell 362 = .ok (.goto (-40), 3) := by decide +kernel
theorem dL_isWell_365 : decode cL_isWell 365 = .ok (.iload 5, 2) := by decide +kernel
theorem dL_isWell_367 : decode cL_isWell 367 = .ok (.ireturn, 1) := by decide +kernel
theorem dL_isTold_0 : decode cL_isTold 0 = .ok (.iconst 0, 1) := by decide +kernel
theorem dL_isTold_1 : decode cL_isTold 1 = .ok (.istore_n 2, 1) := by decide +kernel
theorem dL_isTold_2 : decode cL_isTold 2 = .ok (.iconst 0, 1) := by decide +kernel
theorem dL_isTold_3 : decode cL_isTold 3 = .ok (.istore_n 3, 1) := by decide +kernel
theorem dL_isTold_4 : decode cL_isTold 4 = .ok (.iconst 0, 1) := by decide +kernel
theorem dL_isTold_5 : decode cL_isTold 5 = .ok (.istore 4, 2) := by decide +kernel
theorem dL_isTold_7 : decode cL_isTold 7 = .ok (.iconst 0, 1) := by decide +kernel
theorem dL_isTold_8 : decode cL_isTold 8 = .ok (.istore 5, 2) := by decide +kernel
theorem dL_isTold_10 : decode cL_isTold 10 = .ok (.iload 5, 2) := by decide +kernel
theorem dL_isTold_12 : decode cL_isTold 12 = .ok (.aload_n 1, 1) := by decide +kernel
theorem dL_isTold_13 : decode cL_isTold 13 = .ok (.iconst 0, 1) := by decide +kernel
theorem dL_isTold_14 : decode cL_isTold 14 = .ok (.iaload, 1) := by decide +kernel
theorem dL_isTold_15 : decode cL_isTold 15 = .ok (.if_icmp .ge 74, 3) := by decide +kernel
theorem dL_isTold_18 : decode cL_isTold 18 = .ok (.aload_n 1, 1) := by decide +kernel
theorem dL_isTold_19 : decode cL_isTold 19 = .ok (.iload 5, 2) := by decide +kernel
theorem dL_isTold_21 : decode cL_isTold 21 = .ok (.aload_n 1, 1) := by decide +kernel
theorem dL_isTold_22 : decode cL_isTold 22 = .ok (.iconst 2, 1) := by decide +kernel
theorem dL_isTold_23 : decode cL_isTold 23 = .ok (.iaload, 1) := by decide +kernel
theorem dL_isTold_24 : decode cL_isTold 24 = .ok (.invokestatic 217, 3) := by decide +kernel
theorem dL_isTold_27 : decode cL_isTold 27 = .ok (.iconst 1, 1) := by decide +kernel
theorem dL_isTold_28 : decode cL_isTold 28 = .ok (.iaload, 1) := by decide +kernel
theorem dL_isTold_29 : decode cL_isTold 29 = .ok (.istore 6, 2) := by decide +kernel
theorem dL_isTold_31 : decode cL_isTold 31 = .ok (.iload_n 2, 1) := by decide +kernel
theorem dL_isTold_32 : decode cL_isTold 32 = .ok (.aload_n 1, 1) := by decide +kernel
theorem dL_isTold_33 : decode cL_isTold 33 = .ok (.iload 5, 2) := by decide +kernel
theorem dL_isTold_35 : decode cL_isTold 35 = .ok (.aload_n 1, 1) := by decide +kernel
theorem dL_isTold_36 : decode cL_isTold 36 = .ok (.iconst 2, 1) := by decide +kernel
theorem dL_isTold_37 : decode cL_isTold 37 = .ok (.iaload, 1) := by decide +kernel
theorem dL_isTold_38 : decode cL_isTold 38 = .ok (.invokestatic 120, 3) := by decide +kernel
theorem dL_isTold_41 : decode cL_isTold 41 = .ok (.ifCond .eq 19, 3) := by decide +kernel
theorem dL_isTold_44 : decode cL_isTold 44 = .ok (.aload_n 1, 1) := by decide +kernel
theorem dL_isTold_45 : decode cL_isTold 45 = .ok (.iload 5, 2) := by decide +kernel
theorem dL_isTold_47 : decode cL_isTold 47 = .ok (.aload_n 1, 1) := by decide +kernel
theorem dL_isTold_48 : decode cL_isTold 48 = .ok (.iconst 2, 1) := by decide +kernel
theorem dL_isTold_49 : decode cL_isTold 49 = .ok (.iaload, 1) := by decide +kernel
theorem dL_isTold_50 : decode cL_isTold 50 = .ok (.invokestatic 123, 3) := by decide +kernel
theorem dL_isTold_53 : decode cL_isTold 53 = .ok (.ifCond .ne 7, 3) := by decide +kernel
theorem dL_isTold_56 : decode cL_isTold 56 = .ok (.iconst 1, 1) := by decide +kernel
theorem dL_isTold_57 : decode cL_isTold 57 = .ok (.goto 4, 3) := by decide +kernel
theorem dL_isTold_60 : decode cL_isTold 60 = .ok (.iconst 0, 1) := by decide +kernel
theorem dL_isTold_61 : decode cL_isTold 61 = .ok (.iadd, 1) := by decide +kernel
theorem dL_isTold_62 : decode cL_isTold 62 = .ok (.istore_n 2, 1) := by decide +kernel
theorem dL_isTold_63 : decode cL_isTold 63 = .ok (.iload_n 3, 1) := by decide +kernel
theorem dL_isTold_64 : decode cL_isTold 64 = .ok (.iload 6, 2) := by decide +kernel
theorem dL_isTold_66 : decode cL_isTold 66 = .ok (.iadd, 1) := by decide +kernel
theorem dL_isTold_67 : decode cL_isTold 67 = .ok (.istore_n 3, 1) := by decide +kernel
theorem dL_isTold_68 : decode cL_isTold 68 = .ok (.iload 4, 2) := by decide +kernel
theorem dL_isTold_70 : decode cL_isTold 70 = .ok (.iload 6, 2) := by decide +kernel
theorem dL_isTold_72 : decode cL_isTold 72 = .ok (.ifCond .le 7, 3) := by decide +kernel
theorem dL_isTold_75 : decode cL_isTold 75 = .ok (.iconst 1, 1) := by decide +kernel
theorem dL_isTold_76 : decode cL_isTold 76 = .ok (.goto 4, 3) := by decide +kernel
theorem dL_isTold_79 : decode cL_isTold 79 = .ok (.iconst 0, 1) := by decide +kernel
theorem dL_isTold_80 : decode cL_isTold 80 = .ok (.iadd, 1) := by decide +kernel
theorem dL_isTold_81 : decode cL_isTold 81 = .ok (.istore 4, 2) := by decide +kernel
theorem dL_isTold_83 : decode cL_isTold 83 = .ok (.iinc 5 1, 3) := by decide +kernel
theorem dL_isTold_86 : decode cL_isTold 86 = .ok (.goto (-76), 3) := by decide +kernel
theorem dL_isTold_89 : decode cL_isTold 89 = .ok (.aload_n 1, 1) := by decide +kernel
theorem dL_isTold_90 : decode cL_isTold 90 = .ok (.iconst 3, 1) := by decide +kernel
theorem dL_isTold_91 : decode cL_isTold 91 = .ok (.iaload, 1) := by decide +kernel
theorem dL_isTold_92 : decode cL_isTold 92 = .ok (.ifCond .ne 7, 3) := by decide +kernel
theorem dL_isTold_95 : decode cL_isTold 95 = .ok (.iconst 0, 1) := by decide +kernel
theorem dL_isTold_96 : decode cL_isTold 96 = .ok (.goto 12, 3) := by decide +kernel
theorem dL_isTold_99 : decode cL_isTold 99 = .ok (.aload_n 1, 1) := by decide +kernel
theorem dL_isTold_100 : decode cL_isTold 100 = .ok (.sipush 599, 3) := by decide +kernel
theorem dL_isTold_103 : decode cL_isTold 103 = .ok (.aload_n 1, 1) := by decide +kernel
theorem dL_isTold_104 : decode cL_isTold 104 = .ok (.iconst 3, 1) := by decide +kernel
theorem dL_isTold_105 : decode cL_isTold 105 = .ok (.iaload, 1) := by decide +kernel
theorem dL_isTold_106 : decode cL_isTold 106 = .ok (.iadd, 1) := by decide +kernel
theorem dL_isTold_107 : decode cL_isTold 107 = .ok (.iaload, 1) := by decide +kernel
theorem dL_isTold_108 : decode cL_isTold 108 = .ok (.istore 5, 2) := by decide +kernel
theorem dL_isTold_110 : decode cL_isTold 110 = .ok (.aload_n 1, 1) := by decide +kernel
theorem dL_isTold_111 : decode cL_isTold 111 = .ok (.iconst 3, 1) := by decide +kernel
theorem dL_isTold_112 : decode cL_isTold 112 = .ok (.iaload, 1) := by decide +kernel
theorem dL_isTold_113 : decode cL_isTold 113 = .ok (.ifCond .le 35, 3) := by decide +kernel
theorem dL_isTold_116 : decode cL_isTold 116 = .ok (.aload_n 1, 1) := by decide +kernel
theorem dL_isTold_117 : decode cL_isTold 117 = .ok (.bipush 23, 2) := by decide +kernel
theorem dL_isTold_119 : decode cL_isTold 119 = .ok (.bipush 14, 2) := by decide +kernel
theorem dL_isTold_121 : decode cL_isTold 121 = .ok (.iload 5, 2) := by decide +kernel
theorem dL_isTold_123 : decode cL_isTold 123 = .ok (.imul, 1) := by decide +kernel
theorem dL_isTold_124 : decode cL_isTold 124 = .ok (.iadd, 1) := by decide +kernel
theorem dL_isTold_125 : decode cL_isTold 125 = .ok (.iaload, 1) := by decide +kernel
theorem dL_isTold_126 : decode cL_isTold 126 = .ok (.iconst 1, 1) := by decide +kernel
theorem dL_isTold_127 : decode cL_isTold 127 = .ok (.if_icmp .ne 21, 3) := by decide +kernel
theorem dL_isTold_130 : decode cL_isTold 130 = .ok (.aload_n 1, 1) := by decide +kernel
theorem dL_isTold_131 : decode cL_isTold 131 = .ok (.bipush 22, 2) := by decide +kernel
theorem dL_isTold_133 : decode cL_isTold 133 = .ok (.bipush 14, 2) := by decide +kernel
theorem dL_isTold_135 : decode cL_isTold 135 = .ok (.iload 5, 2) := by decide +kernel
theorem dL_isTold_137 : decode cL_isTold 137 = .ok (.imul, 1) := by decide +kernel
theorem dL_isTold_138 : decode cL_isTold 138 = .ok (.iadd, 1) := by decide +kernel
theorem dL_isTold_139 : decode cL_isTold 139 = .ok (.iaload, 1) := by decide +kernel
theorem dL_isTold_140 : decode cL_isTold 140 = .ok (.iconst 1, 1) := by decide +kernel
theorem dL_isTold_141 : decode cL_isTold 141 = .ok (.if_icmp .ne 7, 3) := by decide +kernel
theorem dL_isTold_144 : decode cL_isTold 144 = .ok (.iconst 1, 1) := by decide +kernel
theorem dL_isTold_145 : decode cL_isTold 145 = .ok (.goto 4, 3) := by decide +kernel
theorem dL_isTold_148 : decode cL_isTold 148 = .ok (.iconst 0, 1) := by decide +kernel
theorem dL_isTold_149 : decode cL_isTold 149 = .ok (.istore 6, 2) := by decide +kernel
theorem dL_isTold_151 : decode cL_isTold 151 = .ok (.aload_n 0, 1) := by decide +kernel
theorem dL_isTold_152 : decode cL_isTold 152 = .ok (.invokevirtual 226, 3) := by decide +kernel
theorem dL_isTold_155 : decode cL_isTold 155 = .ok (.aload_n 1, 1) := by decide +kernel
theorem dL_isTold_156 : decode cL_isTold 156 = .ok (.iconst 3, 1) := by decide +kernel
theorem dL_isTold_157 : decode cL_isTold 157 = .ok (.iaload, 1) := by decide +kernel
theorem dL_isTold_158 : decode cL_isTold 158 = .ok (.if_icmp .ne 56, 3) := by decide +kernel
theorem dL_isTold_161 : decode cL_isTold 161 = .ok (.aload_n 0, 1) := by decide +kernel
theorem dL_isTold_162 : decode cL_isTold 162 = .ok (.invokevirtual 229, 3) := by decide +kernel
theorem dL_isTold_165 : decode cL_isTold 165 = .ok (.iload 6, 2) := by decide +kernel
theorem dL_isTold_167 : decode cL_isTold 167 = .ok (.if_icmp .ne 47, 3) := by decide +kernel
theorem dL_isTold_170 : decode cL_isTold 170 = .ok (.aload_n 0, 1) := by decide +kernel
theorem dL_isTold_171 : decode cL_isTold 171 = .ok (.invokestatic 233, 3) := by decide +kernel
theorem dL_isTold_174 : decode cL_isTold 174 = .ok (.aload_n 1, 1) := by decide +kernel
theorem dL_isTold_175 : decode cL_isTold 175 = .ok (.iconst 3, 1) := by decide +kernel
theorem dL_isTold_176 : decode cL_isTold 176 = .ok (.iaload, 1) := by decide +kernel
theorem dL_isTold_177 : decode cL_isTold 177 = .ok (.ifCond .ne 8, 3) := by decide +kernel
theorem dL_isTold_180 : decode cL_isTold 180 = .ok (.ldc 30, 2) := by decide +kernel
theorem dL_isTold_182 : decode cL_isTold 182 = .ok (.goto 5, 3) := by decide +kernel
theorem dL_isTold_185 : decode cL_isTold 185 = .ok (.iload 5, 2) := by decide +kernel
theorem dL_isTold_187 : decode cL_isTold 187 = .ok (.if_icmp .ne 27, 3) := by decide +kernel
theorem dL_isTold_190 : decode cL_isTold 190 = .ok (.aload_n 0, 1) := by decide +kernel
theorem dL_isTold_191 : decode cL_isTold 191 = .ok (.invokevirtual 236, 3) := by decide +kernel
theorem dL_isTold_194 : decode cL_isTold 194 = .ok (.aload_n 1, 1) := by decide +kernel
theorem dL_isTold_195 : decode cL_isTold 195 = .ok (.iconst 2, 1) := by decide +kernel
theorem dL_isTold_196 : decode cL_isTold 196 = .ok (.iaload, 1) := by decide +kernel
theorem dL_isTold_197 : decode cL_isTold 197 = .ok (.if_icmp .ne 17, 3) := by decide +kernel
theorem dL_isTold_200 : decode cL_isTold 200 = .ok (.aload_n 0, 1) := by decide +kernel
theorem dL_isTold_201 : decode cL_isTold 201 = .ok (.invokevirtual 239, 3) := by decide +kernel
theorem dL_isTold_204 : decode cL_isTold 204 = .ok (.aload_n 1, 1) := by decide +kernel
theorem dL_isTold_205 : decode cL_isTold 205 = .ok (.iconst 0, 1) := by decide +kernel
theorem dL_isTold_206 : decode cL_isTold 206 = .ok (.iaload, 1) := by decide +kernel
theorem dL_isTold_207 : decode cL_isTold 207 = .ok (.if_icmp .ne 7, 3) := by decide +kernel
theorem dL_isTold_210 : decode cL_isTold 210 = .ok (.iconst 1, 1) := by decide +kernel
theorem dL_isTold_211 : decode cL_isTold 211 = .ok (.goto 4, 3) := by decide +kernel
theorem dL_isTold_214 : decode cL_isTold 214 = .ok (.iconst 0, 1) := by decide +kernel
theorem dL_isTold_215 : decode cL_isTold 215 = .ok (.istore 7, 2) := by decide +kernel
theorem dL_isTold_217 : decode cL_isTold 217 = .ok (.iload 7, 2) := by decide +kernel
theorem dL_isTold_219 : decode cL_isTold 219 = .ok (.ifCond .eq 47, 3) := by decide +kernel
theorem dL_isTold_222 : decode cL_isTold 222 = .ok (.aload_n 0, 1) := by decide +kernel
theorem dL_isTold_223 : decode cL_isTold 223 = .ok (.invokestatic 242, 3) := by decide +kernel
theorem dL_isTold_226 : decode cL_isTold 226 = .ok (.iload_n 2, 1) := by decide +kernel
theorem dL_isTold_227 : decode cL_isTold 227 = .ok (.i2f, 1) := by decide +kernel
theorem dL_isTold_228 : decode cL_isTold 228 = .ok (.aload_n 1, 1) := by decide +kernel
theorem dL_isTold_229 : decode cL_isTold 229 = .ok (.iconst 0, 1) := by decide +kernel
theorem dL_isTold_230 : decode cL_isTold 230 = .ok (.iaload, 1) := by decide +kernel
theorem dL_isTold_231 : decode cL_isTold 231 = .ok (.i2f, 1) := by decide +kernel
theorem dL_isTold_232 : decode cL_isTold 232 = .ok (.fdiv, 1) := by decide +kernel
theorem dL_isTold_233 : decode cL_isTold 233 = .ok (.fcmp .l, 1) := by decide +kernel
theorem dL_isTold_234 : decode cL_isTold 234 = .ok (.ifCond .ne 32, 3) := by decide +kernel
theorem dL_isTold_237 : decode cL_isTold 237 = .ok (.aload_n 0, 1) := by decide +kernel
theorem dL_isTold_238 : decode cL_isTold 238 = .ok (.invokestatic 245, 3) := by decide +kernel
theorem dL_isTold_241 : decode cL_isTold 241 = .ok (.iload 4, 2) := by decide +kernel
theorem dL_isTold_243 : decode cL_isTold 243 = .ok (.ifCond .ne 9, 3) := by decide +kernel
theorem dL_isTold_246 : decode cL_isTold 246 = .ok (.ldc2_w 17, 3) := by decide +kernel
theorem dL_isTold_249 : decode cL_isTold 249 = .ok (.goto 9, 3) := by decide +kernel
theorem dL_isTold_252 : decode cL_isTold 252 = .ok (.iload_n 3, 1) := by decide +kernel
theorem dL_isTold_253 : decode cL_isTold 253 = .ok (.i2d, 1) := by decide +kernel
theorem dL_isTold_254 : decode cL_isTold 254 = .ok (.iload 4, 2) := by decide +kernel
theorem dL_isTold_256 : decode cL_isTold 256 = .ok (.i2d, 1) := by decide +kernel
theorem dL_isTold_257 : decode cL_isTold 257 = .ok (.ddiv, 1) := by decide +kernel
theorem dL_isTold_258 : decode cL_isTold 258 = .ok (.dcmp .l, 1) := by decide +kernel
theorem dL_isTold_259 : decode cL_isTold 259 = .ok (.ifCond .ne 7, 3) := by decide +kernel
theorem dL_isTold_262 : decode cL_isTold 262 = .ok (.iconst 1, 1) := by decide +kernel
theorem dL_isTold_263 : decode cL_isTold 263 = .ok (.goto 4, 3) := by decide +kernel
theorem dL_isTold_266 : decode cL_isTold 266 = .ok (.iconst 0, 1) := by decide +kernel
theorem dL_isTold_267 : decode cL_isTold 267 = .ok (.ireturn, 1) := by decide +kernel
