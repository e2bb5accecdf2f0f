theorem dL_law_336 : decode cL_law 336 = .ok (.goto (-113), 3) := by decide +kernel
theorem dL_law_339 : decode cL_law 339 = .ok (.iinc 9 1, 3) := by decide +kernel
theorem dL_law_342 : decode cL_law 342 = .ok (.goto (-285), 3) := by decide +kernel
theorem dL_law_345 : decode cL_law 345 = .ok (.iconst 0, 1) := by decide +kernel
theorem dL_law_346 : decode cL_law 346 = .ok (.istore 9, 2) := by decide +kernel
theorem dL_law_348 : decode cL_law 348 = .ok (.iload 9, 2) := by decide +kernel
theorem dL_law_350 : decode cL_law 350 = .ok (.iconst 4, 1) := by decide +kernel
theorem dL_law_351 : decode cL_law 351 = .ok (.if_icmp .ge 415, 3) := by decide +kernel
theorem dL_law_354 : decode cL_law 354 = .ok (.aload_n 0, 1) := by decide +kernel
theorem dL_law_355 : decode cL_law 355 = .ok (.iconst 1, 1) := by decide +kernel
theorem dL_law_356 : decode cL_law 356 = .ok (.iload 9, 2) := by decide +kernel
theorem dL_law_358 : decode cL_law 358 = .ok (.iadd, 1) := by decide +kernel
theorem dL_law_359 : decode cL_law 359 = .ok (.invokestatic 103, 3) := by decide +kernel
theorem dL_law_362 : decode cL_law 362 = .ok (.iconst 1, 1) := by decide +kernel
theorem dL_law_363 : decode cL_law 363 = .ok (.iushr, 1) := by decide +kernel
theorem dL_law_364 : decode cL_law 364 = .ok (.istore 10, 2) := by decide +kernel
theorem dL_law_366 : decode cL_law 366 = .ok (.iload 10, 2) := by decide +kernel
theorem dL_law_368 : decode cL_law 368 = .ok (.iload 5, 2) := by decide +kernel
theorem dL_law_370 : decode cL_law 370 = .ok (.irem, 1) := by decide +kernel
theorem dL_law_371 : decode cL_law 371 = .ok (.istore 11, 2) := by decide +kernel
theorem dL_law_373 : decode cL_law 373 = .ok (.iload 10, 2) := by decide +kernel
theorem dL_law_375 : decode cL_law 375 = .ok (.bipush 8, 2) := by decide +kernel
theorem dL_law_377 : decode cL_law 377 = .ok (.iushr, 1) := by decide +kernel
theorem dL_law_378 : decode cL_law 378 = .ok (.iload 5, 2) := by decide +kernel
theorem dL_law_380 : decode cL_law 380 = .ok (.irem, 1) := by decide +kernel
theorem dL_law_381 : decode cL_law 381 = .ok (.istore 12, 2) := by decide +kernel
theorem dL_law_383 : decode cL_law 383 = .ok (.iconst 0, 1) := by decide +kernel
theorem dL_law_384 : decode cL_law 384 = .ok (.istore 13, 2) := by decide +kernel
theorem dL_law_386 : decode cL_law 386 = .ok (.iconst 0, 1) := by decide +kernel
theorem dL_law_387 : decode cL_law 387 = .ok (.istore 14, 2) := by decide +kernel
theorem dL_law_389 : decode cL_law 389 = .ok (.lconst 0, 1) := by decide +kernel
theorem dL_law_390 : decode cL_law 390 = .ok (.lstore 15, 2) := by decide +kernel
theorem dL_law_392 : decode cL_law 392 = .ok (.iconst 0, 1) := by decide +kernel
theorem dL_law_393 : decode cL_law 393 = .ok (.istore 17, 2) := by decide +kernel
theorem dL_law_395 : decode cL_law 395 = .ok (.iload 17, 2) := by decide +kernel
theorem dL_law_397 : decode cL_law 397 = .ok (.iload 5, 2) := by decide +kernel
theorem dL_law_399 : decode cL_law 399 = .ok (.if_icmp .ge 270, 3) := by decide +kernel
theorem dL_law_402 : decode cL_law 402 = .ok (.lconst 0, 1) := by decide +kernel
theorem dL_law_403 : decode cL_law 403 = .ok (.lstore 18, 2) := by decide +kernel
theorem dL_law_405 : decode cL_law 405 = .ok (.iconst 0, 1) := by decide +kernel
theorem dL_law_406 : decode cL_law 406 = .ok (.istore 20, 2) := by decide +kernel
theorem dL_law_408 : decode cL_law 408 = .ok (.iload 20, 2) := by decide +kernel
theorem dL_law_410 : decode cL_law 410 = .ok (.iload 5, 2) := by decide +kernel
theorem dL_law_412 : decode cL_law 412 = .ok (.if_icmp .ge 55, 3) := by decide +kernel
theorem dL_law_415 : decode cL_law 415 = .ok (.lload 18, 2) := by decide +kernel
theorem dL_law_417 : decode cL_law 417 = .ok (.aload_n 2, 1) := by decide +kernel
theorem dL_law_418 : decode cL_law 418 = .ok (.iload 4, 2) := by decide +kernel
theorem dL_law_420 : decode cL_law 420 = .ok (.iload 20, 2) := by decide +kernel
theorem dL_law_422 : decode cL_law 422 = .ok (.iadd, 1) := by decide +kernel
theorem dL_law_423 : decode cL_law 423 = .ok (.aaload, 1) := by decide +kernel
theorem dL_law_424 : decode cL_law 424 = .ok (.invokestatic 127, 3) := by decide +kernel
theorem dL_law_427 : decode cL_law 427 = .ok (.i2l, 1) := by decide +kernel
theorem dL_law_428 : decode cL_law 428 = .ok (.aload 6, 2) := by decide +kernel
theorem dL_law_430 : decode cL_law 430 = .ok (.iload 11, 2) := by decide +kernel
theorem dL_law_432 : decode cL_law 432 = .ok (.aaload, 1) := by decide +kernel
theorem dL_law_433 : decode cL_law 433 = .ok (.iload 20, 2) := by decide +kernel
theorem dL_law_435 : decode cL_law 435 = .ok (.iaload, 1) := by decide +kernel
theorem dL_law_436 : decode cL_law 436 = .ok (.i2l, 1) := by decide +kernel
theorem dL_law_437 : decode cL_law 437 = .ok (.lmul, 1) := by decide +kernel
theorem dL_law_438 : decode cL_law 438 = .ok (.aload 6, 2) := by decide +kernel
theorem dL_law_440 : decode cL_law 440 = .ok (.iload 12, 2) := by decide +kernel
theorem dL_law_442 : decode cL_law 442 = .ok (.aaload, 1) := by decide +kernel
theorem dL_law_443 : decode cL_law 443 = .ok (.iload 20, 2) := by decide +kernel
theorem dL_law_445 : decode cL_law 445 = .ok (.iaload, 1) := by decide +kernel
theorem dL_law_446 : decode cL_law 446 = .ok (.i2l, 1) := by decide +kernel
theorem dL_law_447 : decode cL_law 447 = .ok (.lmul, 1) := by decide +kernel
theorem dL_law_448 : decode cL_law 448 = .ok (.aload 6, 2) := by decide +kernel
theorem dL_law_450 : decode cL_law 450 = .ok (.iload 17, 2) := by decide +kernel
theorem dL_law_452 : decode cL_law 452 = .ok (.aaload, 1) := by decide +kernel
theorem dL_law_453 : decode cL_law 453 = .ok (.iload 20, 2) := by decide +kernel
theorem dL_law_455 : decode cL_law 455 = .ok (.iaload, 1) := by decide +kernel
theorem dL_law_456 : decode cL_law 456 = .ok (.i2l, 1) := by decide +kernel
theorem dL_law_457 : decode cL_law 457 = .ok (.lmul, 1) := by decide +kernel
theorem dL_law_458 : decode cL_law 458 = .ok (.ladd, 1) := by decide +kernel
theorem dL_law_459 : decode cL_law 459 = .ok (.lstore 18, 2) := by decide +kernel
theorem dL_law_461 : decode cL_law 461 = .ok (.iinc 20 1, 3) := by decide +kernel
theorem dL_law_464 : decode cL_law 464 = .ok (.goto (-56), 3) := by decide +kernel
theorem dL_law_467 : decode cL_law 467 = .ok (.aload_n 1, 1) := by decide +kernel
theorem dL_law_468 : decode cL_law 468 = .ok (.iload 4, 2) := by decide +kernel
theorem dL_law_470 : decode cL_law 470 = .ok (.iload 11, 2) := by decide +kernel
theorem dL_law_472 : decode cL_law 472 = .ok (.iadd, 1) := by decide +kernel
theorem dL_law_473 : decode cL_law 473 = .ok (.iload 4, 2) := by decide +kernel
theorem dL_law_475 : decode cL_law 475 = .ok (.iload 12, 2) := by decide +kernel
theorem dL_law_477 : decode cL_law 477 = .ok (.iadd, 1) := by decide +kernel
theorem dL_law_478 : decode cL_law 478 = .ok (.iload 4, 2) := by decide +kernel
theorem dL_law_480 : decode cL_law 480 = .ok (.iload 17, 2) := by decide +kernel
theorem dL_law_482 : decode cL_law 482 = .ok (.iadd, 1) := by decide +kernel
theorem dL_law_483 : decode cL_law 483 = .ok (.invokevirtual 132, 3) := by decide +kernel
theorem dL_law_486 : decode cL_law 486 = .ok (.istore 20, 2) := by decide +kernel
theorem dL_law_488 : decode cL_law 488 = .ok (.lload 18, 2) := by decide +kernel
theorem dL_law_490 : decode cL_law 490 = .ok (.iload 20, 2) := by decide +kernel
theorem dL_law_492 : decode cL_law 492 = .ok (.i2l, 1) := by decide +kernel
theorem dL_law_493 : decode cL_law 493 = .ok (.lload 7, 2) := by decide +kernel
theorem dL_law_495 : decode cL_law 495 = .ok (.lmul, 1) := by decide +kernel
theorem dL_law_496 : decode cL_law 496 = .ok (.lcmp, 1) := by decide +kernel
theorem dL_law_497 : decode cL_law 497 = .ok (.ifCond .ne 8, 3) := by decide +kernel
theorem dL_law_500 : decode cL_law 500 = .ok (.iload 20, 2) := by decide +kernel
theorem dL_law_502 : decode cL_law 502 = .ok (.ifCond .ge 5, 3) := by decide +kernel
theorem dL_law_505 : decode cL_law 505 = .ok (.iconst 0, 1) := by decide +kernel
theorem dL_law_506 : decode cL_law 506 = .ok (.ireturn, 1) := by decide +kernel
theorem dL_law_507 : decode cL_law 507 = .ok (.iload 20, 2) := by decide +kernel
theorem dL_law_509 : decode cL_law 509 = .ok (.ifCond .le 32, 3) := by decide +kernel
theorem dL_law_512 : decode cL_law 512 = .ok (.aload_n 1, 1) := by decide +kernel
theorem dL_law_513 : decode cL_law 513 = .ok (.iload 4, 2) := by decide +kernel
theorem dL_law_515 : decode cL_law 515 = .ok (.iload 11, 2) := by decide +kernel
theorem dL_law_517 : decode cL_law 517 = .ok (.iadd, 1) := by decide +kernel
theorem dL_law_518 : decode cL_law 518 = .ok (.iload 4, 2) := by decide +kernel
theorem dL_law_520 : decode cL_law 520 = .ok (.iload 12, 2) := by decide +kernel
theorem dL_law_522 : decode cL_law 522 = .ok (.iadd, 1) := by decide +kernel
theorem dL_law_523 : decode cL_law 523 = .ok (.iload 13, 2) := by decide +kernel
theorem dL_law_525 : decode cL_law 525 = .ok (.iinc 13 1, 3) := by decide +kernel
theorem dL_law_528 : decode cL_law 528 = .ok (.invokevirtual 136, 3) := by decide +kernel
theorem dL_law_531 : decode cL_law 531 = .ok (.iload 4, 2) := by decide +kernel
theorem dL_law_533 : decode cL_law 533 = .ok (.iload 17, 2) := by decide +kernel
theorem dL_law_535 : decode cL_law 535 = .ok (.iadd, 1) := by decide +kernel
theorem dL_law_536 : decode cL_law 536 = .ok (.if_icmp .eq 5, 3) := by decide +kernel
theorem dL_law_539 : decode cL_law 539 = .ok (.iconst 0, 1) := by decide +kernel
theorem dL_law_540 : decode cL_law 540 = .ok (.ireturn, 1) := by decide +kernel
theorem dL_law_541 : decode cL_law 541 = .ok (.iload 14, 2) := by decide +kernel
theorem dL_law_543 : decode cL_law 543 = .ok (.iload 20, 2) := by decide +kernel
theorem dL_law_545 : decode cL_law 545 = .ok (.invokestatic 139, 3) := by decide +kernel
theorem dL_law_548 : decode cL_law 548 = .ok (.istore 14, 2) := by decide +kernel
theorem dL_law_550 : decode cL_law 550 = .ok (.lload 15, 2) := by decide +kernel
theorem dL_law_552 : decode cL_law 552 = .ok (.iload 20, 2) := by decide +kernel
theorem dL_law_554 : decode cL_law 554 = .ok (.i2l, 1) := by decide +kernel
theorem dL_law_555 : decode cL_law 555 = .ok (.aload 6, 2) := by decide +kernel
theorem dL_law_557 : decode cL_law 557 = .ok (.iload 17, 2) := by decide +kernel
theorem dL_law_559 : decode cL_law 559 = .ok (.aaload, 1) := by decide +kernel
theorem dL_law_560 : decode cL_law 560 = .ok (.iload 5, 2) := by decide +kernel
theorem dL_law_562 : decode cL_law 562 = .ok (.iconst 1, 1) := by decide +kernel
theorem dL_law_563 : decode cL_law 563 = .ok (.isub, 1) := by decide +kernel
theorem dL_law_564 : decode cL_law 564 = .ok (.iaload, 1) := by decide +kernel
theorem dL_law_565 : decode cL_law 565 = .ok (.i2l, 1) := by decide +kernel
theorem dL_law_566 : decode cL_law 566 = .ok (.lmul, 1) := by decide +kernel
theorem dL_law_567 : decode cL_law 567 = .ok (.ladd, 1) := by decide +kernel
theorem dL_law_568 : decode cL_law 568 = .ok (.lstore 15, 2) := by decide +kernel
theorem dL_law_570 : decode cL_law 570 = .ok (.iload 17, 2) := by decide +kernel
theorem dL_law_572 : decode cL_law 572 = .ok (.iconst 4, 1) := by decide +kernel
theorem dL_law_573 : decode cL_law 573 = .ok (.irem, 1) := by decide +kernel
theorem dL_law_574 : decode cL_law 574 = .ok (.iload 9, 2) := by decide +kernel
theorem dL_law_576 : decode cL_law 576 = .ok (.if_icmp .ne 87, 3) := by decide +kernel
theorem dL_law_579 : decode cL_law 579 = .ok (.aload_n 1, 1) := by decide +kernel
theorem dL_law_580 : decode cL_law 580 = .ok (.iload 4, 2) := by decide +kernel
theorem dL_law_582 : decode cL_law 582 = .ok (.iload 17, 2) := by decide +kernel
theorem dL_law_584 : decode cL_law 584 = .ok (.iadd, 1) := by decide +kernel
theorem dL_law_585 : decode cL_law 585 = .ok (.iload 4, 2) := by decide +kernel
theorem dL_law_587 : decode cL_law 587 = .ok (.iload 11, 2) := by decide +kernel
theorem dL_law_589 : decode cL_law 589 = .ok (.iadd, 1) := by decide +kernel
theorem dL_law_590 : decode cL_law 590 = .ok (.iload 4, 2) := by decide +kernel
theorem dL_law_592 : decode cL_law 592 = .ok (.iload 12, 2) := by decide +kernel
theorem dL_law_594 : decode cL_law 594 = .ok (.iadd, 1) := by decide +kernel
theorem dL_law_595 : decode cL_law 595 = .ok (.invokevirtual 132, 3) := by decide +kernel
theorem dL_law_598 : decode cL_law 598 = .ok (.iload 20, 2) := by decide +kernel
theorem dL_law_600 : decode cL_law 600 = .ok (.if_icmp .ne 61, 3) := by decide +kernel
theorem dL_law_603 : decode cL_law 603 = .ok (.aload_n 1, 1) := by decide +kernel
theorem dL_law_604 : decode cL_law 604 = .ok (.iload 4, 2) := by decide +kernel
theorem dL_law_606 : decode cL_law 606 = .ok (.iload 12, 2) := by decide +kernel
theorem dL_law_608 : decode cL_law 608 = .ok (.iadd, 1) := by decide +kernel
theorem dL_law_609 : decode cL_law 609 = .ok (.iload 4, 2) := by decide +kernel
theorem dL_law_611 : decode cL_law 611 = .ok (.iload 11, 2) := by decide +kernel
theorem dL_law_613 : decode cL_law 613 = .ok (.iadd, 1) := by decide +kernel
theorem dL_law_614 : decode cL_law 614 = .ok (.iload 4, 2) := by decide +kernel
theorem dL_law_616 : decode cL_law 616 = .ok (.iload 17, 2) := by decide +kernel
theorem dL_law_618 : decode cL_law 618 = .ok (.iadd, 1) := by decide +kernel
theorem dL_law_619 : decode cL_law 619 = .ok (.invokevirtual 132, 3) := by decide +kernel
theorem dL_law_622 : decode cL_law 622 = .ok (.iload 20, 2) := by decide +kernel
theorem dL_law_624 : decode cL_law 624 = .ok (.if_icmp .ne 37, 3) := by decide +kernel
theorem dL_law_627 : decode cL_law 627 = .ok (.aload_n 1, 1) := by decide +kernel
theorem dL_law_628 : decode cL_law 628 = .ok (.aload_n 1, 1) := by decide +kernel
theorem dL_law_629 : decode cL_law 629 = .ok (.iload 4, 2) := by decide +kernel
theorem dL_law_631 : decode cL_law 631 = .ok (.iload 11, 2) := by decide +kernel
theorem dL_law_633 : decode cL_law 633 = .ok (.iadd, 1) := by decide +kernel
theorem dL_law_634 : decode cL_law 634 = .ok (.iconst 2, 1) := by decide +kernel
theorem dL_law_635 : decode cL_law 635 = .ok (.invokevirtual 116, 3) := by decide +kernel
theorem dL_law_638 : decode cL_law 638 = .ok (.iload 4, 2) := by decide +kernel
theorem dL_law_640 : decode cL_law 640 = .ok (.iload 12, 2) := by decide +kernel
theorem dL_law_642 : decode cL_law 642 = .ok (.iadd, 1) := by decide +kernel
theorem dL_law_643 : decode cL_law 643 = .ok (.aload_n 1, 1) := by decide +kernel
theorem dL_law_644 : decode cL_law 644 = .ok (.iload 4, 2) := by decide +kernel
theorem dL_law_646 : decode cL_law 646 = .ok (.iload 17, 2) := by decide +kernel
theorem dL_law_648 : decode cL_law 648 = .ok (.iadd, 1) := by decide +kernel
theorem dL_law_649 : decode cL_law 649 = .ok (.iconst 2, 1) := by decide +kernel
theorem dL_law_650 : decode cL_law 650 = .ok (.invokevirtual 116, 3) := by decide +kernel
theorem dL_law_653 : decode cL_law 653 = .ok (.invokevirtual 132, 3) := by decide +kernel
theorem dL_law_656 : decode cL_law 656 = .ok (.iload 20, 2) := by decide +kernel
theorem dL_law_658 : decode cL_law 658 = .ok (.if_icmp .eq 5, 3) := by decide +kernel
theorem dL_law_661 : decode cL_law 661 = .ok (.iconst 0, 1) := by decide +kernel
theorem dL_law_662 : decode cL_law 662 = .ok (.ireturn, 1) := by decide +kernel
theorem dL_law_663 : decode cL_law 663 = .ok (.iinc 17 1, 3) := by decide +kernel
