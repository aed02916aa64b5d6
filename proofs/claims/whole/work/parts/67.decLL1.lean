theorem d_L_law_375 : decode c_L_law 375 = .ok (.laload, 1) := by decide +kernel
theorem d_L_law_376 : decode c_L_law 376 = .ok (.iload 6, 2) := by decide +kernel
theorem d_L_law_378 : decode c_L_law 378 = .ok (.i2l, 1) := by decide +kernel
theorem d_L_law_379 : decode c_L_law 379 = .ok (.lcmp, 1) := by decide +kernel
theorem d_L_law_380 : decode c_L_law 380 = .ok (.ifCond .eq 5, 3) := by decide +kernel
theorem d_L_law_383 : decode c_L_law 383 = .ok (.iconst 0, 1) := by decide +kernel
theorem d_L_law_384 : decode c_L_law 384 = .ok (.ireturn, 1) := by decide +kernel
theorem d_L_law_385 : decode c_L_law 385 = .ok (.goto 1021, 3) := by decide +kernel
theorem d_L_law_388 : decode c_L_law 388 = .ok (.aload_n 1, 1) := by decide +kernel
theorem d_L_law_389 : decode c_L_law 389 = .ok (.aload_n 0, 1) := by decide +kernel
theorem d_L_law_390 : decode c_L_law 390 = .ok (.iload 4, 2) := by decide +kernel
theorem d_L_law_392 : decode c_L_law 392 = .ok (.iconst 1, 1) := by decide +kernel
theorem d_L_law_393 : decode c_L_law 393 = .ok (.iadd, 1) := by decide +kernel
theorem d_L_law_394 : decode c_L_law 394 = .ok (.iaload, 1) := by decide +kernel
theorem d_L_law_395 : decode c_L_law 395 = .ok (.aload_n 0, 1) := by decide +kernel
theorem d_L_law_396 : decode c_L_law 396 = .ok (.iload 4, 2) := by decide +kernel
theorem d_L_law_398 : decode c_L_law 398 = .ok (.iconst 2, 1) := by decide +kernel
theorem d_L_law_399 : decode c_L_law 399 = .ok (.iadd, 1) := by decide +kernel
theorem d_L_law_400 : decode c_L_law 400 = .ok (.iaload, 1) := by decide +kernel
theorem d_L_law_401 : decode c_L_law 401 = .ok (.aload_n 3, 1) := by decide +kernel
theorem d_L_law_402 : decode c_L_law 402 = .ok (.invokestatic 99, 3) := by decide +kernel
theorem d_L_law_405 : decode c_L_law 405 = .ok (.istore 5, 2) := by decide +kernel
theorem d_L_law_407 : decode c_L_law 407 = .ok (.aload_n 2, 1) := by decide +kernel
theorem d_L_law_408 : decode c_L_law 408 = .ok (.aload_n 0, 1) := by decide +kernel
theorem d_L_law_409 : decode c_L_law 409 = .ok (.iload 4, 2) := by decide +kernel
theorem d_L_law_411 : decode c_L_law 411 = .ok (.iconst 1, 1) := by decide +kernel
theorem d_L_law_412 : decode c_L_law 412 = .ok (.iadd, 1) := by decide +kernel
theorem d_L_law_413 : decode c_L_law 413 = .ok (.iaload, 1) := by decide +kernel
theorem d_L_law_414 : decode c_L_law 414 = .ok (.aload_n 0, 1) := by decide +kernel
theorem d_L_law_415 : decode c_L_law 415 = .ok (.iload 4, 2) := by decide +kernel
theorem d_L_law_417 : decode c_L_law 417 = .ok (.iconst 2, 1) := by decide +kernel
theorem d_L_law_418 : decode c_L_law 418 = .ok (.iadd, 1) := by decide +kernel
theorem d_L_law_419 : decode c_L_law 419 = .ok (.iaload, 1) := by decide +kernel
theorem d_L_law_420 : decode c_L_law 420 = .ok (.invokevirtual 101, 3) := by decide +kernel
theorem d_L_law_423 : decode c_L_law 423 = .ok (.istore 6, 2) := by decide +kernel
theorem d_L_law_425 : decode c_L_law 425 = .ok (.aload_n 2, 1) := by decide +kernel
theorem d_L_law_426 : decode c_L_law 426 = .ok (.invokevirtual 89, 3) := by decide +kernel
theorem d_L_law_429 : decode c_L_law 429 = .ok (.iload 5, 2) := by decide +kernel
theorem d_L_law_431 : decode c_L_law 431 = .ok (.if_icmp .eq 5, 3) := by decide +kernel
theorem d_L_law_434 : decode c_L_law 434 = .ok (.iconst 0, 1) := by decide +kernel
theorem d_L_law_435 : decode c_L_law 435 = .ok (.ireturn, 1) := by decide +kernel
theorem d_L_law_436 : decode c_L_law 436 = .ok (.iload 5, 2) := by decide +kernel
theorem d_L_law_438 : decode c_L_law 438 = .ok (.ifCond .ne 15, 3) := by decide +kernel
theorem d_L_law_441 : decode c_L_law 441 = .ok (.aload_n 3, 1) := by decide +kernel
theorem d_L_law_442 : decode c_L_law 442 = .ok (.iconst 0, 1) := by decide +kernel
theorem d_L_law_443 : decode c_L_law 443 = .ok (.laload, 1) := by decide +kernel
theorem d_L_law_444 : decode c_L_law 444 = .ok (.iload 6, 2) := by decide +kernel
theorem d_L_law_446 : decode c_L_law 446 = .ok (.i2l, 1) := by decide +kernel
theorem d_L_law_447 : decode c_L_law 447 = .ok (.lcmp, 1) := by decide +kernel
theorem d_L_law_448 : decode c_L_law 448 = .ok (.ifCond .eq 5, 3) := by decide +kernel
theorem d_L_law_451 : decode c_L_law 451 = .ok (.iconst 0, 1) := by decide +kernel
theorem d_L_law_452 : decode c_L_law 452 = .ok (.ireturn, 1) := by decide +kernel
theorem d_L_law_453 : decode c_L_law 453 = .ok (.goto 953, 3) := by decide +kernel
theorem d_L_law_456 : decode c_L_law 456 = .ok (.aload_n 1, 1) := by decide +kernel
theorem d_L_law_457 : decode c_L_law 457 = .ok (.aload_n 0, 1) := by decide +kernel
theorem d_L_law_458 : decode c_L_law 458 = .ok (.iload 4, 2) := by decide +kernel
theorem d_L_law_460 : decode c_L_law 460 = .ok (.iconst 1, 1) := by decide +kernel
theorem d_L_law_461 : decode c_L_law 461 = .ok (.iadd, 1) := by decide +kernel
theorem d_L_law_462 : decode c_L_law 462 = .ok (.iaload, 1) := by decide +kernel
theorem d_L_law_463 : decode c_L_law 463 = .ok (.aload_n 0, 1) := by decide +kernel
theorem d_L_law_464 : decode c_L_law 464 = .ok (.iload 4, 2) := by decide +kernel
theorem d_L_law_466 : decode c_L_law 466 = .ok (.iconst 2, 1) := by decide +kernel
theorem d_L_law_467 : decode c_L_law 467 = .ok (.iadd, 1) := by decide +kernel
theorem d_L_law_468 : decode c_L_law 468 = .ok (.iaload, 1) := by decide +kernel
theorem d_L_law_469 : decode c_L_law 469 = .ok (.aload_n 3, 1) := by decide +kernel
theorem d_L_law_470 : decode c_L_law 470 = .ok (.invokestatic 102, 3) := by decide +kernel
theorem d_L_law_473 : decode c_L_law 473 = .ok (.istore 5, 2) := by decide +kernel
theorem d_L_law_475 : decode c_L_law 475 = .ok (.aload_n 2, 1) := by decide +kernel
theorem d_L_law_476 : decode c_L_law 476 = .ok (.aload_n 0, 1) := by decide +kernel
theorem d_L_law_477 : decode c_L_law 477 = .ok (.iload 4, 2) := by decide +kernel
theorem d_L_law_479 : decode c_L_law 479 = .ok (.iconst 1, 1) := by decide +kernel
theorem d_L_law_480 : decode c_L_law 480 = .ok (.iadd, 1) := by decide +kernel
theorem d_L_law_481 : decode c_L_law 481 = .ok (.iaload, 1) := by decide +kernel
theorem d_L_law_482 : decode c_L_law 482 = .ok (.aload_n 0, 1) := by decide +kernel
theorem d_L_law_483 : decode c_L_law 483 = .ok (.iload 4, 2) := by decide +kernel
theorem d_L_law_485 : decode c_L_law 485 = .ok (.iconst 2, 1) := by decide +kernel
theorem d_L_law_486 : decode c_L_law 486 = .ok (.iadd, 1) := by decide +kernel
theorem d_L_law_487 : decode c_L_law 487 = .ok (.iaload, 1) := by decide +kernel
theorem d_L_law_488 : decode c_L_law 488 = .ok (.invokevirtual 104, 3) := by decide +kernel
theorem d_L_law_491 : decode c_L_law 491 = .ok (.istore 6, 2) := by decide +kernel
theorem d_L_law_493 : decode c_L_law 493 = .ok (.aload_n 2, 1) := by decide +kernel
theorem d_L_law_494 : decode c_L_law 494 = .ok (.invokevirtual 89, 3) := by decide +kernel
theorem d_L_law_497 : decode c_L_law 497 = .ok (.iload 5, 2) := by decide +kernel
theorem d_L_law_499 : decode c_L_law 499 = .ok (.if_icmp .eq 5, 3) := by decide +kernel
theorem d_L_law_502 : decode c_L_law 502 = .ok (.iconst 0, 1) := by decide +kernel
theorem d_L_law_503 : decode c_L_law 503 = .ok (.ireturn, 1) := by decide +kernel
theorem d_L_law_504 : decode c_L_law 504 = .ok (.iload 5, 2) := by decide +kernel
theorem d_L_law_506 : decode c_L_law 506 = .ok (.ifCond .ne 15, 3) := by decide +kernel
theorem d_L_law_509 : decode c_L_law 509 = .ok (.aload_n 3, 1) := by decide +kernel
theorem d_L_law_510 : decode c_L_law 510 = .ok (.iconst 0, 1) := by decide +kernel
theorem d_L_law_511 : decode c_L_law 511 = .ok (.laload, 1) := by decide +kernel
theorem d_L_law_512 : decode c_L_law 512 = .ok (.iload 6, 2) := by decide +kernel
theorem d_L_law_514 : decode c_L_law 514 = .ok (.i2l, 1) := by decide +kernel
theorem d_L_law_515 : decode c_L_law 515 = .ok (.lcmp, 1) := by decide +kernel
theorem d_L_law_516 : decode c_L_law 516 = .ok (.ifCond .eq 5, 3) := by decide +kernel
theorem d_L_law_519 : decode c_L_law 519 = .ok (.iconst 0, 1) := by decide +kernel
theorem d_L_law_520 : decode c_L_law 520 = .ok (.ireturn, 1) := by decide +kernel
theorem d_L_law_521 : decode c_L_law 521 = .ok (.goto 885, 3) := by decide +kernel
theorem d_L_law_524 : decode c_L_law 524 = .ok (.aload_n 1, 1) := by decide +kernel
theorem d_L_law_525 : decode c_L_law 525 = .ok (.aload_n 0, 1) := by decide +kernel
theorem d_L_law_526 : decode c_L_law 526 = .ok (.iload 4, 2) := by decide +kernel
theorem d_L_law_528 : decode c_L_law 528 = .ok (.iconst 1, 1) := by decide +kernel
theorem d_L_law_529 : decode c_L_law 529 = .ok (.iadd, 1) := by decide +kernel
theorem d_L_law_530 : decode c_L_law 530 = .ok (.iaload, 1) := by decide +kernel
theorem d_L_law_531 : decode c_L_law 531 = .ok (.aload_n 0, 1) := by decide +kernel
theorem d_L_law_532 : decode c_L_law 532 = .ok (.iload 4, 2) := by decide +kernel
theorem d_L_law_534 : decode c_L_law 534 = .ok (.iconst 2, 1) := by decide +kernel
theorem d_L_law_535 : decode c_L_law 535 = .ok (.iadd, 1) := by decide +kernel
theorem d_L_law_536 : decode c_L_law 536 = .ok (.iaload, 1) := by decide +kernel
theorem d_L_law_537 : decode c_L_law 537 = .ok (.aload_n 3, 1) := by decide +kernel
theorem d_L_law_538 : decode c_L_law 538 = .ok (.invokestatic 105, 3) := by decide +kernel
theorem d_L_law_541 : decode c_L_law 541 = .ok (.istore 5, 2) := by decide +kernel
theorem d_L_law_543 : decode c_L_law 543 = .ok (.aload_n 2, 1) := by decide +kernel
theorem d_L_law_544 : decode c_L_law 544 = .ok (.aload_n 0, 1) := by decide +kernel
theorem d_L_law_545 : decode c_L_law 545 = .ok (.iload 4, 2) := by decide +kernel
theorem d_L_law_547 : decode c_L_law 547 = .ok (.iconst 1, 1) := by decide +kernel
theorem d_L_law_548 : decode c_L_law 548 = .ok (.iadd, 1) := by decide +kernel
theorem d_L_law_549 : decode c_L_law 549 = .ok (.iaload, 1) := by decide +kernel
theorem d_L_law_550 : decode c_L_law 550 = .ok (.aload_n 0, 1) := by decide +kernel
theorem d_L_law_551 : decode c_L_law 551 = .ok (.iload 4, 2) := by decide +kernel
theorem d_L_law_553 : decode c_L_law 553 = .ok (.iconst 2, 1) := by decide +kernel
theorem d_L_law_554 : decode c_L_law 554 = .ok (.iadd, 1) := by decide +kernel
theorem d_L_law_555 : decode c_L_law 555 = .ok (.iaload, 1) := by decide +kernel
theorem d_L_law_556 : decode c_L_law 556 = .ok (.invokevirtual 107, 3) := by decide +kernel
theorem d_L_law_559 : decode c_L_law 559 = .ok (.istore 6, 2) := by decide +kernel
theorem d_L_law_561 : decode c_L_law 561 = .ok (.aload_n 2, 1) := by decide +kernel
theorem d_L_law_562 : decode c_L_law 562 = .ok (.invokevirtual 89, 3) := by decide +kernel
theorem d_L_law_565 : decode c_L_law 565 = .ok (.iload 5, 2) := by decide +kernel
theorem d_L_law_567 : decode c_L_law 567 = .ok (.if_icmp .eq 5, 3) := by decide +kernel
theorem d_L_law_570 : decode c_L_law 570 = .ok (.iconst 0, 1) := by decide +kernel
theorem d_L_law_571 : decode c_L_law 571 = .ok (.ireturn, 1) := by decide +kernel
theorem d_L_law_572 : decode c_L_law 572 = .ok (.iload 5, 2) := by decide +kernel
theorem d_L_law_574 : decode c_L_law 574 = .ok (.ifCond .ne 15, 3) := by decide +kernel
theorem d_L_law_577 : decode c_L_law 577 = .ok (.aload_n 3, 1) := by decide +kernel
theorem d_L_law_578 : decode c_L_law 578 = .ok (.iconst 0, 1) := by decide +kernel
theorem d_L_law_579 : decode c_L_law 579 = .ok (.laload, 1) := by decide +kernel
theorem d_L_law_580 : decode c_L_law 580 = .ok (.iload 6, 2) := by decide +kernel
theorem d_L_law_582 : decode c_L_law 582 = .ok (.i2l, 1) := by decide +kernel
theorem d_L_law_583 : decode c_L_law 583 = .ok (.lcmp, 1) := by decide +kernel
theorem d_L_law_584 : decode c_L_law 584 = .ok (.ifCond .eq 5, 3) := by decide +kernel
theorem d_L_law_587 : decode c_L_law 587 = .ok (.iconst 0, 1) := by decide +kernel
theorem d_L_law_588 : decode c_L_law 588 = .ok (.ireturn, 1) := by decide +kernel
theorem d_L_law_589 : decode c_L_law 589 = .ok (.goto 817, 3) := by decide +kernel
theorem d_L_law_592 : decode c_L_law 592 = .ok (.aload_n 1, 1) := by decide +kernel
theorem d_L_law_593 : decode c_L_law 593 = .ok (.aload_n 0, 1) := by decide +kernel
theorem d_L_law_594 : decode c_L_law 594 = .ok (.iload 4, 2) := by decide +kernel
theorem d_L_law_596 : decode c_L_law 596 = .ok (.iconst 1, 1) := by decide +kernel
theorem d_L_law_597 : decode c_L_law 597 = .ok (.iadd, 1) := by decide +kernel
theorem d_L_law_598 : decode c_L_law 598 = .ok (.iaload, 1) := by decide +kernel
theorem d_L_law_599 : decode c_L_law 599 = .ok (.aload_n 0, 1) := by decide +kernel
theorem d_L_law_600 : decode c_L_law 600 = .ok (.iload 4, 2) := by decide +kernel
theorem d_L_law_602 : decode c_L_law 602 = .ok (.iconst 2, 1) := by decide +kernel
theorem d_L_law_603 : decode c_L_law 603 = .ok (.iadd, 1) := by decide +kernel
theorem d_L_law_604 : decode c_L_law 604 = .ok (.iaload, 1) := by decide +kernel
theorem d_L_law_605 : decode c_L_law 605 = .ok (.aload_n 0, 1) := by decide +kernel
theorem d_L_law_606 : decode c_L_law 606 = .ok (.iload 4, 2) := by decide +kernel
theorem d_L_law_608 : decode c_L_law 608 = .ok (.iconst 3, 1) := by decide +kernel
theorem d_L_law_609 : decode c_L_law 609 = .ok (.iadd, 1) := by decide +kernel
theorem d_L_law_610 : decode c_L_law 610 = .ok (.iaload, 1) := by decide +kernel
theorem d_L_law_611 : decode c_L_law 611 = .ok (.i2l, 1) := by decide +kernel
theorem d_L_law_612 : decode c_L_law 612 = .ok (.bipush 32, 2) := by decide +kernel
theorem d_L_law_614 : decode c_L_law 614 = .ok (.lshl, 1) := by decide +kernel
theorem d_L_law_615 : decode c_L_law 615 = .ok (.aload_n 0, 1) := by decide +kernel
theorem d_L_law_616 : decode c_L_law 616 = .ok (.iload 4, 2) := by decide +kernel
theorem d_L_law_618 : decode c_L_law 618 = .ok (.iconst 4, 1) := by decide +kernel
theorem d_L_law_619 : decode c_L_law 619 = .ok (.iadd, 1) := by decide +kernel
theorem d_L_law_620 : decode c_L_law 620 = .ok (.iaload, 1) := by decide +kernel
theorem d_L_law_621 : decode c_L_law 621 = .ok (.i2l, 1) := by decide +kernel
theorem d_L_law_622 : decode c_L_law 622 = .ok (.ldc2_w 81, 3) := by decide +kernel
theorem d_L_law_625 : decode c_L_law 625 = .ok (.land, 1) := by decide +kernel
theorem d_L_law_626 : decode c_L_law 626 = .ok (.lor, 1) := by decide +kernel
theorem d_L_law_627 : decode c_L_law 627 = .ok (.aload_n 3, 1) := by decide +kernel
theorem d_L_law_628 : decode c_L_law 628 = .ok (.invokestatic 108, 3) := by decide +kernel
theorem d_L_law_631 : decode c_L_law 631 = .ok (.istore 5, 2) := by decide +kernel
theorem d_L_law_633 : decode c_L_law 633 = .ok (.aload_n 2, 1) := by decide +kernel
theorem d_L_law_634 : decode c_L_law 634 = .ok (.aload_n 0, 1) := by decide +kernel
theorem d_L_law_635 : decode c_L_law 635 = .ok (.iload 4, 2) := by decide +kernel
theorem d_L_law_637 : decode c_L_law 637 = .ok (.iconst 1, 1) := by decide +kernel
theorem d_L_law_638 : decode c_L_law 638 = .ok (.iadd, 1) := by decide +kernel
theorem d_L_law_639 : decode c_L_law 639 = .ok (.iaload, 1) := by decide +kernel
theorem d_L_law_640 : decode c_L_law 640 = .ok (.aload_n 0, 1) := by decide +kernel
theorem d_L_law_641 : decode c_L_law 641 = .ok (.iload 4, 2) := by decide +kernel
theorem d_L_law_643 : decode c_L_law 643 = .ok (.iconst 2, 1) := by decide +kernel
theorem d_L_law_644 : decode c_L_law 644 = .ok (.iadd, 1) := by decide +kernel
theorem d_L_law_645 : decode c_L_law 645 = .ok (.iaload, 1) := by decide +kernel
theorem d_L_law_646 : decode c_L_law 646 = .ok (.aload_n 0, 1) := by decide +kernel
theorem d_L_law_647 : decode c_L_law 647 = .ok (.iload 4, 2) := by decide +kernel
theorem d_L_law_649 : decode c_L_law 649 = .ok (.iconst 3, 1) := by decide +kernel
theorem d_L_law_650 : decode c_L_law 650 = .ok (.iadd, 1) := by decide +kernel
theorem d_L_law_651 : decode c_L_law 651 = .ok (.iaload, 1) := by decide +kernel
theorem d_L_law_652 : decode c_L_law 652 = .ok (.i2l, 1) := by decide +kernel
theorem d_L_law_653 : decode c_L_law 653 = .ok (.bipush 32, 2) := by decide +kernel
theorem d_L_law_655 : decode c_L_law 655 = .ok (.lshl, 1) := by decide +kernel
theorem d_L_law_656 : decode c_L_law 656 = .ok (.aload_n 0, 1) := by decide +kernel
theorem d_L_law_657 : decode c_L_law 657 = .ok (.iload 4, 2) := by decide +kernel
theorem d_L_law_659 : decode c_L_law 659 = .ok (.iconst 4, 1) := by decide +kernel
theorem d_L_law_660 : decode c_L_law 660 = .ok (.iadd, 1) := by decide +kernel
theorem d_L_law_661 : decode c_L_law 661 = .ok (.iaload, 1) := by decide +kernel
theorem d_L_law_662 : decode c_L_law 662 = .ok (.i2l, 1) := by decide +kernel
theorem d_L_law_663 : decode c_L_law 663 = .ok (.ldc2_w 81, 3) := by decide +kernel
