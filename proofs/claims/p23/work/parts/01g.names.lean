theorem dL_same_302 : decode cL_same 302 = .ok (.if_icmp .ge 8, 3) := by decide +kernel
theorem dL_same_305 : decode cL_same 305 = .ok (.ldc 42, 2) := by decide +kernel
theorem dL_same_307 : decode cL_same 307 = .ok (.goto 30, 3) := by decide +kernel
theorem dL_same_310 : decode cL_same 310 = .ok (.aload 7, 2) := by decide +kernel
theorem dL_same_312 : decode cL_same 312 = .ok (.iconst 2, 1) := by decide +kernel
theorem dL_same_313 : decode cL_same 313 = .ok (.iaload, 1) := by decide +kernel
theorem dL_same_314 : decode cL_same 314 = .ok (.aload 7, 2) := by decide +kernel
theorem dL_same_316 : decode cL_same 316 = .ok (.bipush 8, 2) := by decide +kernel
theorem dL_same_318 : decode cL_same 318 = .ok (.iaload, 1) := by decide +kernel
theorem dL_same_319 : decode cL_same 319 = .ok (.ifCond .ne 8, 3) := by decide +kernel
theorem dL_same_322 : decode cL_same 322 = .ok (.aload 5, 2) := by decide +kernel
theorem dL_same_324 : decode cL_same 324 = .ok (.goto 5, 3) := by decide +kernel
theorem dL_same_327 : decode cL_same 327 = .ok (.aload 6, 2) := by decide +kernel
theorem dL_same_329 : decode cL_same 329 = .ok (.invokestatic 20, 3) := by decide +kernel
theorem dL_same_332 : decode cL_same 332 = .ok (.iload 19, 2) := by decide +kernel
theorem dL_same_334 : decode cL_same 334 = .ok (.invokestatic 12, 3) := by decide +kernel
theorem dL_same_337 : decode cL_same 337 = .ok (.if_icmp .eq 5, 3) := by decide +kernel
theorem dL_same_340 : decode cL_same 340 = .ok (.iconst 0, 1) := by decide +kernel
theorem dL_same_341 : decode cL_same 341 = .ok (.ireturn, 1) := by decide +kernel
theorem dL_same_342 : decode cL_same 342 = .ok (.iinc 19 1, 3) := by decide +kernel
theorem dL_same_345 : decode cL_same 345 = .ok (.goto (-62), 3) := by decide +kernel
theorem dL_same_348 : decode cL_same 348 = .ok (.iconst 0, 1) := by decide +kernel
theorem dL_same_349 : decode cL_same 349 = .ok (.istore 19, 2) := by decide +kernel
theorem dL_same_351 : decode cL_same 351 = .ok (.iload 19, 2) := by decide +kernel
theorem dL_same_353 : decode cL_same 353 = .ok (.iconst 3, 1) := by decide +kernel
theorem dL_same_354 : decode cL_same 354 = .ok (.if_icmp .ge 108, 3) := by decide +kernel
theorem dL_same_357 : decode cL_same 357 = .ok (.aload_n 0, 1) := by decide +kernel
theorem dL_same_358 : decode cL_same 358 = .ok (.iload 11, 2) := by decide +kernel
theorem dL_same_360 : decode cL_same 360 = .ok (.iload 15, 2) := by decide +kernel
theorem dL_same_362 : decode cL_same 362 = .ok (.iload 19, 2) := by decide +kernel
theorem dL_same_364 : decode cL_same 364 = .ok (.invokevirtual 71, 3) := by decide +kernel
theorem dL_same_367 : decode cL_same 367 = .ok (.iload 19, 2) := by decide +kernel
theorem dL_same_369 : decode cL_same 369 = .ok (.iload 16, 2) := by decide +kernel
theorem dL_same_371 : decode cL_same 371 = .ok (.if_icmp .le 8, 3) := by decide +kernel
theorem dL_same_374 : decode cL_same 374 = .ok (.ldc 32, 2) := by decide +kernel
theorem dL_same_376 : decode cL_same 376 = .ok (.goto 11, 3) := by decide +kernel
theorem dL_same_379 : decode cL_same 379 = .ok (.aload 7, 2) := by decide +kernel
theorem dL_same_381 : decode cL_same 381 = .ok (.bipush 6, 2) := by decide +kernel
theorem dL_same_383 : decode cL_same 383 = .ok (.iload 19, 2) := by decide +kernel
theorem dL_same_385 : decode cL_same 385 = .ok (.iadd, 1) := by decide +kernel
theorem dL_same_386 : decode cL_same 386 = .ok (.iaload, 1) := by decide +kernel
theorem dL_same_387 : decode cL_same 387 = .ok (.if_icmp .ne 67, 3) := by decide +kernel
theorem dL_same_390 : decode cL_same 390 = .ok (.aload_n 0, 1) := by decide +kernel
theorem dL_same_391 : decode cL_same 391 = .ok (.iload 11, 2) := by decide +kernel
theorem dL_same_393 : decode cL_same 393 = .ok (.iload 15, 2) := by decide +kernel
theorem dL_same_395 : decode cL_same 395 = .ok (.iload 19, 2) := by decide +kernel
theorem dL_same_397 : decode cL_same 397 = .ok (.iconst 0, 1) := by decide +kernel
theorem dL_same_398 : decode cL_same 398 = .ok (.invokevirtual 73, 3) := by decide +kernel
theorem dL_same_401 : decode cL_same 401 = .ok (.iload 19, 2) := by decide +kernel
theorem dL_same_403 : decode cL_same 403 = .ok (.iload 16, 2) := by decide +kernel
theorem dL_same_405 : decode cL_same 405 = .ok (.if_icmp .le 8, 3) := by decide +kernel
theorem dL_same_408 : decode cL_same 408 = .ok (.ldc 32, 2) := by decide +kernel
theorem dL_same_410 : decode cL_same 410 = .ok (.goto 8, 3) := by decide +kernel
theorem dL_same_413 : decode cL_same 413 = .ok (.aload 7, 2) := by decide +kernel
theorem dL_same_415 : decode cL_same 415 = .ok (.iload 19, 2) := by decide +kernel
theorem dL_same_417 : decode cL_same 417 = .ok (.iaload, 1) := by decide +kernel
theorem dL_same_418 : decode cL_same 418 = .ok (.if_icmp .ne 36, 3) := by decide +kernel
theorem dL_same_421 : decode cL_same 421 = .ok (.aload_n 0, 1) := by decide +kernel
theorem dL_same_422 : decode cL_same 422 = .ok (.iload 11, 2) := by decide +kernel
theorem dL_same_424 : decode cL_same 424 = .ok (.iload 15, 2) := by decide +kernel
theorem dL_same_426 : decode cL_same 426 = .ok (.iload 19, 2) := by decide +kernel
theorem dL_same_428 : decode cL_same 428 = .ok (.iconst 1, 1) := by decide +kernel
theorem dL_same_429 : decode cL_same 429 = .ok (.invokevirtual 73, 3) := by decide +kernel
theorem dL_same_432 : decode cL_same 432 = .ok (.iload 19, 2) := by decide +kernel
theorem dL_same_434 : decode cL_same 434 = .ok (.iload 16, 2) := by decide +kernel
theorem dL_same_436 : decode cL_same 436 = .ok (.if_icmp .le 8, 3) := by decide +kernel
theorem dL_same_439 : decode cL_same 439 = .ok (.ldc 32, 2) := by decide +kernel
theorem dL_same_441 : decode cL_same 441 = .ok (.goto 10, 3) := by decide +kernel
theorem dL_same_444 : decode cL_same 444 = .ok (.aload 7, 2) := by decide +kernel
theorem dL_same_446 : decode cL_same 446 = .ok (.iconst 3, 1) := by decide +kernel
theorem dL_same_447 : decode cL_same 447 = .ok (.iload 19, 2) := by decide +kernel
theorem dL_same_449 : decode cL_same 449 = .ok (.iadd, 1) := by decide +kernel
theorem dL_same_450 : decode cL_same 450 = .ok (.iaload, 1) := by decide +kernel
theorem dL_same_451 : decode cL_same 451 = .ok (.if_icmp .eq 5, 3) := by decide +kernel
theorem dL_same_454 : decode cL_same 454 = .ok (.iconst 0, 1) := by decide +kernel
theorem dL_same_455 : decode cL_same 455 = .ok (.ireturn, 1) := by decide +kernel
theorem dL_same_456 : decode cL_same 456 = .ok (.iinc 19 1, 3) := by decide +kernel
theorem dL_same_459 : decode cL_same 459 = .ok (.goto (-108), 3) := by decide +kernel
theorem dL_same_462 : decode cL_same 462 = .ok (.iinc 15 1, 3) := by decide +kernel
theorem dL_same_465 : decode cL_same 465 = .ok (.goto (-385), 3) := by decide +kernel
theorem dL_same_468 : decode cL_same 468 = .ok (.aload_n 0, 1) := by decide +kernel
theorem dL_same_469 : decode cL_same 469 = .ok (.iload 11, 2) := by decide +kernel
theorem dL_same_471 : decode cL_same 471 = .ok (.iconst 0, 1) := by decide +kernel
theorem dL_same_472 : decode cL_same 472 = .ok (.invokevirtual 76, 3) := by decide +kernel
theorem dL_same_475 : decode cL_same 475 = .ok (.iload 12, 2) := by decide +kernel
theorem dL_same_477 : decode cL_same 477 = .ok (.if_icmp .ne 27, 3) := by decide +kernel
theorem dL_same_480 : decode cL_same 480 = .ok (.aload_n 0, 1) := by decide +kernel
theorem dL_same_481 : decode cL_same 481 = .ok (.iload 11, 2) := by decide +kernel
theorem dL_same_483 : decode cL_same 483 = .ok (.iconst 1, 1) := by decide +kernel
theorem dL_same_484 : decode cL_same 484 = .ok (.invokevirtual 76, 3) := by decide +kernel
theorem dL_same_487 : decode cL_same 487 = .ok (.iload 13, 2) := by decide +kernel
theorem dL_same_489 : decode cL_same 489 = .ok (.if_icmp .ne 15, 3) := by decide +kernel
theorem dL_same_492 : decode cL_same 492 = .ok (.aload_n 0, 1) := by decide +kernel
theorem dL_same_493 : decode cL_same 493 = .ok (.iload 11, 2) := by decide +kernel
theorem dL_same_495 : decode cL_same 495 = .ok (.iconst 2, 1) := by decide +kernel
theorem dL_same_496 : decode cL_same 496 = .ok (.invokevirtual 76, 3) := by decide +kernel
theorem dL_same_499 : decode cL_same 499 = .ok (.iload 14, 2) := by decide +kernel
theorem dL_same_501 : decode cL_same 501 = .ok (.if_icmp .eq 5, 3) := by decide +kernel
theorem dL_same_504 : decode cL_same 504 = .ok (.iconst 0, 1) := by decide +kernel
theorem dL_same_505 : decode cL_same 505 = .ok (.ireturn, 1) := by decide +kernel
theorem dL_same_506 : decode cL_same 506 = .ok (.lconst 0, 1) := by decide +kernel
theorem dL_same_507 : decode cL_same 507 = .ok (.lstore 15, 2) := by decide +kernel
theorem dL_same_509 : decode cL_same 509 = .ok (.lconst 0, 1) := by decide +kernel
theorem dL_same_510 : decode cL_same 510 = .ok (.lstore 17, 2) := by decide +kernel
theorem dL_same_512 : decode cL_same 512 = .ok (.iconst 0, 1) := by decide +kernel
theorem dL_same_513 : decode cL_same 513 = .ok (.istore 19, 2) := by decide +kernel
theorem dL_same_515 : decode cL_same 515 = .ok (.iload 19, 2) := by decide +kernel
theorem dL_same_517 : decode cL_same 517 = .ok (.aload_n 2, 1) := by decide +kernel
theorem dL_same_518 : decode cL_same 518 = .ok (.iconst 0, 1) := by decide +kernel
theorem dL_same_519 : decode cL_same 519 = .ok (.iaload, 1) := by decide +kernel
theorem dL_same_520 : decode cL_same 520 = .ok (.if_icmp .ge 74, 3) := by decide +kernel
theorem dL_same_523 : decode cL_same 523 = .ok (.iload 19, 2) := by decide +kernel
theorem dL_same_525 : decode cL_same 525 = .ok (.iload 11, 2) := by decide +kernel
theorem dL_same_527 : decode cL_same 527 = .ok (.if_icmp .ne 6, 3) := by decide +kernel
theorem dL_same_530 : decode cL_same 530 = .ok (.goto 58, 3) := by decide +kernel
theorem dL_same_533 : decode cL_same 533 = .ok (.iload 19, 2) := by decide +kernel
theorem dL_same_535 : decode cL_same 535 = .ok (.aload_n 3, 1) := by decide +kernel
theorem dL_same_536 : decode cL_same 536 = .ok (.aload 5, 2) := by decide +kernel
theorem dL_same_538 : decode cL_same 538 = .ok (.aload 6, 2) := by decide +kernel
theorem dL_same_540 : decode cL_same 540 = .ok (.aload 8, 2) := by decide +kernel
theorem dL_same_542 : decode cL_same 542 = .ok (.invokestatic 54, 3) := by decide +kernel
theorem dL_same_545 : decode cL_same 545 = .ok (.lload 15, 2) := by decide +kernel
theorem dL_same_547 : decode cL_same 547 = .ok (.aload 8, 2) := by decide +kernel
theorem dL_same_549 : decode cL_same 549 = .ok (.iconst 0, 1) := by decide +kernel
theorem dL_same_550 : decode cL_same 550 = .ok (.laload, 1) := by decide +kernel
theorem dL_same_551 : decode cL_same 551 = .ok (.lor, 1) := by decide +kernel
theorem dL_same_552 : decode cL_same 552 = .ok (.lstore 15, 2) := by decide +kernel
theorem dL_same_554 : decode cL_same 554 = .ok (.lload 17, 2) := by decide +kernel
theorem dL_same_556 : decode cL_same 556 = .ok (.aload 8, 2) := by decide +kernel
theorem dL_same_558 : decode cL_same 558 = .ok (.iconst 1, 1) := by decide +kernel
theorem dL_same_559 : decode cL_same 559 = .ok (.laload, 1) := by decide +kernel
theorem dL_same_560 : decode cL_same 560 = .ok (.lor, 1) := by decide +kernel
theorem dL_same_561 : decode cL_same 561 = .ok (.lstore 17, 2) := by decide +kernel
theorem dL_same_563 : decode cL_same 563 = .ok (.aload_n 0, 1) := by decide +kernel
theorem dL_same_564 : decode cL_same 564 = .ok (.iload 11, 2) := by decide +kernel
theorem dL_same_566 : decode cL_same 566 = .ok (.iload 19, 2) := by decide +kernel
theorem dL_same_568 : decode cL_same 568 = .ok (.invokevirtual 79, 3) := by decide +kernel
theorem dL_same_571 : decode cL_same 571 = .ok (.iload 11, 2) := by decide +kernel
theorem dL_same_573 : decode cL_same 573 = .ok (.iload 19, 2) := by decide +kernel
theorem dL_same_575 : decode cL_same 575 = .ok (.aload_n 3, 1) := by decide +kernel
theorem dL_same_576 : decode cL_same 576 = .ok (.aload 5, 2) := by decide +kernel
theorem dL_same_578 : decode cL_same 578 = .ok (.aload 6, 2) := by decide +kernel
theorem dL_same_580 : decode cL_same 580 = .ok (.invokestatic 82, 3) := by decide +kernel
theorem dL_same_583 : decode cL_same 583 = .ok (.if_icmp .eq 5, 3) := by decide +kernel
theorem dL_same_586 : decode cL_same 586 = .ok (.iconst 0, 1) := by decide +kernel
theorem dL_same_587 : decode cL_same 587 = .ok (.ireturn, 1) := by decide +kernel
theorem dL_same_588 : decode cL_same 588 = .ok (.iinc 19 1, 3) := by decide +kernel
theorem dL_same_591 : decode cL_same 591 = .ok (.goto (-76), 3) := by decide +kernel
theorem dL_same_594 : decode cL_same 594 = .ok (.iload 11, 2) := by decide +kernel
theorem dL_same_596 : decode cL_same 596 = .ok (.aload_n 3, 1) := by decide +kernel
theorem dL_same_597 : decode cL_same 597 = .ok (.aload 5, 2) := by decide +kernel
theorem dL_same_599 : decode cL_same 599 = .ok (.aload 6, 2) := by decide +kernel
theorem dL_same_601 : decode cL_same 601 = .ok (.aload 8, 2) := by decide +kernel
theorem dL_same_603 : decode cL_same 603 = .ok (.invokestatic 54, 3) := by decide +kernel
theorem dL_same_606 : decode cL_same 606 = .ok (.aload 9, 2) := by decide +kernel
theorem dL_same_608 : decode cL_same 608 = .ok (.iconst 0, 1) := by decide +kernel
theorem dL_same_609 : decode cL_same 609 = .ok (.aload 8, 2) := by decide +kernel
theorem dL_same_611 : decode cL_same 611 = .ok (.iconst 0, 1) := by decide +kernel
theorem dL_same_612 : decode cL_same 612 = .ok (.laload, 1) := by decide +kernel
theorem dL_same_613 : decode cL_same 613 = .ok (.lload 15, 2) := by decide +kernel
theorem dL_same_615 : decode cL_same 615 = .ok (.ldc2_w 18, 3) := by decide +kernel
theorem dL_same_618 : decode cL_same 618 = .ok (.lxor, 1) := by decide +kernel
theorem dL_same_619 : decode cL_same 619 = .ok (.land, 1) := by decide +kernel
theorem dL_same_620 : decode cL_same 620 = .ok (.lastore, 1) := by decide +kernel
theorem dL_same_621 : decode cL_same 621 = .ok (.aload 9, 2) := by decide +kernel
theorem dL_same_623 : decode cL_same 623 = .ok (.iconst 1, 1) := by decide +kernel
theorem dL_same_624 : decode cL_same 624 = .ok (.aload 8, 2) := by decide +kernel
theorem dL_same_626 : decode cL_same 626 = .ok (.iconst 1, 1) := by decide +kernel
theorem dL_same_627 : decode cL_same 627 = .ok (.laload, 1) := by decide +kernel
theorem dL_same_628 : decode cL_same 628 = .ok (.lload 17, 2) := by decide +kernel
theorem dL_same_630 : decode cL_same 630 = .ok (.ldc2_w 18, 3) := by decide +kernel
theorem dL_same_633 : decode cL_same 633 = .ok (.lxor, 1) := by decide +kernel
theorem dL_same_634 : decode cL_same 634 = .ok (.land, 1) := by decide +kernel
theorem dL_same_635 : decode cL_same 635 = .ok (.lastore, 1) := by decide +kernel
theorem dL_same_636 : decode cL_same 636 = .ok (.iconst 0, 1) := by decide +kernel
theorem dL_same_637 : decode cL_same 637 = .ok (.istore 19, 2) := by decide +kernel
theorem dL_same_639 : decode cL_same 639 = .ok (.iload 19, 2) := by decide +kernel
theorem dL_same_641 : decode cL_same 641 = .ok (.iconst 3, 1) := by decide +kernel
theorem dL_same_642 : decode cL_same 642 = .ok (.if_icmp .ge 31, 3) := by decide +kernel
theorem dL_same_645 : decode cL_same 645 = .ok (.aload_n 0, 1) := by decide +kernel
theorem dL_same_646 : decode cL_same 646 = .ok (.iload 11, 2) := by decide +kernel
theorem dL_same_648 : decode cL_same 648 = .ok (.iload 19, 2) := by decide +kernel
theorem dL_same_650 : decode cL_same 650 = .ok (.invokevirtual 85, 3) := by decide +kernel
theorem dL_same_653 : decode cL_same 653 = .ok (.aload_n 3, 1) := by decide +kernel
theorem dL_same_654 : decode cL_same 654 = .ok (.iconst 3, 1) := by decide +kernel
theorem dL_same_655 : decode cL_same 655 = .ok (.iload 11, 2) := by decide +kernel
theorem dL_same_657 : decode cL_same 657 = .ok (.imul, 1) := by decide +kernel
theorem dL_same_658 : decode cL_same 658 = .ok (.iload 19, 2) := by decide +kernel
theorem dL_same_660 : decode cL_same 660 = .ok (.iadd, 1) := by decide +kernel
theorem dL_same_661 : decode cL_same 661 = .ok (.iaload, 1) := by decide +kernel
theorem dL_same_662 : decode cL_same 662 = .ok (.if_icmp .eq 5, 3) := by decide +kernel
theorem dL_same_665 : decode cL_same 665 = .ok (.iconst 0, 1) := by decide +kernel
theorem dL_same_666 : decode cL_same 666 = .ok (.ireturn, 1) := by decide +kernel
theorem dL_same_667 : decode cL_same 667 = .ok (.iinc 19 1, 3) := by decide +kernel
theorem dL_same_670 : decode cL_same 670 = .ok (.goto (-31), 3) := by decide +kernel
theorem dL_same_673 : decode cL_same 673 = .ok (.aload_n 0, 1) := by decide +kernel
theorem dL_same_674 : decode cL_same 674 = .ok (.iload 11, 2) := by decide +kernel
theorem dL_same_676 : decode cL_same 676 = .ok (.iconst 3, 1) := by decide +kernel
theorem dL_same_677 : decode cL_same 677 = .ok (.invokevirtual 85, 3) := by decide +kernel
theorem dL_same_680 : decode cL_same 680 = .ok (.aload 8, 2) := by decide +kernel
theorem dL_same_682 : decode cL_same 682 = .ok (.invokestatic 58, 3) := by decide +kernel
theorem dL_same_685 : decode cL_same 685 = .ok (.if_icmp .ne 18, 3) := by decide +kernel
theorem dL_same_688 : decode cL_same 688 = .ok (.aload_n 0, 1) := by decide +kernel
theorem dL_same_689 : decode cL_same 689 = .ok (.iload 11, 2) := by decide +kernel
theorem dL_same_691 : decode cL_same 691 = .ok (.iconst 4, 1) := by decide +kernel
theorem dL_same_692 : decode cL_same 692 = .ok (.invokevirtual 85, 3) := by decide +kernel
theorem dL_same_695 : decode cL_same 695 = .ok (.aload 9, 2) := by decide +kernel
theorem dL_same_697 : decode cL_same 697 = .ok (.invokestatic 58, 3) := by decide +kernel
theorem dL_same_700 : decode cL_same 700 = .ok (.if_icmp .eq 5, 3) := by decide +kernel
theorem dL_same_703 : decode cL_same 703 = .ok (.iconst 0, 1) := by decide +kernel
theorem dL_same_704 : decode cL_same 704 = .ok (.ireturn, 1) := by decide +kernel
theorem dL_same_705 : decode cL_same 705 = .ok (.iinc 11 1, 3) := by decide +kernel
theorem dL_same_708 : decode cL_same 708 = .ok (.goto (-648), 3) := by decide +kernel
theorem dL_same_711 : decode cL_same 711 = .ok (.iload_n 1, 1) := by decide +kernel
theorem dL_same_712 : decode cL_same 712 = .ok (.bipush 64, 2) := by decide +kernel
theorem dL_same_714 : decode cL_same 714 = .ok (.invokestatic 61, 3) := by decide +kernel
theorem dL_same_717 : decode cL_same 717 = .ok (.istore 11, 2) := by decide +kernel
theorem dL_same_719 : decode cL_same 719 = .ok (.iconst 0, 1) := by decide +kernel
theorem dL_same_720 : decode cL_same 720 = .ok (.istore 12, 2) := by decide +kernel
theorem dL_same_722 : decode cL_same 722 = .ok (.iload 12, 2) := by decide +kernel
theorem dL_same_724 : decode cL_same 724 = .ok (.iconst 4, 1) := by decide +kernel
theorem dL_same_725 : decode cL_same 725 = .ok (.if_icmp .ge 55, 3) := by decide +kernel
theorem dL_same_728 : decode cL_same 728 = .ok (.aload_n 0, 1) := by decide +kernel
theorem dL_same_729 : decode cL_same 729 = .ok (.iload 11, 2) := by decide +kernel
theorem dL_same_731 : decode cL_same 731 = .ok (.iconst 0, 1) := by decide +kernel
theorem dL_same_732 : decode cL_same 732 = .ok (.iload 12, 2) := by decide +kernel
theorem dL_same_734 : decode cL_same 734 = .ok (.invokevirtual 88, 3) := by decide +kernel
theorem dL_same_737 : decode cL_same 737 = .ok (.aload 5, 2) := by decide +kernel
theorem dL_same_739 : decode cL_same 739 = .ok (.iload 11, 2) := by decide +kernel
theorem dL_same_741 : decode cL_same 741 = .ok (.laload, 1) := by decide +kernel
theorem dL_same_742 : decode cL_same 742 = .ok (.iload 12, 2) := by decide +kernel
theorem dL_same_744 : decode cL_same 744 = .ok (.invokestatic 12, 3) := by decide +kernel
theorem dL_same_747 : decode cL_same 747 = .ok (.if_icmp .ne 25, 3) := by decide +kernel
theorem dL_same_750 : decode cL_same 750 = .ok (.aload_n 0, 1) := by decide +kernel
theorem dL_same_751 : decode cL_same 751 = .ok (.iload 11, 2) := by decide +kernel
theorem dL_same_753 : decode cL_same 753 = .ok (.iconst 1, 1) := by decide +kernel
theorem dL_same_754 : decode cL_same 754 = .ok (.iload 12, 2) := by decide +kernel
theorem dL_same_756 : decode cL_same 756 = .ok (.invokevirtual 88, 3) := by decide +kernel
theorem dL_same_759 : decode cL_same 759 = .ok (.aload 6, 2) := by decide +kernel
theorem dL_same_761 : decode cL_same 761 = .ok (.iload 11, 2) := by decide +kernel
theorem dL_same_763 : decode cL_same 763 = .ok (.laload, 1) := by decide +kernel
theorem dL_same_764 : decode cL_same 764 = .ok (.iload 12, 2) := by decide +kernel
theorem dL_same_766 : decode cL_same 766 = .ok (.invokestatic 12, 3) := by decide +kernel
theorem dL_same_769 : decode cL_same 769 = .ok (.if_icmp .eq 5, 3) := by decide +kernel
theorem dL_same_772 : decode cL_same 772 = .ok (.iconst 0, 1) := by decide +kernel
theorem dL_same_773 : decode cL_same 773 = .ok (.ireturn, 1) := by decide +kernel
theorem dL_same_774 : decode cL_same 774 = .ok (.iinc 12 1, 3) := by decide +kernel
theorem dL_same_777 : decode cL_same 777 = .ok (.goto (-55), 3) := by decide +kernel
theorem dL_same_780 : decode cL_same 780 = .ok (.aload_n 0, 1) := by decide +kernel
theorem dL_same_781 : decode cL_same 781 = .ok (.iload 11, 2) := by decide +kernel
theorem dL_same_783 : decode cL_same 783 = .ok (.iconst 0, 1) := by decide +kernel
theorem dL_same_784 : decode cL_same 784 = .ok (.iconst 4, 1) := by decide +kernel
theorem dL_same_785 : decode cL_same 785 = .ok (.invokevirtual 88, 3) := by decide +kernel
theorem dL_same_788 : decode cL_same 788 = .ok (.aload 5, 2) := by decide +kernel
theorem dL_same_790 : decode cL_same 790 = .ok (.iload 11, 2) := by decide +kernel
theorem dL_same_792 : decode cL_same 792 = .ok (.laload, 1) := by decide +kernel
theorem dL_same_793 : decode cL_same 793 = .ok (.invokestatic 24, 3) := by decide +kernel
theorem dL_same_796 : decode cL_same 796 = .ok (.if_icmp .ne 76, 3) := by decide +kernel
theorem dL_same_799 : decode cL_same 799 = .ok (.aload_n 0, 1) := by decide +kernel
theorem dL_same_800 : decode cL_same 800 = .ok (.iconst 0, 1) := by decide +kernel
theorem dL_same_801 : decode cL_same 801 = .ok (.invokevirtual 90, 3) := by decide +kernel
theorem dL_same_804 : decode cL_same 804 = .ok (.aload_n 2, 1) := by decide +kernel
theorem dL_same_805 : decode cL_same 805 = .ok (.iconst 0, 1) := by decide +kernel
theorem dL_same_806 : decode cL_same 806 = .ok (.iaload, 1) := by decide +kernel
theorem dL_same_807 : decode cL_same 807 = .ok (.if_icmp .ne 65, 3) := by decide +kernel
theorem dL_same_810 : decode cL_same 810 = .ok (.aload_n 0, 1) := by decide +kernel
theorem dL_same_811 : decode cL_same 811 = .ok (.iconst 1, 1) := by decide +kernel
theorem dL_same_812 : decode cL_same 812 = .ok (.invokevirtual 90, 3) := by decide +kernel
theorem dL_same_815 : decode cL_same 815 = .ok (.aload 4, 2) := by decide +kernel
theorem dL_same_817 : decode cL_same 817 = .ok (.invokestatic 33, 3) := by decide +kernel
theorem dL_same_820 : decode cL_same 820 = .ok (.if_icmp .ne 52, 3) := by decide +kernel
theorem dL_same_823 : decode cL_same 823 = .ok (.aload_n 0, 1) := by decide +kernel
theorem dL_same_824 : decode cL_same 824 = .ok (.iconst 2, 1) := by decide +kernel
theorem dL_same_825 : decode cL_same 825 = .ok (.invokevirtual 90, 3) := by decide +kernel
theorem dL_same_828 : decode cL_same 828 = .ok (.aload_n 2, 1) := by decide +kernel
theorem dL_same_829 : decode cL_same 829 = .ok (.iconst 2, 1) := by decide +kernel
theorem dL_same_830 : decode cL_same 830 = .ok (.iaload, 1) := by decide +kernel
theorem dL_same_831 : decode cL_same 831 = .ok (.if_icmp .ne 41, 3) := by decide +kernel
theorem dL_same_834 : decode cL_same 834 = .ok (.aload_n 0, 1) := by decide +kernel
theorem dL_same_835 : decode cL_same 835 = .ok (.iconst 3, 1) := by decide +kernel
theorem dL_same_836 : decode cL_same 836 = .ok (.invokevirtual 90, 3) := by decide +kernel
theorem dL_same_839 : decode cL_same 839 = .ok (.aload_n 2, 1) := by decide +kernel
theorem dL_same_840 : decode cL_same 840 = .ok (.iconst 3, 1) := by decide +kernel
theorem dL_same_841 : decode cL_same 841 = .ok (.iaload, 1) := by decide +kernel
theorem dL_same_842 : decode cL_same 842 = .ok (.if_icmp .ne 30, 3) := by decide +kernel
theorem dL_same_845 : decode cL_same 845 = .ok (.aload_n 0, 1) := by decide +kernel
theorem dL_same_846 : decode cL_same 846 = .ok (.iconst 4, 1) := by decide +kernel
theorem dL_same_847 : decode cL_same 847 = .ok (.invokevirtual 90, 3) := by decide +kernel
theorem dL_same_850 : decode cL_same 850 = .ok (.iload 10, 2) := by decide +kernel
theorem dL_same_852 : decode cL_same 852 = .ok (.if_icmp .ne 20, 3) := by decide +kernel
theorem dL_same_855 : decode cL_same 855 = .ok (.aload_n 0, 1) := by decide +kernel
theorem dL_same_856 : decode cL_same 856 = .ok (.iconst 5, 1) := by decide +kernel
theorem dL_same_857 : decode cL_same 857 = .ok (.invokevirtual 90, 3) := by decide +kernel
theorem dL_same_860 : decode cL_same 860 = .ok (.aload 4, 2) := by decide +kernel
theorem dL_same_862 : decode cL_same 862 = .ok (.invokestatic 47, 3) := by decide +kernel
theorem dL_same_865 : decode cL_same 865 = .ok (.if_icmp .ne 7, 3) := by decide +kernel
theorem dL_same_868 : decode cL_same 868 = .ok (.iconst 1, 1) := by decide +kernel
theorem dL_same_869 : decode cL_same 869 = .ok (.goto 4, 3) := by decide +kernel
theorem dL_same_872 : decode cL_same 872 = .ok (.iconst 0, 1) := by decide +kernel
theorem dL_same_873 : decode cL_same 873 = .ok (.ireturn, 1) := by decide +kernel
theorem dL_law_0 : decode cL_law 0 = .ok (.new 66, 3) := by decide +kernel
theorem dL_law_3 : decode cL_law 3 = .ok (.dup, 1) := by decide +kernel
theorem dL_law_4 : decode cL_law 4 = .ok (.invokespecial 94, 3) := by decide +kernel
theorem dL_law_7 : decode cL_law 7 = .ok (.astore_n 1, 1) := by decide +kernel
theorem dL_law_8 : decode cL_law 8 = .ok (.iconst 4, 1) := by decide +kernel
theorem dL_law_9 : decode cL_law 9 = .ok (.newarray .int, 2) := by decide +kernel
theorem dL_law_11 : decode cL_law 11 = .ok (.astore_n 2, 1) := by decide +kernel
theorem dL_law_12 : decode cL_law 12 = .ok (.bipush 24, 2) := by decide +kernel
theorem dL_law_14 : decode cL_law 14 = .ok (.newarray .int, 2) := by decide +kernel
theorem dL_law_16 : decode cL_law 16 = .ok (.astore_n 3, 1) := by decide +kernel
theorem dL_law_17 : decode cL_law 17 = .ok (.bipush 9, 2) := by decide +kernel
theorem dL_law_19 : decode cL_law 19 = .ok (.newarray .int, 2) := by decide +kernel
theorem dL_law_21 : decode cL_law 21 = .ok (.astore 4, 2) := by decide +kernel
theorem dL_law_23 : decode cL_law 23 = .ok (.iconst 2, 1) := by decide +kernel
theorem dL_law_24 : decode cL_law 24 = .ok (.newarray .long, 2) := by decide +kernel
theorem dL_law_26 : decode cL_law 26 = .ok (.astore 5, 2) := by decide +kernel
theorem dL_law_28 : decode cL_law 28 = .ok (.bipush 64, 2) := by decide +kernel
theorem dL_law_30 : decode cL_law 30 = .ok (.newarray .long, 2) := by decide +kernel
theorem dL_law_32 : decode cL_law 32 = .ok (.astore 6, 2) := by decide +kernel
theorem dL_law_34 : decode cL_law 34 = .ok (.bipush 64, 2) := by decide +kernel
theorem dL_law_36 : decode cL_law 36 = .ok (.newarray .long, 2) := by decide +kernel
theorem dL_law_38 : decode cL_law 38 = .ok (.astore 7, 2) := by decide +kernel
theorem dL_law_40 : decode cL_law 40 = .ok (.iconst 2, 1) := by decide +kernel
theorem dL_law_41 : decode cL_law 41 = .ok (.newarray .long, 2) := by decide +kernel
theorem dL_law_43 : decode cL_law 43 = .ok (.astore 8, 2) := by decide +kernel
theorem dL_law_45 : decode cL_law 45 = .ok (.iconst 2, 1) := by decide +kernel
theorem dL_law_46 : decode cL_law 46 = .ok (.newarray .long, 2) := by decide +kernel
theorem dL_law_48 : decode cL_law 48 = .ok (.astore 9, 2) := by decide +kernel
theorem dL_law_50 : decode cL_law 50 = .ok (.aload 5, 2) := by decide +kernel
theorem dL_law_52 : decode cL_law 52 = .ok (.iconst 0, 1) := by decide +kernel
theorem dL_law_53 : decode cL_law 53 = .ok (.ldc2_w 95, 3) := by decide +kernel
theorem dL_law_56 : decode cL_law 56 = .ok (.lastore, 1) := by decide +kernel
theorem dL_law_57 : decode cL_law 57 = .ok (.iconst 0, 1) := by decide +kernel
theorem dL_law_58 : decode cL_law 58 = .ok (.istore 10, 2) := by decide +kernel
theorem dL_law_60 : decode cL_law 60 = .ok (.iload 10, 2) := by decide +kernel
theorem dL_law_62 : decode cL_law 62 = .ok (.iconst 4, 1) := by decide +kernel
theorem dL_law_63 : decode cL_law 63 = .ok (.if_icmp .ge 59, 3) := by decide +kernel
theorem dL_law_66 : decode cL_law 66 = .ok (.iconst 0, 1) := by decide +kernel
theorem dL_law_67 : decode cL_law 67 = .ok (.istore 11, 2) := by decide +kernel
theorem dL_law_69 : decode cL_law 69 = .ok (.iload 11, 2) := by decide +kernel
theorem dL_law_71 : decode cL_law 71 = .ok (.iconst 4, 1) := by decide +kernel
theorem dL_law_72 : decode cL_law 72 = .ok (.if_icmp .ge 44, 3) := by decide +kernel
theorem dL_law_75 : decode cL_law 75 = .ok (.aload 6, 2) := by decide +kernel
theorem dL_law_77 : decode cL_law 77 = .ok (.bipush 16, 2) := by decide +kernel
theorem dL_law_79 : decode cL_law 79 = .ok (.iload 10, 2) := by decide +kernel
theorem dL_law_81 : decode cL_law 81 = .ok (.iadd, 1) := by decide +kernel
theorem dL_law_82 : decode cL_law 82 = .ok (.aload 6, 2) := by decide +kernel
theorem dL_law_84 : decode cL_law 84 = .ok (.bipush 16, 2) := by decide +kernel
theorem dL_law_86 : decode cL_law 86 = .ok (.iload 10, 2) := by decide +kernel
theorem dL_law_88 : decode cL_law 88 = .ok (.iadd, 1) := by decide +kernel
theorem dL_law_89 : decode cL_law 89 = .ok (.laload, 1) := by decide +kernel
theorem dL_law_90 : decode cL_law 90 = .ok (.iload 11, 2) := by decide +kernel
theorem dL_law_92 : decode cL_law 92 = .ok (.sipush 256, 3) := by decide +kernel
theorem dL_law_95 : decode cL_law 95 = .ok (.iconst 4, 1) := by decide +kernel
theorem dL_law_96 : decode cL_law 96 = .ok (.iload 10, 2) := by decide +kernel
theorem dL_law_98 : decode cL_law 98 = .ok (.imul, 1) := by decide +kernel
theorem dL_law_99 : decode cL_law 99 = .ok (.iload 11, 2) := by decide +kernel
theorem dL_law_101 : decode cL_law 101 = .ok (.iadd, 1) := by decide +kernel
theorem dL_law_102 : decode cL_law 102 = .ok (.imul, 1) := by decide +kernel
theorem dL_law_103 : decode cL_law 103 = .ok (.bipush 7, 2) := by decide +kernel
theorem dL_law_105 : decode cL_law 105 = .ok (.iadd, 1) := by decide +kernel
theorem dL_law_106 : decode cL_law 106 = .ok (.invokestatic 43, 3) := by decide +kernel
theorem dL_law_109 : decode cL_law 109 = .ok (.lastore, 1) := by decide +kernel
theorem dL_law_110 : decode cL_law 110 = .ok (.iinc 11 1, 3) := by decide +kernel
theorem dL_law_113 : decode cL_law 113 = .ok (.goto (-44), 3) := by decide +kernel
theorem dL_law_116 : decode cL_law 116 = .ok (.iinc 10 1, 3) := by decide +kernel
theorem dL_law_119 : decode cL_law 119 = .ok (.goto (-59), 3) := by decide +kernel
theorem dL_law_122 : decode cL_law 122 = .ok (.iconst 0, 1) := by decide +kernel
theorem dL_law_123 : decode cL_law 123 = .ok (.istore 10, 2) := by decide +kernel
theorem dL_law_125 : decode cL_law 125 = .ok (.iload 10, 2) := by decide +kernel
theorem dL_law_127 : decode cL_law 127 = .ok (.iconst 4, 1) := by decide +kernel
theorem dL_law_128 : decode cL_law 128 = .ok (.if_icmp .ge 45, 3) := by decide +kernel
theorem dL_law_131 : decode cL_law 131 = .ok (.aload 6, 2) := by decide +kernel
theorem dL_law_133 : decode cL_law 133 = .ok (.bipush 20, 2) := by decide +kernel
theorem dL_law_135 : decode cL_law 135 = .ok (.aload 6, 2) := by decide +kernel
theorem dL_law_137 : decode cL_law 137 = .ok (.bipush 20, 2) := by decide +kernel
theorem dL_law_139 : decode cL_law 139 = .ok (.laload, 1) := by decide +kernel
theorem dL_law_140 : decode cL_law 140 = .ok (.iload 10, 2) := by decide +kernel
theorem dL_law_142 : decode cL_law 142 = .ok (.sipush 256, 3) := by decide +kernel
theorem dL_law_145 : decode cL_law 145 = .ok (.bipush 16, 2) := by decide +kernel
theorem dL_law_147 : decode cL_law 147 = .ok (.iload 10, 2) := by decide +kernel
theorem dL_law_149 : decode cL_law 149 = .ok (.iadd, 1) := by decide +kernel
theorem dL_law_150 : decode cL_law 150 = .ok (.imul, 1) := by decide +kernel
theorem dL_law_151 : decode cL_law 151 = .ok (.aload 6, 2) := by decide +kernel
theorem dL_law_153 : decode cL_law 153 = .ok (.bipush 16, 2) := by decide +kernel
theorem dL_law_155 : decode cL_law 155 = .ok (.iload 10, 2) := by decide +kernel
theorem dL_law_157 : decode cL_law 157 = .ok (.iadd, 1) := by decide +kernel
theorem dL_law_158 : decode cL_law 158 = .ok (.laload, 1) := by decide +kernel
theorem dL_law_159 : decode cL_law 159 = .ok (.invokestatic 24, 3) := by decide +kernel
theorem dL_law_162 : decode cL_law 162 = .ok (.iadd, 1) := by decide +kernel
theorem dL_law_163 : decode cL_law 163 = .ok (.invokestatic 43, 3) := by decide +kernel
theorem dL_law_166 : decode cL_law 166 = .ok (.lastore, 1) := by decide +kernel
theorem dL_law_167 : decode cL_law 167 = .ok (.iinc 10 1, 3) := by decide +kernel
theorem dL_law_170 : decode cL_law 170 = .ok (.goto (-45), 3) := by decide +kernel
theorem dL_law_173 : decode cL_law 173 = .ok (.bipush 16, 2) := by decide +kernel
theorem dL_law_175 : decode cL_law 175 = .ok (.istore 10, 2) := by decide +kernel
theorem dL_law_177 : decode cL_law 177 = .ok (.iload 10, 2) := by decide +kernel
theorem dL_law_179 : decode cL_law 179 = .ok (.bipush 21, 2) := by decide +kernel
theorem dL_law_181 : decode cL_law 181 = .ok (.if_icmp .ge 19, 3) := by decide +kernel
theorem dL_law_184 : decode cL_law 184 = .ok (.aload 7, 2) := by decide +kernel
theorem dL_law_186 : decode cL_law 186 = .ok (.iload 10, 2) := by decide +kernel
theorem dL_law_188 : decode cL_law 188 = .ok (.aload 6, 2) := by decide +kernel
theorem dL_law_190 : decode cL_law 190 = .ok (.iload 10, 2) := by decide +kernel
theorem dL_law_192 : decode cL_law 192 = .ok (.laload, 1) := by decide +kernel
theorem dL_law_193 : decode cL_law 193 = .ok (.lastore, 1) := by decide +kernel
theorem dL_law_194 : decode cL_law 194 = .ok (.iinc 10 1, 3) := by decide +kernel
theorem dL_law_197 : decode cL_law 197 = .ok (.goto (-20), 3) := by decide +kernel
theorem dL_law_200 : decode cL_law 200 = .ok (.aload_n 2, 1) := by decide +kernel
theorem dL_law_201 : decode cL_law 201 = .ok (.iconst 0, 1) := by decide +kernel
theorem dL_law_202 : decode cL_law 202 = .ok (.iconst 1, 1) := by decide +kernel
theorem dL_law_203 : decode cL_law 203 = .ok (.iastore, 1) := by decide +kernel
theorem dL_law_204 : decode cL_law 204 = .ok (.aload_n 2, 1) := by decide +kernel
theorem dL_law_205 : decode cL_law 205 = .ok (.iconst 1, 1) := by decide +kernel
theorem dL_law_206 : decode cL_law 206 = .ok (.iconst 1, 1) := by decide +kernel
theorem dL_law_207 : decode cL_law 207 = .ok (.iastore, 1) := by decide +kernel
theorem dL_law_208 : decode cL_law 208 = .ok (.aload_n 3, 1) := by decide +kernel
theorem dL_law_209 : decode cL_law 209 = .ok (.iconst 1, 1) := by decide +kernel
theorem dL_law_210 : decode cL_law 210 = .ok (.bipush 20, 2) := by decide +kernel
theorem dL_law_212 : decode cL_law 212 = .ok (.iastore, 1) := by decide +kernel
theorem dL_law_213 : decode cL_law 213 = .ok (.aload_n 3, 1) := by decide +kernel
theorem dL_law_214 : decode cL_law 214 = .ok (.iconst 2, 1) := by decide +kernel
theorem dL_law_215 : decode cL_law 215 = .ok (.aload 6, 2) := by decide +kernel
theorem dL_law_217 : decode cL_law 217 = .ok (.bipush 20, 2) := by decide +kernel
theorem dL_law_219 : decode cL_law 219 = .ok (.laload, 1) := by decide +kernel
theorem dL_law_220 : decode cL_law 220 = .ok (.invokestatic 24, 3) := by decide +kernel
theorem dL_law_223 : decode cL_law 223 = .ok (.iastore, 1) := by decide +kernel
theorem dL_law_224 : decode cL_law 224 = .ok (.iconst 0, 1) := by decide +kernel
theorem dL_law_225 : decode cL_law 225 = .ok (.istore 10, 2) := by decide +kernel
theorem dL_law_227 : decode cL_law 227 = .ok (.iload 10, 2) := by decide +kernel
theorem dL_law_229 : decode cL_law 229 = .ok (.bipush 16, 2) := by decide +kernel
theorem dL_law_231 : decode cL_law 231 = .ok (.if_icmp .ge 693, 3) := by decide +kernel
theorem dL_law_234 : decode cL_law 234 = .ok (.aload_n 0, 1) := by decide +kernel
theorem dL_law_235 : decode cL_law 235 = .ok (.iload 10, 2) := by decide +kernel
theorem dL_law_237 : decode cL_law 237 = .ok (.invokestatic 97, 3) := by decide +kernel
theorem dL_law_240 : decode cL_law 240 = .ok (.istore 11, 2) := by decide +kernel
theorem dL_law_242 : decode cL_law 242 = .ok (.iload 11, 2) := by decide +kernel
theorem dL_law_244 : decode cL_law 244 = .ok (.bipush 9, 2) := by decide +kernel
theorem dL_law_246 : decode cL_law 246 = .ok (.invokestatic 61, 3) := by decide +kernel
theorem dL_law_249 : decode cL_law 249 = .ok (.istore 12, 2) := by decide +kernel
theorem dL_law_251 : decode cL_law 251 = .ok (.iload 11, 2) := by decide +kernel
theorem dL_law_253 : decode cL_law 253 = .ok (.iconst 4, 1) := by decide +kernel
theorem dL_law_254 : decode cL_law 254 = .ok (.ishr, 1) := by decide +kernel
theorem dL_law_255 : decode cL_law 255 = .ok (.bipush 16, 2) := by decide +kernel
theorem dL_law_257 : decode cL_law 257 = .ok (.invokestatic 61, 3) := by decide +kernel
theorem dL_law_260 : decode cL_law 260 = .ok (.istore 13, 2) := by decide +kernel
theorem dL_law_262 : decode cL_law 262 = .ok (.iload 11, 2) := by decide +kernel
theorem dL_law_264 : decode cL_law 264 = .ok (.iconst 3, 1) := by decide +kernel
theorem dL_law_265 : decode cL_law 265 = .ok (.ishr, 1) := by decide +kernel
theorem dL_law_266 : decode cL_law 266 = .ok (.aload_n 2, 1) := by decide +kernel
theorem dL_law_267 : decode cL_law 267 = .ok (.iconst 0, 1) := by decide +kernel
theorem dL_law_268 : decode cL_law 268 = .ok (.iaload, 1) := by decide +kernel
theorem dL_law_269 : decode cL_law 269 = .ok (.invokestatic 61, 3) := by decide +kernel
theorem dL_law_272 : decode cL_law 272 = .ok (.istore 14, 2) := by decide +kernel
theorem dL_law_274 : decode cL_law 274 = .ok (.iload 12, 2) := by decide +kernel
theorem dL_law_276 : decode cL_law 276 = .ok (.iconst 4, 1) := by decide +kernel
theorem dL_law_277 : decode cL_law 277 = .ok (.if_icmp .ge 107, 3) := by decide +kernel
theorem dL_law_280 : decode cL_law 280 = .ok (.iload 11, 2) := by decide +kernel
theorem dL_law_282 : decode cL_law 282 = .ok (.bipush 8, 2) := by decide +kernel
theorem dL_law_284 : decode cL_law 284 = .ok (.ishr, 1) := by decide +kernel
theorem dL_law_285 : decode cL_law 285 = .ok (.iconst 4, 1) := by decide +kernel
theorem dL_law_286 : decode cL_law 286 = .ok (.invokestatic 61, 3) := by decide +kernel
theorem dL_law_289 : decode cL_law 289 = .ok (.istore 15, 2) := by decide +kernel
theorem dL_law_291 : decode cL_law 291 = .ok (.aload_n 1, 1) := by decide +kernel
theorem dL_law_292 : decode cL_law 292 = .ok (.iload 15, 2) := by decide +kernel
theorem dL_law_294 : decode cL_law 294 = .ok (.invokevirtual 101, 3) := by decide +kernel
theorem dL_law_297 : decode cL_law 297 = .ok (.aload_n 2, 1) := by decide +kernel
theorem dL_law_298 : decode cL_law 298 = .ok (.iconst 2, 1) := by decide +kernel
theorem dL_law_299 : decode cL_law 299 = .ok (.iaload, 1) := by decide +kernel
theorem dL_law_300 : decode cL_law 300 = .ok (.if_icmp .eq 5, 3) := by decide +kernel
theorem dL_law_303 : decode cL_law 303 = .ok (.iconst 0, 1) := by decide +kernel
theorem dL_law_304 : decode cL_law 304 = .ok (.ireturn, 1) := by decide +kernel
theorem dL_law_305 : decode cL_law 305 = .ok (.aload_n 2, 1) := by decide +kernel
theorem dL_law_306 : decode cL_law 306 = .ok (.iconst 2, 1) := by decide +kernel
theorem dL_law_307 : decode cL_law 307 = .ok (.iload 15, 2) := by decide +kernel
theorem dL_law_309 : decode cL_law 309 = .ok (.iastore, 1) := by decide +kernel
theorem dL_law_310 : decode cL_law 310 = .ok (.iload 11, 2) := by decide +kernel
theorem dL_law_312 : decode cL_law 312 = .ok (.bipush 10, 2) := by decide +kernel
theorem dL_law_314 : decode cL_law 314 = .ok (.ishr, 1) := by decide +kernel
theorem dL_law_315 : decode cL_law 315 = .ok (.iconst 4, 1) := by decide +kernel
theorem dL_law_316 : decode cL_law 316 = .ok (.invokestatic 61, 3) := by decide +kernel
theorem dL_law_319 : decode cL_law 319 = .ok (.istore 16, 2) := by decide +kernel
theorem dL_law_321 : decode cL_law 321 = .ok (.iload 11, 2) := by decide +kernel
theorem dL_law_323 : decode cL_law 323 = .ok (.bipush 12, 2) := by decide +kernel
theorem dL_law_325 : decode cL_law 325 = .ok (.ishr, 1) := by decide +kernel
theorem dL_law_326 : decode cL_law 326 = .ok (.sipush 1000, 3) := by decide +kernel
theorem dL_law_329 : decode cL_law 329 = .ok (.invokestatic 61, 3) := by decide +kernel
theorem dL_law_332 : decode cL_law 332 = .ok (.istore 17, 2) := by decide +kernel
theorem dL_law_334 : decode cL_law 334 = .ok (.aload 5, 2) := by decide +kernel
theorem dL_law_336 : decode cL_law 336 = .ok (.invokestatic 47, 3) := by decide +kernel
theorem dL_law_339 : decode cL_law 339 = .ok (.bipush 60, 2) := by decide +kernel
theorem dL_law_341 : decode cL_law 341 = .ok (.if_icmp .le 6, 3) := by decide +kernel
theorem dL_law_344 : decode cL_law 344 = .ok (.goto 574, 3) := by decide +kernel
theorem dL_law_347 : decode cL_law 347 = .ok (.aload_n 1, 1) := by decide +kernel
theorem dL_law_348 : decode cL_law 348 = .ok (.iload 13, 2) := by decide +kernel
theorem dL_law_350 : decode cL_law 350 = .ok (.iload 16, 2) := by decide +kernel
theorem dL_law_352 : decode cL_law 352 = .ok (.iload 17, 2) := by decide +kernel
theorem dL_law_354 : decode cL_law 354 = .ok (.invokevirtual 104, 3) := by decide +kernel
theorem dL_law_357 : decode cL_law 357 = .ok (.iload 13, 2) := by decide +kernel
theorem dL_law_359 : decode cL_law 359 = .ok (.iload 16, 2) := by decide +kernel
theorem dL_law_361 : decode cL_law 361 = .ok (.iload 17, 2) := by decide +kernel
theorem dL_law_363 : decode cL_law 363 = .ok (.aload_n 2, 1) := by decide +kernel
theorem dL_law_364 : decode cL_law 364 = .ok (.aload_n 3, 1) := by decide +kernel
theorem dL_law_365 : decode cL_law 365 = .ok (.aload 5, 2) := by decide +kernel
theorem dL_law_367 : decode cL_law 367 = .ok (.aload 6, 2) := by decide +kernel
theorem dL_law_369 : decode cL_law 369 = .ok (.aload 7, 2) := by decide +kernel
theorem dL_law_371 : decode cL_law 371 = .ok (.aload 4, 2) := by decide +kernel
theorem dL_law_373 : decode cL_law 373 = .ok (.invokestatic 107, 3) := by decide +kernel
theorem dL_law_376 : decode cL_law 376 = .ok (.if_icmp .eq 5, 3) := by decide +kernel
theorem dL_law_379 : decode cL_law 379 = .ok (.iconst 0, 1) := by decide +kernel
theorem dL_law_380 : decode cL_law 380 = .ok (.ireturn, 1) := by decide +kernel
theorem dL_law_381 : decode cL_law 381 = .ok (.goto 510, 3) := by decide +kernel
theorem dL_law_384 : decode cL_law 384 = .ok (.iload 12, 2) := by decide +kernel
theorem dL_law_386 : decode cL_law 386 = .ok (.iconst 4, 1) := by decide +kernel
theorem dL_law_387 : decode cL_law 387 = .ok (.if_icmp .ne 202, 3) := by decide +kernel
theorem dL_law_390 : decode cL_law 390 = .ok (.iload 11, 2) := by decide +kernel
theorem dL_law_392 : decode cL_law 392 = .ok (.iconst 4, 1) := by decide +kernel
theorem dL_law_393 : decode cL_law 393 = .ok (.ishr, 1) := by decide +kernel
theorem dL_law_394 : decode cL_law 394 = .ok (.iconst 2, 1) := by decide +kernel
theorem dL_law_395 : decode cL_law 395 = .ok (.invokestatic 61, 3) := by decide +kernel
theorem dL_law_398 : decode cL_law 398 = .ok (.ifCond .ne 14, 3) := by decide +kernel
theorem dL_law_401 : decode cL_law 401 = .ok (.aload_n 3, 1) := by decide +kernel
theorem dL_law_402 : decode cL_law 402 = .ok (.iconst 3, 1) := by decide +kernel
theorem dL_law_403 : decode cL_law 403 = .ok (.iload 14, 2) := by decide +kernel
theorem dL_law_405 : decode cL_law 405 = .ok (.imul, 1) := by decide +kernel
theorem dL_law_406 : decode cL_law 406 = .ok (.iconst 1, 1) := by decide +kernel
theorem dL_law_407 : decode cL_law 407 = .ok (.iadd, 1) := by decide +kernel
theorem dL_law_408 : decode cL_law 408 = .ok (.iaload, 1) := by decide +kernel
theorem dL_law_409 : decode cL_law 409 = .ok (.goto 12, 3) := by decide +kernel
theorem dL_law_412 : decode cL_law 412 = .ok (.iload 11, 2) := by decide +kernel
theorem dL_law_414 : decode cL_law 414 = .ok (.iconst 5, 1) := by decide +kernel
theorem dL_law_415 : decode cL_law 415 = .ok (.ishr, 1) := by decide +kernel
theorem dL_law_416 : decode cL_law 416 = .ok (.bipush 48, 2) := by decide +kernel
theorem dL_law_418 : decode cL_law 418 = .ok (.invokestatic 61, 3) := by decide +kernel
theorem dL_law_421 : decode cL_law 421 = .ok (.istore 15, 2) := by decide +kernel
theorem dL_law_423 : decode cL_law 423 = .ok (.iload 11, 2) := by decide +kernel
theorem dL_law_425 : decode cL_law 425 = .ok (.bipush 11, 2) := by decide +kernel
theorem dL_law_427 : decode cL_law 427 = .ok (.ishr, 1) := by decide +kernel
theorem dL_law_428 : decode cL_law 428 = .ok (.iconst 3, 1) := by decide +kernel
theorem dL_law_429 : decode cL_law 429 = .ok (.invokestatic 61, 3) := by decide +kernel
theorem dL_law_432 : decode cL_law 432 = .ok (.ifCond .ne 7, 3) := by decide +kernel
theorem dL_law_435 : decode cL_law 435 = .ok (.iconst 1, 1) := by decide +kernel
theorem dL_law_436 : decode cL_law 436 = .ok (.goto 4, 3) := by decide +kernel
theorem dL_law_439 : decode cL_law 439 = .ok (.iconst 0, 1) := by decide +kernel
theorem dL_law_440 : decode cL_law 440 = .ok (.istore 16, 2) := by decide +kernel
theorem dL_law_442 : decode cL_law 442 = .ok (.iload 11, 2) := by decide +kernel
theorem dL_law_444 : decode cL_law 444 = .ok (.bipush 13, 2) := by decide +kernel
theorem dL_law_446 : decode cL_law 446 = .ok (.ishr, 1) := by decide +kernel
theorem dL_law_447 : decode cL_law 447 = .ok (.iconst 4, 1) := by decide +kernel
theorem dL_law_448 : decode cL_law 448 = .ok (.invokestatic 61, 3) := by decide +kernel
theorem dL_law_451 : decode cL_law 451 = .ok (.istore 17, 2) := by decide +kernel
theorem dL_law_453 : decode cL_law 453 = .ok (.iload 11, 2) := by decide +kernel
theorem dL_law_455 : decode cL_law 455 = .ok (.bipush 9, 2) := by decide +kernel
theorem dL_law_457 : decode cL_law 457 = .ok (.ishr, 1) := by decide +kernel
theorem dL_law_458 : decode cL_law 458 = .ok (.iconst 3, 1) := by decide +kernel
theorem dL_law_459 : decode cL_law 459 = .ok (.invokestatic 61, 3) := by decide +kernel
theorem dL_law_462 : decode cL_law 462 = .ok (.ifCond .ne 16, 3) := by decide +kernel
theorem dL_law_465 : decode cL_law 465 = .ok (.iload 11, 2) := by decide +kernel
theorem dL_law_467 : decode cL_law 467 = .ok (.bipush 7, 2) := by decide +kernel
theorem dL_law_469 : decode cL_law 469 = .ok (.ishr, 1) := by decide +kernel
theorem dL_law_470 : decode cL_law 470 = .ok (.ldc 110, 2) := by decide +kernel
theorem dL_law_472 : decode cL_law 472 = .ok (.invokestatic 61, 3) := by decide +kernel
theorem dL_law_475 : decode cL_law 475 = .ok (.goto 14, 3) := by decide +kernel
theorem dL_law_478 : decode cL_law 478 = .ok (.iload 11, 2) := by decide +kernel
theorem dL_law_480 : decode cL_law 480 = .ok (.bipush 7, 2) := by decide +kernel
theorem dL_law_482 : decode cL_law 482 = .ok (.ishr, 1) := by decide +kernel
theorem dL_law_483 : decode cL_law 483 = .ok (.sipush 1000, 3) := by decide +kernel
theorem dL_law_486 : decode cL_law 486 = .ok (.invokestatic 61, 3) := by decide +kernel
theorem dL_law_489 : decode cL_law 489 = .ok (.istore 18, 2) := by decide +kernel
theorem dL_law_491 : decode cL_law 491 = .ok (.iload 15, 2) := by decide +kernel
theorem dL_law_493 : decode cL_law 493 = .ok (.bipush 63, 2) := by decide +kernel
theorem dL_law_495 : decode cL_law 495 = .ok (.if_icmp .le 6, 3) := by decide +kernel
theorem dL_law_498 : decode cL_law 498 = .ok (.goto 420, 3) := by decide +kernel
theorem dL_law_501 : decode cL_law 501 = .ok (.aload_n 1, 1) := by decide +kernel
theorem dL_law_502 : decode cL_law 502 = .ok (.iload 15, 2) := by decide +kernel
theorem dL_law_504 : decode cL_law 504 = .ok (.iload 16, 2) := by decide +kernel
theorem dL_law_506 : decode cL_law 506 = .ok (.iload 17, 2) := by decide +kernel
theorem dL_law_508 : decode cL_law 508 = .ok (.iload 18, 2) := by decide +kernel
theorem dL_law_510 : decode cL_law 510 = .ok (.invokevirtual 111, 3) := by decide +kernel
theorem dL_law_513 : decode cL_law 513 = .ok (.iload 16, 2) := by decide +kernel
theorem dL_law_515 : decode cL_law 515 = .ok (.ifCond .ne 11, 3) := by decide +kernel
theorem dL_law_518 : decode cL_law 518 = .ok (.aload 6, 2) := by decide +kernel
theorem dL_law_520 : decode cL_law 520 = .ok (.iload 15, 2) := by decide +kernel
theorem dL_law_522 : decode cL_law 522 = .ok (.laload, 1) := by decide +kernel
theorem dL_law_523 : decode cL_law 523 = .ok (.goto 8, 3) := by decide +kernel
theorem dL_law_526 : decode cL_law 526 = .ok (.aload 7, 2) := by decide +kernel
theorem dL_law_528 : decode cL_law 528 = .ok (.iload 15, 2) := by decide +kernel
theorem dL_law_530 : decode cL_law 530 = .ok (.laload, 1) := by decide +kernel
theorem dL_law_531 : decode cL_law 531 = .ok (.iload 17, 2) := by decide +kernel
theorem dL_law_533 : decode cL_law 533 = .ok (.invokestatic 12, 3) := by decide +kernel
theorem dL_law_536 : decode cL_law 536 = .ok (.if_icmp .eq 5, 3) := by decide +kernel
theorem dL_law_539 : decode cL_law 539 = .ok (.iconst 0, 1) := by decide +kernel
theorem dL_law_540 : decode cL_law 540 = .ok (.ireturn, 1) := by decide +kernel
theorem dL_law_541 : decode cL_law 541 = .ok (.iload 16, 2) := by decide +kernel
theorem dL_law_543 : decode cL_law 543 = .ok (.ifCond .ne 20, 3) := by decide +kernel
theorem dL_law_546 : decode cL_law 546 = .ok (.aload 6, 2) := by decide +kernel
theorem dL_law_548 : decode cL_law 548 = .ok (.iload 15, 2) := by decide +kernel
theorem dL_law_550 : decode cL_law 550 = .ok (.aload 6, 2) := by decide +kernel
theorem dL_law_552 : decode cL_law 552 = .ok (.iload 15, 2) := by decide +kernel
theorem dL_law_554 : decode cL_law 554 = .ok (.laload, 1) := by decide +kernel
theorem dL_law_555 : decode cL_law 555 = .ok (.iload 17, 2) := by decide +kernel
theorem dL_law_557 : decode cL_law 557 = .ok (.iload 18, 2) := by decide +kernel
theorem dL_law_559 : decode cL_law 559 = .ok (.invokestatic 43, 3) := by decide +kernel
theorem dL_law_562 : decode cL_law 562 = .ok (.lastore, 1) := by decide +kernel
theorem dL_law_563 : decode cL_law 563 = .ok (.iload 16, 2) := by decide +kernel
theorem dL_law_565 : decode cL_law 565 = .ok (.iconst 1, 1) := by decide +kernel
theorem dL_law_566 : decode cL_law 566 = .ok (.if_icmp .ne 20, 3) := by decide +kernel
theorem dL_law_569 : decode cL_law 569 = .ok (.aload 7, 2) := by decide +kernel
theorem dL_law_571 : decode cL_law 571 = .ok (.iload 15, 2) := by decide +kernel
theorem dL_law_573 : decode cL_law 573 = .ok (.aload 7, 2) := by decide +kernel
theorem dL_law_575 : decode cL_law 575 = .ok (.iload 15, 2) := by decide +kernel
theorem dL_law_577 : decode cL_law 577 = .ok (.laload, 1) := by decide +kernel
theorem dL_law_578 : decode cL_law 578 = .ok (.iload 17, 2) := by decide +kernel
theorem dL_law_580 : decode cL_law 580 = .ok (.iload 18, 2) := by decide +kernel
theorem dL_law_582 : decode cL_law 582 = .ok (.invokestatic 43, 3) := by decide +kernel
theorem dL_law_585 : decode cL_law 585 = .ok (.lastore, 1) := by decide +kernel
theorem dL_law_586 : decode cL_law 586 = .ok (.goto 305, 3) := by decide +kernel
theorem dL_law_589 : decode cL_law 589 = .ok (.iload 12, 2) := by decide +kernel
theorem dL_law_591 : decode cL_law 591 = .ok (.iconst 5, 1) := by decide +kernel
theorem dL_law_592 : decode cL_law 592 = .ok (.if_icmp .ne 30, 3) := by decide +kernel
theorem dL_law_595 : decode cL_law 595 = .ok (.aload_n 1, 1) := by decide +kernel
theorem dL_law_596 : decode cL_law 596 = .ok (.iload 14, 2) := by decide +kernel
theorem dL_law_598 : decode cL_law 598 = .ok (.iload 13, 2) := by decide +kernel
theorem dL_law_600 : decode cL_law 600 = .ok (.invokevirtual 114, 3) := by decide +kernel
theorem dL_law_603 : decode cL_law 603 = .ok (.iload 14, 2) := by decide +kernel
theorem dL_law_605 : decode cL_law 605 = .ok (.iload 13, 2) := by decide +kernel
theorem dL_law_607 : decode cL_law 607 = .ok (.aload_n 3, 1) := by decide +kernel
theorem dL_law_608 : decode cL_law 608 = .ok (.aload 6, 2) := by decide +kernel
theorem dL_law_610 : decode cL_law 610 = .ok (.aload 7, 2) := by decide +kernel
theorem dL_law_612 : decode cL_law 612 = .ok (.aload 4, 2) := by decide +kernel
theorem dL_law_614 : decode cL_law 614 = .ok (.invokestatic 117, 3) := by decide +kernel
theorem dL_law_617 : decode cL_law 617 = .ok (.if_icmp .eq 274, 3) := by decide +kernel
theorem dL_law_620 : decode cL_law 620 = .ok (.iconst 0, 1) := by decide +kernel
theorem dL_law_621 : decode cL_law 621 = .ok (.ireturn, 1) := by decide +kernel
theorem dL_law_622 : decode cL_law 622 = .ok (.iload 12, 2) := by decide +kernel
theorem dL_law_624 : decode cL_law 624 = .ok (.bipush 6, 2) := by decide +kernel
theorem dL_law_626 : decode cL_law 626 = .ok (.if_icmp .ne 86, 3) := by decide +kernel
theorem dL_law_629 : decode cL_law 629 = .ok (.iload 11, 2) := by decide +kernel
theorem dL_law_631 : decode cL_law 631 = .ok (.iconst 4, 1) := by decide +kernel
theorem dL_law_632 : decode cL_law 632 = .ok (.ishr, 1) := by decide +kernel
theorem dL_law_633 : decode cL_law 633 = .ok (.iconst 3, 1) := by decide +kernel
theorem dL_law_634 : decode cL_law 634 = .ok (.invokestatic 61, 3) := by decide +kernel
theorem dL_law_637 : decode cL_law 637 = .ok (.ifCond .le 6, 3) := by decide +kernel
theorem dL_law_640 : decode cL_law 640 = .ok (.goto 278, 3) := by decide +kernel
theorem dL_law_643 : decode cL_law 643 = .ok (.iconst 0, 1) := by decide +kernel
theorem dL_law_644 : decode cL_law 644 = .ok (.istore 15, 2) := by decide +kernel
theorem dL_law_646 : decode cL_law 646 = .ok (.iconst 0, 1) := by decide +kernel
theorem dL_law_647 : decode cL_law 647 = .ok (.istore 16, 2) := by decide +kernel
theorem dL_law_649 : decode cL_law 649 = .ok (.iload 16, 2) := by decide +kernel
theorem dL_law_651 : decode cL_law 651 = .ok (.aload_n 2, 1) := by decide +kernel
theorem dL_law_652 : decode cL_law 652 = .ok (.iconst 0, 1) := by decide +kernel
theorem dL_law_653 : decode cL_law 653 = .ok (.iaload, 1) := by decide +kernel
theorem dL_law_654 : decode cL_law 654 = .ok (.if_icmp .ge 44, 3) := by decide +kernel
theorem dL_law_657 : decode cL_law 657 = .ok (.iconst 0, 1) := by decide +kernel
theorem dL_law_658 : decode cL_law 658 = .ok (.istore 17, 2) := by decide +kernel
theorem dL_law_660 : decode cL_law 660 = .ok (.iload 17, 2) := by decide +kernel
theorem dL_law_662 : decode cL_law 662 = .ok (.bipush 16, 2) := by decide +kernel
theorem dL_law_664 : decode cL_law 664 = .ok (.if_icmp .ge 28, 3) := by decide +kernel
theorem dL_law_667 : decode cL_law 667 = .ok (.iload 15, 2) := by decide +kernel
theorem dL_law_669 : decode cL_law 669 = .ok (.iload 16, 2) := by decide +kernel
theorem dL_law_671 : decode cL_law 671 = .ok (.iload 17, 2) := by decide +kernel
theorem dL_law_673 : decode cL_law 673 = .ok (.aload_n 3, 1) := by decide +kernel
theorem dL_law_674 : decode cL_law 674 = .ok (.aload 6, 2) := by decide +kernel
theorem dL_law_676 : decode cL_law 676 = .ok (.aload 7, 2) := by decide +kernel
theorem dL_law_678 : decode cL_law 678 = .ok (.aload 4, 2) := by decide +kernel
theorem dL_law_680 : decode cL_law 680 = .ok (.invokestatic 117, 3) := by decide +kernel
theorem dL_law_683 : decode cL_law 683 = .ok (.iadd, 1) := by decide +kernel
theorem dL_law_684 : decode cL_law 684 = .ok (.istore 15, 2) := by decide +kernel
theorem dL_law_686 : decode cL_law 686 = .ok (.iinc 17 1, 3) := by decide +kernel
theorem dL_law_689 : decode cL_law 689 = .ok (.goto (-29), 3) := by decide +kernel
theorem dL_law_692 : decode cL_law 692 = .ok (.iinc 16 1, 3) := by decide +kernel
theorem dL_law_695 : decode cL_law 695 = .ok (.goto (-46), 3) := by decide +kernel
theorem dL_law_698 : decode cL_law 698 = .ok (.aload_n 1, 1) := by decide +kernel
theorem dL_law_699 : decode cL_law 699 = .ok (.invokevirtual 119, 3) := by decide +kernel
theorem dL_law_702 : decode cL_law 702 = .ok (.iload 15, 2) := by decide +kernel
theorem dL_law_704 : decode cL_law 704 = .ok (.if_icmp .eq 5, 3) := by decide +kernel
theorem dL_law_707 : decode cL_law 707 = .ok (.iconst 0, 1) := by decide +kernel
theorem dL_law_708 : decode cL_law 708 = .ok (.ireturn, 1) := by decide +kernel
theorem dL_law_709 : decode cL_law 709 = .ok (.goto 182, 3) := by decide +kernel
theorem dL_law_712 : decode cL_law 712 = .ok (.iload 12, 2) := by decide +kernel
theorem dL_law_714 : decode cL_law 714 = .ok (.bipush 7, 2) := by decide +kernel
theorem dL_law_716 : decode cL_law 716 = .ok (.if_icmp .ne 91, 3) := by decide +kernel
theorem dL_law_719 : decode cL_law 719 = .ok (.aload_n 1, 1) := by decide +kernel
theorem dL_law_720 : decode cL_law 720 = .ok (.iload 14, 2) := by decide +kernel
theorem dL_law_722 : decode cL_law 722 = .ok (.invokevirtual 123, 3) := by decide +kernel
theorem dL_law_725 : decode cL_law 725 = .ok (.istore 15, 2) := by decide +kernel
theorem dL_law_727 : decode cL_law 727 = .ok (.iload 14, 2) := by decide +kernel
theorem dL_law_729 : decode cL_law 729 = .ok (.ifCond .ne 12, 3) := by decide +kernel
theorem dL_law_732 : decode cL_law 732 = .ok (.iload 15, 2) := by decide +kernel
theorem dL_law_734 : decode cL_law 734 = .ok (.ldc 42, 2) := by decide +kernel
theorem dL_law_736 : decode cL_law 736 = .ok (.if_icmp .eq 182, 3) := by decide +kernel
theorem dL_law_739 : decode cL_law 739 = .ok (.iconst 0, 1) := by decide +kernel
theorem dL_law_740 : decode cL_law 740 = .ok (.ireturn, 1) := by decide +kernel
theorem dL_law_741 : decode cL_law 741 = .ok (.iconst 3, 1) := by decide +kernel
theorem dL_law_742 : decode cL_law 742 = .ok (.iload 14, 2) := by decide +kernel
theorem dL_law_744 : decode cL_law 744 = .ok (.imul, 1) := by decide +kernel
theorem dL_law_745 : decode cL_law 745 = .ok (.istore 16, 2) := by decide +kernel
theorem dL_law_747 : decode cL_law 747 = .ok (.iload 16, 2) := by decide +kernel
theorem dL_law_749 : decode cL_law 749 = .ok (.iconst 3, 1) := by decide +kernel
theorem dL_law_750 : decode cL_law 750 = .ok (.iadd, 1) := by decide +kernel
theorem dL_law_751 : decode cL_law 751 = .ok (.iconst 3, 1) := by decide +kernel
theorem dL_law_752 : decode cL_law 752 = .ok (.aload_n 2, 1) := by decide +kernel
theorem dL_law_753 : decode cL_law 753 = .ok (.iconst 0, 1) := by decide +kernel
theorem dL_law_754 : decode cL_law 754 = .ok (.iaload, 1) := by decide +kernel
theorem dL_law_755 : decode cL_law 755 = .ok (.imul, 1) := by decide +kernel
theorem dL_law_756 : decode cL_law 756 = .ok (.if_icmp .ge 19, 3) := by decide +kernel
theorem dL_law_759 : decode cL_law 759 = .ok (.aload_n 3, 1) := by decide +kernel
theorem dL_law_760 : decode cL_law 760 = .ok (.iload 16, 2) := by decide +kernel
theorem dL_law_762 : decode cL_law 762 = .ok (.aload_n 3, 1) := by decide +kernel
theorem dL_law_763 : decode cL_law 763 = .ok (.iload 16, 2) := by decide +kernel
theorem dL_law_765 : decode cL_law 765 = .ok (.iconst 3, 1) := by decide +kernel
theorem dL_law_766 : decode cL_law 766 = .ok (.iadd, 1) := by decide +kernel
theorem dL_law_767 : decode cL_law 767 = .ok (.iaload, 1) := by decide +kernel
theorem dL_law_768 : decode cL_law 768 = .ok (.iastore, 1) := by decide +kernel
theorem dL_law_769 : decode cL_law 769 = .ok (.iinc 16 1, 3) := by decide +kernel
theorem dL_law_772 : decode cL_law 772 = .ok (.goto (-25), 3) := by decide +kernel
theorem dL_law_775 : decode cL_law 775 = .ok (.aload_n 2, 1) := by decide +kernel
theorem dL_law_776 : decode cL_law 776 = .ok (.iconst 0, 1) := by decide +kernel
theorem dL_law_777 : decode cL_law 777 = .ok (.dup2, 1) := by decide +kernel
theorem dL_law_778 : decode cL_law 778 = .ok (.iaload, 1) := by decide +kernel
theorem dL_law_779 : decode cL_law 779 = .ok (.iconst 1, 1) := by decide +kernel
theorem dL_law_780 : decode cL_law 780 = .ok (.isub, 1) := by decide +kernel
theorem dL_law_781 : decode cL_law 781 = .ok (.iastore, 1) := by decide +kernel
theorem dL_law_782 : decode cL_law 782 = .ok (.iload 15, 2) := by decide +kernel
theorem dL_law_784 : decode cL_law 784 = .ok (.aload_n 2, 1) := by decide +kernel
theorem dL_law_785 : decode cL_law 785 = .ok (.aload_n 3, 1) := by decide +kernel
theorem dL_law_786 : decode cL_law 786 = .ok (.aload 5, 2) := by decide +kernel
theorem dL_law_788 : decode cL_law 788 = .ok (.aload 6, 2) := by decide +kernel
theorem dL_law_790 : decode cL_law 790 = .ok (.aload 7, 2) := by decide +kernel
theorem dL_law_792 : decode cL_law 792 = .ok (.aload 8, 2) := by decide +kernel
theorem dL_law_794 : decode cL_law 794 = .ok (.aload 9, 2) := by decide +kernel
theorem dL_law_796 : decode cL_law 796 = .ok (.invokestatic 125, 3) := by decide +kernel
theorem dL_law_799 : decode cL_law 799 = .ok (.if_icmp .eq 5, 3) := by decide +kernel
theorem dL_law_802 : decode cL_law 802 = .ok (.iconst 0, 1) := by decide +kernel
theorem dL_law_803 : decode cL_law 803 = .ok (.ireturn, 1) := by decide +kernel
theorem dL_law_804 : decode cL_law 804 = .ok (.goto 87, 3) := by decide +kernel
theorem dL_law_807 : decode cL_law 807 = .ok (.aload_n 1, 1) := by decide +kernel
theorem dL_law_808 : decode cL_law 808 = .ok (.iload 14, 2) := by decide +kernel
theorem dL_law_810 : decode cL_law 810 = .ok (.invokevirtual 129, 3) := by decide +kernel
theorem dL_law_813 : decode cL_law 813 = .ok (.istore 15, 2) := by decide +kernel
theorem dL_law_815 : decode cL_law 815 = .ok (.iconst 0, 1) := by decide +kernel
theorem dL_law_816 : decode cL_law 816 = .ok (.istore 16, 2) := by decide +kernel
theorem dL_law_818 : decode cL_law 818 = .ok (.iload 16, 2) := by decide +kernel
theorem dL_law_820 : decode cL_law 820 = .ok (.iconst 3, 1) := by decide +kernel
theorem dL_law_821 : decode cL_law 821 = .ok (.iload 14, 2) := by decide +kernel
theorem dL_law_823 : decode cL_law 823 = .ok (.imul, 1) := by decide +kernel
theorem dL_law_824 : decode cL_law 824 = .ok (.iadd, 1) := by decide +kernel
theorem dL_law_825 : decode cL_law 825 = .ok (.iconst 3, 1) := by decide +kernel
theorem dL_law_826 : decode cL_law 826 = .ok (.aload_n 2, 1) := by decide +kernel
theorem dL_law_827 : decode cL_law 827 = .ok (.iconst 0, 1) := by decide +kernel
theorem dL_law_828 : decode cL_law 828 = .ok (.iaload, 1) := by decide +kernel
theorem dL_law_829 : decode cL_law 829 = .ok (.imul, 1) := by decide +kernel
theorem dL_law_830 : decode cL_law 830 = .ok (.if_icmp .ge 22, 3) := by decide +kernel
theorem dL_law_833 : decode cL_law 833 = .ok (.aload_n 3, 1) := by decide +kernel
theorem dL_law_834 : decode cL_law 834 = .ok (.iload 16, 2) := by decide +kernel
theorem dL_law_836 : decode cL_law 836 = .ok (.aload_n 3, 1) := by decide +kernel
theorem dL_law_837 : decode cL_law 837 = .ok (.iload 16, 2) := by decide +kernel
theorem dL_law_839 : decode cL_law 839 = .ok (.iconst 3, 1) := by decide +kernel
theorem dL_law_840 : decode cL_law 840 = .ok (.iload 14, 2) := by decide +kernel
theorem dL_law_842 : decode cL_law 842 = .ok (.imul, 1) := by decide +kernel
theorem dL_law_843 : decode cL_law 843 = .ok (.iadd, 1) := by decide +kernel
theorem dL_law_844 : decode cL_law 844 = .ok (.iaload, 1) := by decide +kernel
theorem dL_law_845 : decode cL_law 845 = .ok (.iastore, 1) := by decide +kernel
theorem dL_law_846 : decode cL_law 846 = .ok (.iinc 16 1, 3) := by decide +kernel
theorem dL_law_849 : decode cL_law 849 = .ok (.goto (-31), 3) := by decide +kernel
theorem dL_law_852 : decode cL_law 852 = .ok (.aload_n 2, 1) := by decide +kernel
theorem dL_law_853 : decode cL_law 853 = .ok (.iconst 0, 1) := by decide +kernel
theorem dL_law_854 : decode cL_law 854 = .ok (.dup2, 1) := by decide +kernel
theorem dL_law_855 : decode cL_law 855 = .ok (.iaload, 1) := by decide +kernel
theorem dL_law_856 : decode cL_law 856 = .ok (.iload 14, 2) := by decide +kernel
theorem dL_law_858 : decode cL_law 858 = .ok (.isub, 1) := by decide +kernel
theorem dL_law_859 : decode cL_law 859 = .ok (.iastore, 1) := by decide +kernel
theorem dL_law_860 : decode cL_law 860 = .ok (.iload 15, 2) := by decide +kernel
theorem dL_law_862 : decode cL_law 862 = .ok (.iload 14, 2) := by decide +kernel
theorem dL_law_864 : decode cL_law 864 = .ok (.ifCond .ne 7, 3) := by decide +kernel
theorem dL_law_867 : decode cL_law 867 = .ok (.iconst 0, 1) := by decide +kernel
theorem dL_law_868 : decode cL_law 868 = .ok (.goto 18, 3) := by decide +kernel
theorem dL_law_871 : decode cL_law 871 = .ok (.aload_n 2, 1) := by decide +kernel
theorem dL_law_872 : decode cL_law 872 = .ok (.aload_n 3, 1) := by decide +kernel
theorem dL_law_873 : decode cL_law 873 = .ok (.aload 5, 2) := by decide +kernel
theorem dL_law_875 : decode cL_law 875 = .ok (.aload 6, 2) := by decide +kernel
theorem dL_law_877 : decode cL_law 877 = .ok (.aload 7, 2) := by decide +kernel
theorem dL_law_879 : decode cL_law 879 = .ok (.aload 8, 2) := by decide +kernel
theorem dL_law_881 : decode cL_law 881 = .ok (.aload 9, 2) := by decide +kernel
theorem dL_law_883 : decode cL_law 883 = .ok (.invokestatic 125, 3) := by decide +kernel
theorem dL_law_886 : decode cL_law 886 = .ok (.if_icmp .eq 5, 3) := by decide +kernel
theorem dL_law_889 : decode cL_law 889 = .ok (.iconst 0, 1) := by decide +kernel
theorem dL_law_890 : decode cL_law 890 = .ok (.ireturn, 1) := by decide +kernel
theorem dL_law_891 : decode cL_law 891 = .ok (.aload_n 1, 1) := by decide +kernel
theorem dL_law_892 : decode cL_law 892 = .ok (.iload 11, 2) := by decide +kernel
theorem dL_law_894 : decode cL_law 894 = .ok (.iconst 2, 1) := by decide +kernel
theorem dL_law_895 : decode cL_law 895 = .ok (.ishr, 1) := by decide +kernel
theorem dL_law_896 : decode cL_law 896 = .ok (.aload_n 2, 1) := by decide +kernel
theorem dL_law_897 : decode cL_law 897 = .ok (.aload_n 3, 1) := by decide +kernel
theorem dL_law_898 : decode cL_law 898 = .ok (.aload 5, 2) := by decide +kernel
theorem dL_law_900 : decode cL_law 900 = .ok (.aload 6, 2) := by decide +kernel
theorem dL_law_902 : decode cL_law 902 = .ok (.aload 7, 2) := by decide +kernel
theorem dL_law_904 : decode cL_law 904 = .ok (.aload 4, 2) := by decide +kernel
theorem dL_law_906 : decode cL_law 906 = .ok (.aload 8, 2) := by decide +kernel
theorem dL_law_908 : decode cL_law 908 = .ok (.aload 9, 2) := by decide +kernel
theorem dL_law_910 : decode cL_law 910 = .ok (.invokestatic 132, 3) := by decide +kernel
theorem dL_law_913 : decode cL_law 913 = .ok (.ifCond .ne 5, 3) := by decide +kernel
theorem dL_law_916 : decode cL_law 916 = .ok (.iconst 0, 1) := by decide +kernel
theorem dL_law_917 : decode cL_law 917 = .ok (.ireturn, 1) := by decide +kernel
theorem dL_law_918 : decode cL_law 918 = .ok (.iinc 10 1, 3) := by decide +kernel
theorem dL_law_921 : decode cL_law 921 = .ok (.goto (-694), 3) := by decide +kernel
theorem dL_law_924 : decode cL_law 924 = .ok (.iconst 1, 1) := by decide +kernel
theorem dL_law_925 : decode cL_law 925 = .ok (.ireturn, 1) := by decide +kernel
abbrev vwCl : List vw_C := [(RX0, TX0, 1), (RX1, TX1, 1), (RX2, TX2, 2), (RX3, TX3, 4), (RX4, TX4, 7), (RX5, TX5, 5), (RX6, TX6, 4), (RX7, TX7, 5), (RX8, TX8, 8)]
