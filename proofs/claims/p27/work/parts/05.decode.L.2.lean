theorem dL_law_325 : decode cL_law 325 = .ok (.istore 19, 2) := by decide +kernel
theorem dL_law_327 : decode cL_law 327 = .ok (.aload 7, 2) := by decide +kernel
theorem dL_law_329 : decode cL_law 329 = .ok (.aload 9, 2) := by decide +kernel
theorem dL_law_331 : decode cL_law 331 = .ok (.iload 14, 2) := by decide +kernel
theorem dL_law_333 : decode cL_law 333 = .ok (.iaload, 1) := by decide +kernel
theorem dL_law_334 : decode cL_law 334 = .ok (.dup2, 1) := by decide +kernel
theorem dL_law_335 : decode cL_law 335 = .ok (.iaload, 1) := by decide +kernel
theorem dL_law_336 : decode cL_law 336 = .ok (.iconst 1, 1) := by decide +kernel
theorem dL_law_337 : decode cL_law 337 = .ok (.iadd, 1) := by decide +kernel
theorem dL_law_338 : decode cL_law 338 = .ok (.iastore, 1) := by decide +kernel
theorem dL_law_339 : decode cL_law 339 = .ok (.aload_n 1, 1) := by decide +kernel
theorem dL_law_340 : decode cL_law 340 = .ok (.aload 9, 2) := by decide +kernel
theorem dL_law_342 : decode cL_law 342 = .ok (.iload 14, 2) := by decide +kernel
theorem dL_law_344 : decode cL_law 344 = .ok (.iaload, 1) := by decide +kernel
theorem dL_law_345 : decode cL_law 345 = .ok (.iload 18, 2) := by decide +kernel
theorem dL_law_347 : decode cL_law 347 = .ok (.invokevirtual 67, 3) := by decide +kernel
theorem dL_law_350 : decode cL_law 350 = .ok (.iload 14, 2) := by decide +kernel
theorem dL_law_352 : decode cL_law 352 = .ok (.if_icmp .eq 5, 3) := by decide +kernel
theorem dL_law_355 : decode cL_law 355 = .ok (.iconst 0, 1) := by decide +kernel
theorem dL_law_356 : decode cL_law 356 = .ok (.ireturn, 1) := by decide +kernel
theorem dL_law_357 : decode cL_law 357 = .ok (.iinc 14 1, 3) := by decide +kernel
theorem dL_law_360 : decode cL_law 360 = .ok (.goto 371, 3) := by decide +kernel
theorem dL_law_363 : decode cL_law 363 = .ok (.aload 10, 2) := by decide +kernel
theorem dL_law_365 : decode cL_law 365 = .ok (.iload 17, 2) := by decide +kernel
theorem dL_law_367 : decode cL_law 367 = .ok (.iaload, 1) := by decide +kernel
theorem dL_law_368 : decode cL_law 368 = .ok (.bipush (-2), 2) := by decide +kernel
theorem dL_law_370 : decode cL_law 370 = .ok (.if_icmp .ne 6, 3) := by decide +kernel
theorem dL_law_373 : decode cL_law 373 = .ok (.goto 377, 3) := by decide +kernel
theorem dL_law_376 : decode cL_law 376 = .ok (.iload 16, 2) := by decide +kernel
theorem dL_law_378 : decode cL_law 378 = .ok (.iconst 3, 1) := by decide +kernel
theorem dL_law_379 : decode cL_law 379 = .ok (.iand, 1) := by decide +kernel
theorem dL_law_380 : decode cL_law 380 = .ok (.iconst 2, 1) := by decide +kernel
theorem dL_law_381 : decode cL_law 381 = .ok (.if_icmp .ne 7, 3) := by decide +kernel
theorem dL_law_384 : decode cL_law 384 = .ok (.iconst 1, 1) := by decide +kernel
theorem dL_law_385 : decode cL_law 385 = .ok (.goto 4, 3) := by decide +kernel
theorem dL_law_388 : decode cL_law 388 = .ok (.iconst 0, 1) := by decide +kernel
theorem dL_law_389 : decode cL_law 389 = .ok (.istore 21, 2) := by decide +kernel
theorem dL_law_391 : decode cL_law 391 = .ok (.aload 10, 2) := by decide +kernel
theorem dL_law_393 : decode cL_law 393 = .ok (.iload 17, 2) := by decide +kernel
theorem dL_law_395 : decode cL_law 395 = .ok (.iaload, 1) := by decide +kernel
theorem dL_law_396 : decode cL_law 396 = .ok (.ifCond .lt 48, 3) := by decide +kernel
theorem dL_law_399 : decode cL_law 399 = .ok (.iload 21, 2) := by decide +kernel
theorem dL_law_401 : decode cL_law 401 = .ok (.ifCond .ne 16, 3) := by decide +kernel
theorem dL_law_404 : decode cL_law 404 = .ok (.iload 18, 2) := by decide +kernel
theorem dL_law_406 : decode cL_law 406 = .ok (.aload 10, 2) := by decide +kernel
theorem dL_law_408 : decode cL_law 408 = .ok (.iload 17, 2) := by decide +kernel
theorem dL_law_410 : decode cL_law 410 = .ok (.iaload, 1) := by decide +kernel
theorem dL_law_411 : decode cL_law 411 = .ok (.ishr, 1) := by decide +kernel
theorem dL_law_412 : decode cL_law 412 = .ok (.iconst 1, 1) := by decide +kernel
theorem dL_law_413 : decode cL_law 413 = .ok (.iand, 1) := by decide +kernel
theorem dL_law_414 : decode cL_law 414 = .ok (.ifCond .ne 30, 3) := by decide +kernel
theorem dL_law_417 : decode cL_law 417 = .ok (.aload 5, 2) := by decide +kernel
theorem dL_law_419 : decode cL_law 419 = .ok (.aload 10, 2) := by decide +kernel
theorem dL_law_421 : decode cL_law 421 = .ok (.iload 17, 2) := by decide +kernel
theorem dL_law_423 : decode cL_law 423 = .ok (.iaload, 1) := by decide +kernel
theorem dL_law_424 : decode cL_law 424 = .ok (.iconst (-1), 1) := by decide +kernel
theorem dL_law_425 : decode cL_law 425 = .ok (.iastore, 1) := by decide +kernel
theorem dL_law_426 : decode cL_law 426 = .ok (.aload 10, 2) := by decide +kernel
theorem dL_law_428 : decode cL_law 428 = .ok (.iload 17, 2) := by decide +kernel
theorem dL_law_430 : decode cL_law 430 = .ok (.iconst (-1), 1) := by decide +kernel
theorem dL_law_431 : decode cL_law 431 = .ok (.iastore, 1) := by decide +kernel
theorem dL_law_432 : decode cL_law 432 = .ok (.aload 7, 2) := by decide +kernel
theorem dL_law_434 : decode cL_law 434 = .ok (.aload 9, 2) := by decide +kernel
theorem dL_law_436 : decode cL_law 436 = .ok (.iload 17, 2) := by decide +kernel
theorem dL_law_438 : decode cL_law 438 = .ok (.iaload, 1) := by decide +kernel
theorem dL_law_439 : decode cL_law 439 = .ok (.dup2, 1) := by decide +kernel
theorem dL_law_440 : decode cL_law 440 = .ok (.iaload, 1) := by decide +kernel
theorem dL_law_441 : decode cL_law 441 = .ok (.iconst 1, 1) := by decide +kernel
theorem dL_law_442 : decode cL_law 442 = .ok (.isub, 1) := by decide +kernel
theorem dL_law_443 : decode cL_law 443 = .ok (.iastore, 1) := by decide +kernel
theorem dL_law_444 : decode cL_law 444 = .ok (.iload 21, 2) := by decide +kernel
theorem dL_law_446 : decode cL_law 446 = .ok (.ifCond .eq 13, 3) := by decide +kernel
theorem dL_law_449 : decode cL_law 449 = .ok (.aload 10, 2) := by decide +kernel
theorem dL_law_451 : decode cL_law 451 = .ok (.iload 17, 2) := by decide +kernel
theorem dL_law_453 : decode cL_law 453 = .ok (.bipush (-2), 2) := by decide +kernel
theorem dL_law_455 : decode cL_law 455 = .ok (.iastore, 1) := by decide +kernel
theorem dL_law_456 : decode cL_law 456 = .ok (.goto 10, 3) := by decide +kernel
theorem dL_law_459 : decode cL_law 459 = .ok (.aload 8, 2) := by decide +kernel
theorem dL_law_461 : decode cL_law 461 = .ok (.iload 17, 2) := by decide +kernel
theorem dL_law_463 : decode cL_law 463 = .ok (.iload 18, 2) := by decide +kernel
theorem dL_law_465 : decode cL_law 465 = .ok (.iastore, 1) := by decide +kernel
theorem dL_law_466 : decode cL_law 466 = .ok (.iconst 0, 1) := by decide +kernel
theorem dL_law_467 : decode cL_law 467 = .ok (.istore 22, 2) := by decide +kernel
theorem dL_law_469 : decode cL_law 469 = .ok (.bipush 16, 2) := by decide +kernel
theorem dL_law_471 : decode cL_law 471 = .ok (.newarray .boolean, 2) := by decide +kernel
theorem dL_law_473 : decode cL_law 473 = .ok (.astore 23, 2) := by decide +kernel
theorem dL_law_475 : decode cL_law 475 = .ok (.iconst 0, 1) := by decide +kernel
theorem dL_law_476 : decode cL_law 476 = .ok (.istore 24, 2) := by decide +kernel
theorem dL_law_478 : decode cL_law 478 = .ok (.iload 24, 2) := by decide +kernel
theorem dL_law_480 : decode cL_law 480 = .ok (.iload 14, 2) := by decide +kernel
theorem dL_law_482 : decode cL_law 482 = .ok (.if_icmp .ge 204, 3) := by decide +kernel
theorem dL_law_485 : decode cL_law 485 = .ok (.iconst (-1), 1) := by decide +kernel
theorem dL_law_486 : decode cL_law 486 = .ok (.istore 25, 2) := by decide +kernel
theorem dL_law_488 : decode cL_law 488 = .ok (.iconst 0, 1) := by decide +kernel
theorem dL_law_489 : decode cL_law 489 = .ok (.istore 26, 2) := by decide +kernel
theorem dL_law_491 : decode cL_law 491 = .ok (.iload 26, 2) := by decide +kernel
theorem dL_law_493 : decode cL_law 493 = .ok (.iconst 4, 1) := by decide +kernel
theorem dL_law_494 : decode cL_law 494 = .ok (.if_icmp .ge 99, 3) := by decide +kernel
theorem dL_law_497 : decode cL_law 497 = .ok (.iconst 0, 1) := by decide +kernel
theorem dL_law_498 : decode cL_law 498 = .ok (.istore 27, 2) := by decide +kernel
theorem dL_law_500 : decode cL_law 500 = .ok (.iload 27, 2) := by decide +kernel
theorem dL_law_502 : decode cL_law 502 = .ok (.iload 14, 2) := by decide +kernel
theorem dL_law_504 : decode cL_law 504 = .ok (.if_icmp .ge 36, 3) := by decide +kernel
theorem dL_law_507 : decode cL_law 507 = .ok (.aload 9, 2) := by decide +kernel
theorem dL_law_509 : decode cL_law 509 = .ok (.iload 27, 2) := by decide +kernel
theorem dL_law_511 : decode cL_law 511 = .ok (.iaload, 1) := by decide +kernel
theorem dL_law_512 : decode cL_law 512 = .ok (.iload 26, 2) := by decide +kernel
theorem dL_law_514 : decode cL_law 514 = .ok (.if_icmp .ne 20, 3) := by decide +kernel
theorem dL_law_517 : decode cL_law 517 = .ok (.aload 10, 2) := by decide +kernel
theorem dL_law_519 : decode cL_law 519 = .ok (.iload 27, 2) := by decide +kernel
theorem dL_law_521 : decode cL_law 521 = .ok (.iaload, 1) := by decide +kernel
theorem dL_law_522 : decode cL_law 522 = .ok (.iconst (-1), 1) := by decide +kernel
theorem dL_law_523 : decode cL_law 523 = .ok (.if_icmp .ne 11, 3) := by decide +kernel
theorem dL_law_526 : decode cL_law 526 = .ok (.aload 23, 2) := by decide +kernel
theorem dL_law_528 : decode cL_law 528 = .ok (.iload 27, 2) := by decide +kernel
theorem dL_law_530 : decode cL_law 530 = .ok (.baload, 1) := by decide +kernel
theorem dL_law_531 : decode cL_law 531 = .ok (.ifCond .eq 9, 3) := by decide +kernel
theorem dL_law_534 : decode cL_law 534 = .ok (.iinc 27 1, 3) := by decide +kernel
theorem dL_law_537 : decode cL_law 537 = .ok (.goto (-37), 3) := by decide +kernel
theorem dL_law_540 : decode cL_law 540 = .ok (.iload 27, 2) := by decide +kernel
theorem dL_law_542 : decode cL_law 542 = .ok (.iload 14, 2) := by decide +kernel
theorem dL_law_544 : decode cL_law 544 = .ok (.if_icmp .ge 43, 3) := by decide +kernel
theorem dL_law_547 : decode cL_law 547 = .ok (.iload 25, 2) := by decide +kernel
theorem dL_law_549 : decode cL_law 549 = .ok (.ifCond .lt 34, 3) := by decide +kernel
theorem dL_law_552 : decode cL_law 552 = .ok (.aload 7, 2) := by decide +kernel
theorem dL_law_554 : decode cL_law 554 = .ok (.iload 26, 2) := by decide +kernel
theorem dL_law_556 : decode cL_law 556 = .ok (.iaload, 1) := by decide +kernel
theorem dL_law_557 : decode cL_law 557 = .ok (.aload 6, 2) := by decide +kernel
theorem dL_law_559 : decode cL_law 559 = .ok (.aload 9, 2) := by decide +kernel
theorem dL_law_561 : decode cL_law 561 = .ok (.iload 25, 2) := by decide +kernel
theorem dL_law_563 : decode cL_law 563 = .ok (.iaload, 1) := by decide +kernel
theorem dL_law_564 : decode cL_law 564 = .ok (.iaload, 1) := by decide +kernel
theorem dL_law_565 : decode cL_law 565 = .ok (.imul, 1) := by decide +kernel
theorem dL_law_566 : decode cL_law 566 = .ok (.aload 7, 2) := by decide +kernel
theorem dL_law_568 : decode cL_law 568 = .ok (.aload 9, 2) := by decide +kernel
theorem dL_law_570 : decode cL_law 570 = .ok (.iload 25, 2) := by decide +kernel
theorem dL_law_572 : decode cL_law 572 = .ok (.iaload, 1) := by decide +kernel
theorem dL_law_573 : decode cL_law 573 = .ok (.iaload, 1) := by decide +kernel
theorem dL_law_574 : decode cL_law 574 = .ok (.aload 6, 2) := by decide +kernel
theorem dL_law_576 : decode cL_law 576 = .ok (.iload 26, 2) := by decide +kernel
theorem dL_law_578 : decode cL_law 578 = .ok (.iaload, 1) := by decide +kernel
theorem dL_law_579 : decode cL_law 579 = .ok (.imul, 1) := by decide +kernel
theorem dL_law_580 : decode cL_law 580 = .ok (.if_icmp .ge 7, 3) := by decide +kernel
theorem dL_law_583 : decode cL_law 583 = .ok (.iload 27, 2) := by decide +kernel
theorem dL_law_585 : decode cL_law 585 = .ok (.istore 25, 2) := by decide +kernel
theorem dL_law_587 : decode cL_law 587 = .ok (.iinc 26 1, 3) := by decide +kernel
theorem dL_law_590 : decode cL_law 590 = .ok (.goto (-99), 3) := by decide +kernel
theorem dL_law_593 : decode cL_law 593 = .ok (.iload 25, 2) := by decide +kernel
theorem dL_law_595 : decode cL_law 595 = .ok (.ifCond .ge 6, 3) := by decide +kernel
theorem dL_law_598 : decode cL_law 598 = .ok (.goto 88, 3) := by decide +kernel
theorem dL_law_601 : decode cL_law 601 = .ok (.aload 23, 2) := by decide +kernel
theorem dL_law_603 : decode cL_law 603 = .ok (.iload 25, 2) := by decide +kernel
theorem dL_law_605 : decode cL_law 605 = .ok (.iconst 1, 1) := by decide +kernel
theorem dL_law_606 : decode cL_law 606 = .ok (.bastore, 1) := by decide +kernel
theorem dL_law_607 : decode cL_law 607 = .ok (.iload_n 2, 1) := by decide +kernel
theorem dL_law_608 : decode cL_law 608 = .ok (.aload 8, 2) := by decide +kernel
theorem dL_law_610 : decode cL_law 610 = .ok (.iload 25, 2) := by decide +kernel
theorem dL_law_612 : decode cL_law 612 = .ok (.iaload, 1) := by decide +kernel
theorem dL_law_613 : decode cL_law 613 = .ok (.aload 5, 2) := by decide +kernel
theorem dL_law_615 : decode cL_law 615 = .ok (.aload 11, 2) := by decide +kernel
theorem dL_law_617 : decode cL_law 617 = .ok (.iload 4, 2) := by decide +kernel
theorem dL_law_619 : decode cL_law 619 = .ok (.aload 8, 2) := by decide +kernel
theorem dL_law_621 : decode cL_law 621 = .ok (.aload 12, 2) := by decide +kernel
theorem dL_law_623 : decode cL_law 623 = .ok (.invokestatic 59, 3) := by decide +kernel
theorem dL_law_626 : decode cL_law 626 = .ok (.istore 26, 2) := by decide +kernel
theorem dL_law_628 : decode cL_law 628 = .ok (.iload 26, 2) := by decide +kernel
theorem dL_law_630 : decode cL_law 630 = .ok (.ifCond .eq 50, 3) := by decide +kernel
theorem dL_law_633 : decode cL_law 633 = .ok (.iload 26, 2) := by decide +kernel
theorem dL_law_635 : decode cL_law 635 = .ok (.iconst 1, 1) := by decide +kernel
theorem dL_law_636 : decode cL_law 636 = .ok (.isub, 1) := by decide +kernel
theorem dL_law_637 : decode cL_law 637 = .ok (.iload_n 3, 1) := by decide +kernel
theorem dL_law_638 : decode cL_law 638 = .ok (.if_icmp .le 6, 3) := by decide +kernel
theorem dL_law_641 : decode cL_law 641 = .ok (.goto 39, 3) := by decide +kernel
theorem dL_law_644 : decode cL_law 644 = .ok (.iload 25, 2) := by decide +kernel
theorem dL_law_646 : decode cL_law 646 = .ok (.iload 26, 2) := by decide +kernel
theorem dL_law_648 : decode cL_law 648 = .ok (.aload 12, 2) := by decide +kernel
theorem dL_law_650 : decode cL_law 650 = .ok (.aload 5, 2) := by decide +kernel
theorem dL_law_652 : decode cL_law 652 = .ok (.aload 10, 2) := by decide +kernel
theorem dL_law_654 : decode cL_law 654 = .ok (.aload 11, 2) := by decide +kernel
theorem dL_law_656 : decode cL_law 656 = .ok (.aload 13, 2) := by decide +kernel
theorem dL_law_658 : decode cL_law 658 = .ok (.iload 19, 2) := by decide +kernel
theorem dL_law_660 : decode cL_law 660 = .ok (.invokestatic 63, 3) := by decide +kernel
theorem dL_law_663 : decode cL_law 663 = .ok (.istore 19, 2) := by decide +kernel
theorem dL_law_665 : decode cL_law 665 = .ok (.aload 7, 2) := by decide +kernel
theorem dL_law_667 : decode cL_law 667 = .ok (.aload 9, 2) := by decide +kernel
theorem dL_law_669 : decode cL_law 669 = .ok (.iload 25, 2) := by decide +kernel
theorem dL_law_671 : decode cL_law 671 = .ok (.iaload, 1) := by decide +kernel
theorem dL_law_672 : decode cL_law 672 = .ok (.dup2, 1) := by decide +kernel
theorem dL_law_673 : decode cL_law 673 = .ok (.iaload, 1) := by decide +kernel
theorem dL_law_674 : decode cL_law 674 = .ok (.iconst 1, 1) := by decide +kernel
theorem dL_law_675 : decode cL_law 675 = .ok (.iadd, 1) := by decide +kernel
theorem dL_law_676 : decode cL_law 676 = .ok (.iastore, 1) := by decide +kernel
theorem dL_law_677 : decode cL_law 677 = .ok (.iinc 22 1, 3) := by decide +kernel
theorem dL_law_680 : decode cL_law 680 = .ok (.iinc 24 1, 3) := by decide +kernel
theorem dL_law_683 : decode cL_law 683 = .ok (.goto (-205), 3) := by decide +kernel
theorem dL_law_686 : decode cL_law 686 = .ok (.iload 21, 2) := by decide +kernel
theorem dL_law_688 : decode cL_law 688 = .ok (.ifCond .eq 17, 3) := by decide +kernel
theorem dL_law_691 : decode cL_law 691 = .ok (.aload_n 1, 1) := by decide +kernel
theorem dL_law_692 : decode cL_law 692 = .ok (.iload 17, 2) := by decide +kernel
theorem dL_law_694 : decode cL_law 694 = .ok (.invokevirtual 70, 3) := by decide +kernel
theorem dL_law_697 : decode cL_law 697 = .ok (.iload 22, 2) := by decide +kernel
theorem dL_law_699 : decode cL_law 699 = .ok (.if_icmp .eq 32, 3) := by decide +kernel
theorem dL_law_702 : decode cL_law 702 = .ok (.goto 27, 3) := by decide +kernel
theorem dL_law_705 : decode cL_law 705 = .ok (.aload_n 1, 1) := by decide +kernel
theorem dL_law_706 : decode cL_law 706 = .ok (.iload 17, 2) := by decide +kernel
theorem dL_law_708 : decode cL_law 708 = .ok (.iload 18, 2) := by decide +kernel
theorem dL_law_710 : decode cL_law 710 = .ok (.invokevirtual 73, 3) := by decide +kernel
theorem dL_law_713 : decode cL_law 713 = .ok (.aload 10, 2) := by decide +kernel
theorem dL_law_715 : decode cL_law 715 = .ok (.iload 17, 2) := by decide +kernel
theorem dL_law_717 : decode cL_law 717 = .ok (.iaload, 1) := by decide +kernel
theorem dL_law_718 : decode cL_law 718 = .ok (.ifCond .lt 7, 3) := by decide +kernel
theorem dL_law_721 : decode cL_law 721 = .ok (.iconst 1, 1) := by decide +kernel
theorem dL_law_722 : decode cL_law 722 = .ok (.goto 4, 3) := by decide +kernel
theorem dL_law_725 : decode cL_law 725 = .ok (.iconst 0, 1) := by decide +kernel
theorem dL_law_726 : decode cL_law 726 = .ok (.if_icmp .eq 5, 3) := by decide +kernel
theorem dL_law_729 : decode cL_law 729 = .ok (.iconst 0, 1) := by decide +kernel
theorem dL_law_730 : decode cL_law 730 = .ok (.ireturn, 1) := by decide +kernel
theorem dL_law_731 : decode cL_law 731 = .ok (.aload_n 1, 1) := by decide +kernel
theorem dL_law_732 : decode cL_law 732 = .ok (.iload 14, 2) := by decide +kernel
theorem dL_law_734 : decode cL_law 734 = .ok (.aload 10, 2) := by decide +kernel
theorem dL_law_736 : decode cL_law 736 = .ok (.aload 11, 2) := by decide +kernel
theorem dL_law_738 : decode cL_law 738 = .ok (.aload 13, 2) := by decide +kernel
theorem dL_law_740 : decode cL_law 740 = .ok (.iload 19, 2) := by decide +kernel
theorem dL_law_742 : decode cL_law 742 = .ok (.invokestatic 77, 3) := by decide +kernel
theorem dL_law_745 : decode cL_law 745 = .ok (.ifCond .ne 5, 3) := by decide +kernel
theorem dL_law_748 : decode cL_law 748 = .ok (.iconst 0, 1) := by decide +kernel
theorem dL_law_749 : decode cL_law 749 = .ok (.ireturn, 1) := by decide +kernel
theorem dL_law_750 : decode cL_law 750 = .ok (.iinc 15 1, 3) := by decide +kernel
theorem dL_law_753 : decode cL_law 753 = .ok (.goto (-582), 3) := by decide +kernel
theorem dL_law_756 : decode cL_law 756 = .ok (.aload_n 1, 1) := by decide +kernel
theorem dL_law_757 : decode cL_law 757 = .ok (.invokevirtual 81, 3) := by decide +kernel
theorem dL_law_760 : decode cL_law 760 = .ok (.iconst 4, 1) := by decide +kernel
theorem dL_law_761 : decode cL_law 761 = .ok (.if_icmp .ne 7, 3) := by decide +kernel
theorem dL_law_764 : decode cL_law 764 = .ok (.iconst 1, 1) := by decide +kernel
theorem dL_law_765 : decode cL_law 765 = .ok (.goto 4, 3) := by decide +kernel
theorem dL_law_768 : decode cL_law 768 = .ok (.iconst 0, 1) := by decide +kernel
theorem dL_law_769 : decode cL_law 769 = .ok (.ireturn, 1) := by decide +kernel
