theorem nd_La_law_381 : decode nc_La_law 381 = .ok (.invokestatic 87, 3) := by decide +kernel
theorem nd_La_law_384 : decode nc_La_law 384 = .ok (.istore 5, 2) := by decide +kernel
theorem nd_La_law_386 : decode nc_La_law 386 = .ok (.aload_n 2, 1) := by decide +kernel
theorem nd_La_law_387 : decode nc_La_law 387 = .ok (.aload_n 0, 1) := by decide +kernel
theorem nd_La_law_388 : decode nc_La_law 388 = .ok (.iload 4, 2) := by decide +kernel
theorem nd_La_law_390 : decode nc_La_law 390 = .ok (.iconst 1, 1) := by decide +kernel
theorem nd_La_law_391 : decode nc_La_law 391 = .ok (.iadd, 1) := by decide +kernel
theorem nd_La_law_392 : decode nc_La_law 392 = .ok (.iaload, 1) := by decide +kernel
theorem nd_La_law_393 : decode nc_La_law 393 = .ok (.aload_n 0, 1) := by decide +kernel
theorem nd_La_law_394 : decode nc_La_law 394 = .ok (.iload 4, 2) := by decide +kernel
theorem nd_La_law_396 : decode nc_La_law 396 = .ok (.iconst 2, 1) := by decide +kernel
theorem nd_La_law_397 : decode nc_La_law 397 = .ok (.iadd, 1) := by decide +kernel
theorem nd_La_law_398 : decode nc_La_law 398 = .ok (.iaload, 1) := by decide +kernel
theorem nd_La_law_399 : decode nc_La_law 399 = .ok (.invokevirtual 90, 3) := by decide +kernel
theorem nd_La_law_402 : decode nc_La_law 402 = .ok (.istore 6, 2) := by decide +kernel
theorem nd_La_law_404 : decode nc_La_law 404 = .ok (.aload_n 2, 1) := by decide +kernel
theorem nd_La_law_405 : decode nc_La_law 405 = .ok (.invokevirtual 73, 3) := by decide +kernel
theorem nd_La_law_408 : decode nc_La_law 408 = .ok (.iload 5, 2) := by decide +kernel
theorem nd_La_law_410 : decode nc_La_law 410 = .ok (.if_icmp .eq 5, 3) := by decide +kernel
theorem nd_La_law_413 : decode nc_La_law 413 = .ok (.iconst 0, 1) := by decide +kernel
theorem nd_La_law_414 : decode nc_La_law 414 = .ok (.ireturn, 1) := by decide +kernel
theorem nd_La_law_415 : decode nc_La_law 415 = .ok (.iload 5, 2) := by decide +kernel
theorem nd_La_law_417 : decode nc_La_law 417 = .ok (.ifCond .ne 15, 3) := by decide +kernel
theorem nd_La_law_420 : decode nc_La_law 420 = .ok (.aload_n 3, 1) := by decide +kernel
theorem nd_La_law_421 : decode nc_La_law 421 = .ok (.iconst 0, 1) := by decide +kernel
theorem nd_La_law_422 : decode nc_La_law 422 = .ok (.laload, 1) := by decide +kernel
theorem nd_La_law_423 : decode nc_La_law 423 = .ok (.iload 6, 2) := by decide +kernel
theorem nd_La_law_425 : decode nc_La_law 425 = .ok (.i2l, 1) := by decide +kernel
theorem nd_La_law_426 : decode nc_La_law 426 = .ok (.lcmp, 1) := by decide +kernel
theorem nd_La_law_427 : decode nc_La_law 427 = .ok (.ifCond .eq 5, 3) := by decide +kernel
theorem nd_La_law_430 : decode nc_La_law 430 = .ok (.iconst 0, 1) := by decide +kernel
theorem nd_La_law_431 : decode nc_La_law 431 = .ok (.ireturn, 1) := by decide +kernel
theorem nd_La_law_432 : decode nc_La_law 432 = .ok (.goto 563, 3) := by decide +kernel
theorem nd_La_law_435 : decode nc_La_law 435 = .ok (.aload_n 1, 1) := by decide +kernel
theorem nd_La_law_436 : decode nc_La_law 436 = .ok (.aload_n 0, 1) := by decide +kernel
theorem nd_La_law_437 : decode nc_La_law 437 = .ok (.iload 4, 2) := by decide +kernel
theorem nd_La_law_439 : decode nc_La_law 439 = .ok (.iconst 1, 1) := by decide +kernel
theorem nd_La_law_440 : decode nc_La_law 440 = .ok (.iadd, 1) := by decide +kernel
theorem nd_La_law_441 : decode nc_La_law 441 = .ok (.iaload, 1) := by decide +kernel
theorem nd_La_law_442 : decode nc_La_law 442 = .ok (.aload_n 0, 1) := by decide +kernel
theorem nd_La_law_443 : decode nc_La_law 443 = .ok (.iload 4, 2) := by decide +kernel
theorem nd_La_law_445 : decode nc_La_law 445 = .ok (.iconst 2, 1) := by decide +kernel
theorem nd_La_law_446 : decode nc_La_law 446 = .ok (.iadd, 1) := by decide +kernel
theorem nd_La_law_447 : decode nc_La_law 447 = .ok (.iaload, 1) := by decide +kernel
theorem nd_La_law_448 : decode nc_La_law 448 = .ok (.aload_n 0, 1) := by decide +kernel
theorem nd_La_law_449 : decode nc_La_law 449 = .ok (.iload 4, 2) := by decide +kernel
theorem nd_La_law_451 : decode nc_La_law 451 = .ok (.iconst 3, 1) := by decide +kernel
theorem nd_La_law_452 : decode nc_La_law 452 = .ok (.iadd, 1) := by decide +kernel
theorem nd_La_law_453 : decode nc_La_law 453 = .ok (.iaload, 1) := by decide +kernel
theorem nd_La_law_454 : decode nc_La_law 454 = .ok (.aload_n 3, 1) := by decide +kernel
theorem nd_La_law_455 : decode nc_La_law 455 = .ok (.invokestatic 91, 3) := by decide +kernel
theorem nd_La_law_458 : decode nc_La_law 458 = .ok (.istore 5, 2) := by decide +kernel
theorem nd_La_law_460 : decode nc_La_law 460 = .ok (.aload_n 2, 1) := by decide +kernel
theorem nd_La_law_461 : decode nc_La_law 461 = .ok (.aload_n 0, 1) := by decide +kernel
theorem nd_La_law_462 : decode nc_La_law 462 = .ok (.iload 4, 2) := by decide +kernel
theorem nd_La_law_464 : decode nc_La_law 464 = .ok (.iconst 1, 1) := by decide +kernel
theorem nd_La_law_465 : decode nc_La_law 465 = .ok (.iadd, 1) := by decide +kernel
theorem nd_La_law_466 : decode nc_La_law 466 = .ok (.iaload, 1) := by decide +kernel
theorem nd_La_law_467 : decode nc_La_law 467 = .ok (.aload_n 0, 1) := by decide +kernel
theorem nd_La_law_468 : decode nc_La_law 468 = .ok (.iload 4, 2) := by decide +kernel
theorem nd_La_law_470 : decode nc_La_law 470 = .ok (.iconst 2, 1) := by decide +kernel
theorem nd_La_law_471 : decode nc_La_law 471 = .ok (.iadd, 1) := by decide +kernel
theorem nd_La_law_472 : decode nc_La_law 472 = .ok (.iaload, 1) := by decide +kernel
theorem nd_La_law_473 : decode nc_La_law 473 = .ok (.aload_n 0, 1) := by decide +kernel
theorem nd_La_law_474 : decode nc_La_law 474 = .ok (.iload 4, 2) := by decide +kernel
theorem nd_La_law_476 : decode nc_La_law 476 = .ok (.iconst 3, 1) := by decide +kernel
theorem nd_La_law_477 : decode nc_La_law 477 = .ok (.iadd, 1) := by decide +kernel
theorem nd_La_law_478 : decode nc_La_law 478 = .ok (.iaload, 1) := by decide +kernel
theorem nd_La_law_479 : decode nc_La_law 479 = .ok (.invokevirtual 94, 3) := by decide +kernel
theorem nd_La_law_482 : decode nc_La_law 482 = .ok (.istore 6, 2) := by decide +kernel
theorem nd_La_law_484 : decode nc_La_law 484 = .ok (.aload_n 2, 1) := by decide +kernel
theorem nd_La_law_485 : decode nc_La_law 485 = .ok (.invokevirtual 73, 3) := by decide +kernel
theorem nd_La_law_488 : decode nc_La_law 488 = .ok (.iload 5, 2) := by decide +kernel
theorem nd_La_law_490 : decode nc_La_law 490 = .ok (.if_icmp .eq 5, 3) := by decide +kernel
theorem nd_La_law_493 : decode nc_La_law 493 = .ok (.iconst 0, 1) := by decide +kernel
theorem nd_La_law_494 : decode nc_La_law 494 = .ok (.ireturn, 1) := by decide +kernel
theorem nd_La_law_495 : decode nc_La_law 495 = .ok (.iload 5, 2) := by decide +kernel
theorem nd_La_law_497 : decode nc_La_law 497 = .ok (.ifCond .ne 15, 3) := by decide +kernel
theorem nd_La_law_500 : decode nc_La_law 500 = .ok (.aload_n 3, 1) := by decide +kernel
theorem nd_La_law_501 : decode nc_La_law 501 = .ok (.iconst 0, 1) := by decide +kernel
theorem nd_La_law_502 : decode nc_La_law 502 = .ok (.laload, 1) := by decide +kernel
theorem nd_La_law_503 : decode nc_La_law 503 = .ok (.iload 6, 2) := by decide +kernel
theorem nd_La_law_505 : decode nc_La_law 505 = .ok (.i2l, 1) := by decide +kernel
theorem nd_La_law_506 : decode nc_La_law 506 = .ok (.lcmp, 1) := by decide +kernel
theorem nd_La_law_507 : decode nc_La_law 507 = .ok (.ifCond .eq 5, 3) := by decide +kernel
theorem nd_La_law_510 : decode nc_La_law 510 = .ok (.iconst 0, 1) := by decide +kernel
theorem nd_La_law_511 : decode nc_La_law 511 = .ok (.ireturn, 1) := by decide +kernel
theorem nd_La_law_512 : decode nc_La_law 512 = .ok (.goto 483, 3) := by decide +kernel
theorem nd_La_law_515 : decode nc_La_law 515 = .ok (.aload_n 1, 1) := by decide +kernel
theorem nd_La_law_516 : decode nc_La_law 516 = .ok (.aload_n 0, 1) := by decide +kernel
theorem nd_La_law_517 : decode nc_La_law 517 = .ok (.iload 4, 2) := by decide +kernel
theorem nd_La_law_519 : decode nc_La_law 519 = .ok (.iconst 1, 1) := by decide +kernel
theorem nd_La_law_520 : decode nc_La_law 520 = .ok (.iadd, 1) := by decide +kernel
theorem nd_La_law_521 : decode nc_La_law 521 = .ok (.iaload, 1) := by decide +kernel
theorem nd_La_law_522 : decode nc_La_law 522 = .ok (.aload_n 3, 1) := by decide +kernel
theorem nd_La_law_523 : decode nc_La_law 523 = .ok (.invokestatic 95, 3) := by decide +kernel
theorem nd_La_law_526 : decode nc_La_law 526 = .ok (.istore 5, 2) := by decide +kernel
theorem nd_La_law_528 : decode nc_La_law 528 = .ok (.aload_n 2, 1) := by decide +kernel
theorem nd_La_law_529 : decode nc_La_law 529 = .ok (.aload_n 0, 1) := by decide +kernel
theorem nd_La_law_530 : decode nc_La_law 530 = .ok (.iload 4, 2) := by decide +kernel
theorem nd_La_law_532 : decode nc_La_law 532 = .ok (.iconst 1, 1) := by decide +kernel
theorem nd_La_law_533 : decode nc_La_law 533 = .ok (.iadd, 1) := by decide +kernel
theorem nd_La_law_534 : decode nc_La_law 534 = .ok (.iaload, 1) := by decide +kernel
theorem nd_La_law_535 : decode nc_La_law 535 = .ok (.invokevirtual 97, 3) := by decide +kernel
theorem nd_La_law_538 : decode nc_La_law 538 = .ok (.istore 6, 2) := by decide +kernel
theorem nd_La_law_540 : decode nc_La_law 540 = .ok (.aload_n 2, 1) := by decide +kernel
theorem nd_La_law_541 : decode nc_La_law 541 = .ok (.invokevirtual 73, 3) := by decide +kernel
theorem nd_La_law_544 : decode nc_La_law 544 = .ok (.iload 5, 2) := by decide +kernel
theorem nd_La_law_546 : decode nc_La_law 546 = .ok (.if_icmp .eq 5, 3) := by decide +kernel
theorem nd_La_law_549 : decode nc_La_law 549 = .ok (.iconst 0, 1) := by decide +kernel
theorem nd_La_law_550 : decode nc_La_law 550 = .ok (.ireturn, 1) := by decide +kernel
theorem nd_La_law_551 : decode nc_La_law 551 = .ok (.iload 5, 2) := by decide +kernel
theorem nd_La_law_553 : decode nc_La_law 553 = .ok (.ifCond .ne 15, 3) := by decide +kernel
theorem nd_La_law_556 : decode nc_La_law 556 = .ok (.aload_n 3, 1) := by decide +kernel
theorem nd_La_law_557 : decode nc_La_law 557 = .ok (.iconst 0, 1) := by decide +kernel
theorem nd_La_law_558 : decode nc_La_law 558 = .ok (.laload, 1) := by decide +kernel
theorem nd_La_law_559 : decode nc_La_law 559 = .ok (.iload 6, 2) := by decide +kernel
theorem nd_La_law_561 : decode nc_La_law 561 = .ok (.i2l, 1) := by decide +kernel
theorem nd_La_law_562 : decode nc_La_law 562 = .ok (.lcmp, 1) := by decide +kernel
theorem nd_La_law_563 : decode nc_La_law 563 = .ok (.ifCond .eq 5, 3) := by decide +kernel
theorem nd_La_law_566 : decode nc_La_law 566 = .ok (.iconst 0, 1) := by decide +kernel
theorem nd_La_law_567 : decode nc_La_law 567 = .ok (.ireturn, 1) := by decide +kernel
theorem nd_La_law_568 : decode nc_La_law 568 = .ok (.goto 427, 3) := by decide +kernel
theorem nd_La_law_571 : decode nc_La_law 571 = .ok (.aload_n 1, 1) := by decide +kernel
theorem nd_La_law_572 : decode nc_La_law 572 = .ok (.invokevirtual 98, 3) := by decide +kernel
theorem nd_La_law_575 : decode nc_La_law 575 = .ok (.aload_n 2, 1) := by decide +kernel
theorem nd_La_law_576 : decode nc_La_law 576 = .ok (.invokevirtual 101, 3) := by decide +kernel
theorem nd_La_law_579 : decode nc_La_law 579 = .ok (.if_icmp .eq 416, 3) := by decide +kernel
theorem nd_La_law_582 : decode nc_La_law 582 = .ok (.iconst 0, 1) := by decide +kernel
theorem nd_La_law_583 : decode nc_La_law 583 = .ok (.ireturn, 1) := by decide +kernel
theorem nd_La_law_584 : decode nc_La_law 584 = .ok (.aload_n 1, 1) := by decide +kernel
theorem nd_La_law_585 : decode nc_La_law 585 = .ok (.invokevirtual 102, 3) := by decide +kernel
theorem nd_La_law_588 : decode nc_La_law 588 = .ok (.aload_n 2, 1) := by decide +kernel
theorem nd_La_law_589 : decode nc_La_law 589 = .ok (.invokevirtual 105, 3) := by decide +kernel
theorem nd_La_law_592 : decode nc_La_law 592 = .ok (.if_icmp .eq 403, 3) := by decide +kernel
theorem nd_La_law_595 : decode nc_La_law 595 = .ok (.iconst 0, 1) := by decide +kernel
theorem nd_La_law_596 : decode nc_La_law 596 = .ok (.ireturn, 1) := by decide +kernel
theorem nd_La_law_597 : decode nc_La_law 597 = .ok (.aload_n 1, 1) := by decide +kernel
theorem nd_La_law_598 : decode nc_La_law 598 = .ok (.aload_n 0, 1) := by decide +kernel
theorem nd_La_law_599 : decode nc_La_law 599 = .ok (.iload 4, 2) := by decide +kernel
theorem nd_La_law_601 : decode nc_La_law 601 = .ok (.iconst 1, 1) := by decide +kernel
theorem nd_La_law_602 : decode nc_La_law 602 = .ok (.iadd, 1) := by decide +kernel
theorem nd_La_law_603 : decode nc_La_law 603 = .ok (.iaload, 1) := by decide +kernel
theorem nd_La_law_604 : decode nc_La_law 604 = .ok (.aload_n 0, 1) := by decide +kernel
theorem nd_La_law_605 : decode nc_La_law 605 = .ok (.iload 4, 2) := by decide +kernel
theorem nd_La_law_607 : decode nc_La_law 607 = .ok (.iconst 2, 1) := by decide +kernel
theorem nd_La_law_608 : decode nc_La_law 608 = .ok (.iadd, 1) := by decide +kernel
theorem nd_La_law_609 : decode nc_La_law 609 = .ok (.iaload, 1) := by decide +kernel
theorem nd_La_law_610 : decode nc_La_law 610 = .ok (.aload_n 0, 1) := by decide +kernel
theorem nd_La_law_611 : decode nc_La_law 611 = .ok (.iload 4, 2) := by decide +kernel
theorem nd_La_law_613 : decode nc_La_law 613 = .ok (.iconst 3, 1) := by decide +kernel
theorem nd_La_law_614 : decode nc_La_law 614 = .ok (.iadd, 1) := by decide +kernel
theorem nd_La_law_615 : decode nc_La_law 615 = .ok (.iaload, 1) := by decide +kernel
theorem nd_La_law_616 : decode nc_La_law 616 = .ok (.ifCond .eq 7, 3) := by decide +kernel
theorem nd_La_law_619 : decode nc_La_law 619 = .ok (.iconst 1, 1) := by decide +kernel
theorem nd_La_law_620 : decode nc_La_law 620 = .ok (.goto 4, 3) := by decide +kernel
theorem nd_La_law_623 : decode nc_La_law 623 = .ok (.iconst 0, 1) := by decide +kernel
theorem nd_La_law_624 : decode nc_La_law 624 = .ok (.aload_n 3, 1) := by decide +kernel
theorem nd_La_law_625 : decode nc_La_law 625 = .ok (.invokestatic 106, 3) := by decide +kernel
theorem nd_La_law_628 : decode nc_La_law 628 = .ok (.istore 5, 2) := by decide +kernel
theorem nd_La_law_630 : decode nc_La_law 630 = .ok (.aload_n 2, 1) := by decide +kernel
theorem nd_La_law_631 : decode nc_La_law 631 = .ok (.aload_n 0, 1) := by decide +kernel
theorem nd_La_law_632 : decode nc_La_law 632 = .ok (.iload 4, 2) := by decide +kernel
theorem nd_La_law_634 : decode nc_La_law 634 = .ok (.iconst 1, 1) := by decide +kernel
theorem nd_La_law_635 : decode nc_La_law 635 = .ok (.iadd, 1) := by decide +kernel
theorem nd_La_law_636 : decode nc_La_law 636 = .ok (.iaload, 1) := by decide +kernel
theorem nd_La_law_637 : decode nc_La_law 637 = .ok (.aload_n 0, 1) := by decide +kernel
theorem nd_La_law_638 : decode nc_La_law 638 = .ok (.iload 4, 2) := by decide +kernel
theorem nd_La_law_640 : decode nc_La_law 640 = .ok (.iconst 2, 1) := by decide +kernel
theorem nd_La_law_641 : decode nc_La_law 641 = .ok (.iadd, 1) := by decide +kernel
theorem nd_La_law_642 : decode nc_La_law 642 = .ok (.iaload, 1) := by decide +kernel
theorem nd_La_law_643 : decode nc_La_law 643 = .ok (.aload_n 0, 1) := by decide +kernel
theorem nd_La_law_644 : decode nc_La_law 644 = .ok (.iload 4, 2) := by decide +kernel
theorem nd_La_law_646 : decode nc_La_law 646 = .ok (.iconst 3, 1) := by decide +kernel
theorem nd_La_law_647 : decode nc_La_law 647 = .ok (.iadd, 1) := by decide +kernel
theorem nd_La_law_648 : decode nc_La_law 648 = .ok (.iaload, 1) := by decide +kernel
theorem nd_La_law_649 : decode nc_La_law 649 = .ok (.ifCond .eq 7, 3) := by decide +kernel
theorem nd_La_law_652 : decode nc_La_law 652 = .ok (.iconst 1, 1) := by decide +kernel
theorem nd_La_law_653 : decode nc_La_law 653 = .ok (.goto 4, 3) := by decide +kernel
theorem nd_La_law_656 : decode nc_La_law 656 = .ok (.iconst 0, 1) := by decide +kernel
theorem nd_La_law_657 : decode nc_La_law 657 = .ok (.invokevirtual 109, 3) := by decide +kernel
theorem nd_La_law_660 : decode nc_La_law 660 = .ok (.lstore 6, 2) := by decide +kernel
theorem nd_La_law_662 : decode nc_La_law 662 = .ok (.aload_n 2, 1) := by decide +kernel
theorem nd_La_law_663 : decode nc_La_law 663 = .ok (.invokevirtual 73, 3) := by decide +kernel
theorem nd_La_law_666 : decode nc_La_law 666 = .ok (.iload 5, 2) := by decide +kernel
theorem nd_La_law_668 : decode nc_La_law 668 = .ok (.if_icmp .eq 5, 3) := by decide +kernel
theorem nd_La_law_671 : decode nc_La_law 671 = .ok (.iconst 0, 1) := by decide +kernel
theorem nd_La_law_672 : decode nc_La_law 672 = .ok (.ireturn, 1) := by decide +kernel
theorem nd_La_law_673 : decode nc_La_law 673 = .ok (.iload 5, 2) := by decide +kernel
theorem nd_La_law_675 : decode nc_La_law 675 = .ok (.ifCond .ne 14, 3) := by decide +kernel
theorem nd_La_law_678 : decode nc_La_law 678 = .ok (.aload_n 3, 1) := by decide +kernel
theorem nd_La_law_679 : decode nc_La_law 679 = .ok (.iconst 0, 1) := by decide +kernel
theorem nd_La_law_680 : decode nc_La_law 680 = .ok (.laload, 1) := by decide +kernel
theorem nd_La_law_681 : decode nc_La_law 681 = .ok (.lload 6, 2) := by decide +kernel
theorem nd_La_law_683 : decode nc_La_law 683 = .ok (.lcmp, 1) := by decide +kernel
theorem nd_La_law_684 : decode nc_La_law 684 = .ok (.ifCond .eq 5, 3) := by decide +kernel
theorem nd_La_law_687 : decode nc_La_law 687 = .ok (.iconst 0, 1) := by decide +kernel
theorem nd_La_law_688 : decode nc_La_law 688 = .ok (.ireturn, 1) := by decide +kernel
theorem nd_La_law_689 : decode nc_La_law 689 = .ok (.goto 306, 3) := by decide +kernel
theorem nd_La_law_692 : decode nc_La_law 692 = .ok (.aload_n 1, 1) := by decide +kernel
theorem nd_La_law_693 : decode nc_La_law 693 = .ok (.aload_n 0, 1) := by decide +kernel
theorem nd_La_law_694 : decode nc_La_law 694 = .ok (.iload 4, 2) := by decide +kernel
theorem nd_La_law_696 : decode nc_La_law 696 = .ok (.iconst 1, 1) := by decide +kernel
theorem nd_La_law_697 : decode nc_La_law 697 = .ok (.iadd, 1) := by decide +kernel
theorem nd_La_law_698 : decode nc_La_law 698 = .ok (.iaload, 1) := by decide +kernel
theorem nd_La_law_699 : decode nc_La_law 699 = .ok (.aload_n 0, 1) := by decide +kernel
theorem nd_La_law_700 : decode nc_La_law 700 = .ok (.iload 4, 2) := by decide +kernel
theorem nd_La_law_702 : decode nc_La_law 702 = .ok (.iconst 2, 1) := by decide +kernel
theorem nd_La_law_703 : decode nc_La_law 703 = .ok (.iadd, 1) := by decide +kernel
theorem nd_La_law_704 : decode nc_La_law 704 = .ok (.iaload, 1) := by decide +kernel
theorem nd_La_law_705 : decode nc_La_law 705 = .ok (.ifCond .eq 7, 3) := by decide +kernel
theorem nd_La_law_708 : decode nc_La_law 708 = .ok (.iconst 1, 1) := by decide +kernel
theorem nd_La_law_709 : decode nc_La_law 709 = .ok (.goto 4, 3) := by decide +kernel
theorem nd_La_law_712 : decode nc_La_law 712 = .ok (.iconst 0, 1) := by decide +kernel
theorem nd_La_law_713 : decode nc_La_law 713 = .ok (.aload_n 0, 1) := by decide +kernel
theorem nd_La_law_714 : decode nc_La_law 714 = .ok (.iload 4, 2) := by decide +kernel
theorem nd_La_law_716 : decode nc_La_law 716 = .ok (.iconst 3, 1) := by decide +kernel
theorem nd_La_law_717 : decode nc_La_law 717 = .ok (.iadd, 1) := by decide +kernel
theorem nd_La_law_718 : decode nc_La_law 718 = .ok (.iaload, 1) := by decide +kernel
theorem nd_La_law_719 : decode nc_La_law 719 = .ok (.ifCond .eq 7, 3) := by decide +kernel
theorem nd_La_law_722 : decode nc_La_law 722 = .ok (.iconst 1, 1) := by decide +kernel
theorem nd_La_law_723 : decode nc_La_law 723 = .ok (.goto 4, 3) := by decide +kernel
theorem nd_La_law_726 : decode nc_La_law 726 = .ok (.iconst 0, 1) := by decide +kernel
theorem nd_La_law_727 : decode nc_La_law 727 = .ok (.aload_n 3, 1) := by decide +kernel
theorem nd_La_law_728 : decode nc_La_law 728 = .ok (.invokestatic 110, 3) := by decide +kernel
theorem nd_La_law_731 : decode nc_La_law 731 = .ok (.istore 5, 2) := by decide +kernel
theorem nd_La_law_733 : decode nc_La_law 733 = .ok (.aload_n 2, 1) := by decide +kernel
theorem nd_La_law_734 : decode nc_La_law 734 = .ok (.aload_n 0, 1) := by decide +kernel
theorem nd_La_law_735 : decode nc_La_law 735 = .ok (.iload 4, 2) := by decide +kernel
theorem nd_La_law_737 : decode nc_La_law 737 = .ok (.iconst 1, 1) := by decide +kernel
theorem nd_La_law_738 : decode nc_La_law 738 = .ok (.iadd, 1) := by decide +kernel
theorem nd_La_law_739 : decode nc_La_law 739 = .ok (.iaload, 1) := by decide +kernel
theorem nd_La_law_740 : decode nc_La_law 740 = .ok (.aload_n 0, 1) := by decide +kernel
theorem nd_La_law_741 : decode nc_La_law 741 = .ok (.iload 4, 2) := by decide +kernel
theorem nd_La_law_743 : decode nc_La_law 743 = .ok (.iconst 2, 1) := by decide +kernel
theorem nd_La_law_744 : decode nc_La_law 744 = .ok (.iadd, 1) := by decide +kernel
theorem nd_La_law_745 : decode nc_La_law 745 = .ok (.iaload, 1) := by decide +kernel
theorem nd_La_law_746 : decode nc_La_law 746 = .ok (.ifCond .eq 7, 3) := by decide +kernel
theorem nd_La_law_749 : decode nc_La_law 749 = .ok (.iconst 1, 1) := by decide +kernel
theorem nd_La_law_750 : decode nc_La_law 750 = .ok (.goto 4, 3) := by decide +kernel
theorem nd_La_law_753 : decode nc_La_law 753 = .ok (.iconst 0, 1) := by decide +kernel
theorem nd_La_law_754 : decode nc_La_law 754 = .ok (.aload_n 0, 1) := by decide +kernel
theorem nd_La_law_755 : decode nc_La_law 755 = .ok (.iload 4, 2) := by decide +kernel
theorem nd_La_law_757 : decode nc_La_law 757 = .ok (.iconst 3, 1) := by decide +kernel
theorem nd_La_law_758 : decode nc_La_law 758 = .ok (.iadd, 1) := by decide +kernel
theorem nd_La_law_759 : decode nc_La_law 759 = .ok (.iaload, 1) := by decide +kernel
theorem nd_La_law_760 : decode nc_La_law 760 = .ok (.ifCond .eq 7, 3) := by decide +kernel
theorem nd_La_law_763 : decode nc_La_law 763 = .ok (.iconst 1, 1) := by decide +kernel
theorem nd_La_law_764 : decode nc_La_law 764 = .ok (.goto 4, 3) := by decide +kernel
theorem nd_La_law_767 : decode nc_La_law 767 = .ok (.iconst 0, 1) := by decide +kernel
theorem nd_La_law_768 : decode nc_La_law 768 = .ok (.invokevirtual 113, 3) := by decide +kernel
theorem nd_La_law_771 : decode nc_La_law 771 = .ok (.lstore 6, 2) := by decide +kernel
theorem nd_La_law_773 : decode nc_La_law 773 = .ok (.aload_n 2, 1) := by decide +kernel
theorem nd_La_law_774 : decode nc_La_law 774 = .ok (.invokevirtual 73, 3) := by decide +kernel
theorem nd_La_law_777 : decode nc_La_law 777 = .ok (.iload 5, 2) := by decide +kernel
theorem nd_La_law_779 : decode nc_La_law 779 = .ok (.if_icmp .eq 5, 3) := by decide +kernel
theorem nd_La_law_782 : decode nc_La_law 782 = .ok (.iconst 0, 1) := by decide +kernel
theorem nd_La_law_783 : decode nc_La_law 783 = .ok (.ireturn, 1) := by decide +kernel
theorem nd_La_law_784 : decode nc_La_law 784 = .ok (.iload 5, 2) := by decide +kernel
theorem nd_La_law_786 : decode nc_La_law 786 = .ok (.ifCond .ne 14, 3) := by decide +kernel
theorem nd_La_law_789 : decode nc_La_law 789 = .ok (.aload_n 3, 1) := by decide +kernel
theorem nd_La_law_790 : decode nc_La_law 790 = .ok (.iconst 0, 1) := by decide +kernel
theorem nd_La_law_791 : decode nc_La_law 791 = .ok (.laload, 1) := by decide +kernel
theorem nd_La_law_792 : decode nc_La_law 792 = .ok (.lload 6, 2) := by decide +kernel
theorem nd_La_law_794 : decode nc_La_law 794 = .ok (.lcmp, 1) := by decide +kernel
theorem nd_La_law_795 : decode nc_La_law 795 = .ok (.ifCond .eq 5, 3) := by decide +kernel
theorem nd_La_law_798 : decode nc_La_law 798 = .ok (.iconst 0, 1) := by decide +kernel
theorem nd_La_law_799 : decode nc_La_law 799 = .ok (.ireturn, 1) := by decide +kernel
theorem nd_La_law_800 : decode nc_La_law 800 = .ok (.goto 195, 3) := by decide +kernel
theorem nd_La_law_803 : decode nc_La_law 803 = .ok (.aload_n 1, 1) := by decide +kernel
theorem nd_La_law_804 : decode nc_La_law 804 = .ok (.aload_n 0, 1) := by decide +kernel
theorem nd_La_law_805 : decode nc_La_law 805 = .ok (.iload 4, 2) := by decide +kernel
theorem nd_La_law_807 : decode nc_La_law 807 = .ok (.iconst 1, 1) := by decide +kernel
theorem nd_La_law_808 : decode nc_La_law 808 = .ok (.iadd, 1) := by decide +kernel
theorem nd_La_law_809 : decode nc_La_law 809 = .ok (.iaload, 1) := by decide +kernel
theorem nd_La_law_810 : decode nc_La_law 810 = .ok (.aload_n 3, 1) := by decide +kernel
theorem nd_La_law_811 : decode nc_La_law 811 = .ok (.invokestatic 114, 3) := by decide +kernel
theorem nd_La_law_814 : decode nc_La_law 814 = .ok (.istore 5, 2) := by decide +kernel
theorem nd_La_law_816 : decode nc_La_law 816 = .ok (.aload_n 2, 1) := by decide +kernel
theorem nd_La_law_817 : decode nc_La_law 817 = .ok (.aload_n 0, 1) := by decide +kernel
theorem nd_La_law_818 : decode nc_La_law 818 = .ok (.iload 4, 2) := by decide +kernel
theorem nd_La_law_820 : decode nc_La_law 820 = .ok (.iconst 1, 1) := by decide +kernel
theorem nd_La_law_821 : decode nc_La_law 821 = .ok (.iadd, 1) := by decide +kernel
theorem nd_La_law_822 : decode nc_La_law 822 = .ok (.iaload, 1) := by decide +kernel
theorem nd_La_law_823 : decode nc_La_law 823 = .ok (.invokevirtual 116, 3) := by decide +kernel
theorem nd_La_law_826 : decode nc_La_law 826 = .ok (.istore 6, 2) := by decide +kernel
theorem nd_La_law_828 : decode nc_La_law 828 = .ok (.aload_n 2, 1) := by decide +kernel
theorem nd_La_law_829 : decode nc_La_law 829 = .ok (.invokevirtual 73, 3) := by decide +kernel
theorem nd_La_law_832 : decode nc_La_law 832 = .ok (.iload 5, 2) := by decide +kernel
theorem nd_La_law_834 : decode nc_La_law 834 = .ok (.if_icmp .eq 5, 3) := by decide +kernel
theorem nd_La_law_837 : decode nc_La_law 837 = .ok (.iconst 0, 1) := by decide +kernel
theorem nd_La_law_838 : decode nc_La_law 838 = .ok (.ireturn, 1) := by decide +kernel
theorem nd_La_law_839 : decode nc_La_law 839 = .ok (.iload 5, 2) := by decide +kernel
theorem nd_La_law_841 : decode nc_La_law 841 = .ok (.ifCond .ne 15, 3) := by decide +kernel
theorem nd_La_law_844 : decode nc_La_law 844 = .ok (.aload_n 3, 1) := by decide +kernel
theorem nd_La_law_845 : decode nc_La_law 845 = .ok (.iconst 0, 1) := by decide +kernel
theorem nd_La_law_846 : decode nc_La_law 846 = .ok (.laload, 1) := by decide +kernel
theorem nd_La_law_847 : decode nc_La_law 847 = .ok (.iload 6, 2) := by decide +kernel
theorem nd_La_law_849 : decode nc_La_law 849 = .ok (.i2l, 1) := by decide +kernel
theorem nd_La_law_850 : decode nc_La_law 850 = .ok (.lcmp, 1) := by decide +kernel
theorem nd_La_law_851 : decode nc_La_law 851 = .ok (.ifCond .eq 5, 3) := by decide +kernel
theorem nd_La_law_854 : decode nc_La_law 854 = .ok (.iconst 0, 1) := by decide +kernel
theorem nd_La_law_855 : decode nc_La_law 855 = .ok (.ireturn, 1) := by decide +kernel
theorem nd_La_law_856 : decode nc_La_law 856 = .ok (.goto 139, 3) := by decide +kernel
theorem nd_La_law_859 : decode nc_La_law 859 = .ok (.aload_n 1, 1) := by decide +kernel
theorem nd_La_law_860 : decode nc_La_law 860 = .ok (.aload_n 0, 1) := by decide +kernel
theorem nd_La_law_861 : decode nc_La_law 861 = .ok (.iload 4, 2) := by decide +kernel
theorem nd_La_law_863 : decode nc_La_law 863 = .ok (.iconst 1, 1) := by decide +kernel
theorem nd_La_law_864 : decode nc_La_law 864 = .ok (.iadd, 1) := by decide +kernel
theorem nd_La_law_865 : decode nc_La_law 865 = .ok (.iaload, 1) := by decide +kernel
theorem nd_La_law_866 : decode nc_La_law 866 = .ok (.aload_n 0, 1) := by decide +kernel
theorem nd_La_law_867 : decode nc_La_law 867 = .ok (.iload 4, 2) := by decide +kernel
theorem nd_La_law_869 : decode nc_La_law 869 = .ok (.iconst 2, 1) := by decide +kernel
theorem nd_La_law_870 : decode nc_La_law 870 = .ok (.iadd, 1) := by decide +kernel
theorem nd_La_law_871 : decode nc_La_law 871 = .ok (.iaload, 1) := by decide +kernel
theorem nd_La_law_872 : decode nc_La_law 872 = .ok (.aload_n 0, 1) := by decide +kernel
theorem nd_La_law_873 : decode nc_La_law 873 = .ok (.iload 4, 2) := by decide +kernel
theorem nd_La_law_875 : decode nc_La_law 875 = .ok (.iconst 3, 1) := by decide +kernel
theorem nd_La_law_876 : decode nc_La_law 876 = .ok (.iadd, 1) := by decide +kernel
theorem nd_La_law_877 : decode nc_La_law 877 = .ok (.iaload, 1) := by decide +kernel
theorem nd_La_law_878 : decode nc_La_law 878 = .ok (.ifCond .eq 7, 3) := by decide +kernel
theorem nd_La_law_881 : decode nc_La_law 881 = .ok (.iconst 1, 1) := by decide +kernel
theorem nd_La_law_882 : decode nc_La_law 882 = .ok (.goto 4, 3) := by decide +kernel
theorem nd_La_law_885 : decode nc_La_law 885 = .ok (.iconst 0, 1) := by decide +kernel
theorem nd_La_law_886 : decode nc_La_law 886 = .ok (.aload_n 3, 1) := by decide +kernel
theorem nd_La_law_887 : decode nc_La_law 887 = .ok (.invokestatic 117, 3) := by decide +kernel
theorem nd_La_law_890 : decode nc_La_law 890 = .ok (.istore 5, 2) := by decide +kernel
theorem nd_La_law_892 : decode nc_La_law 892 = .ok (.aload_n 2, 1) := by decide +kernel
theorem nd_La_law_893 : decode nc_La_law 893 = .ok (.aload_n 0, 1) := by decide +kernel
theorem nd_La_law_894 : decode nc_La_law 894 = .ok (.iload 4, 2) := by decide +kernel
theorem nd_La_law_896 : decode nc_La_law 896 = .ok (.iconst 1, 1) := by decide +kernel
theorem nd_La_law_897 : decode nc_La_law 897 = .ok (.iadd, 1) := by decide +kernel
theorem nd_La_law_898 : decode nc_La_law 898 = .ok (.iaload, 1) := by decide +kernel
theorem nd_La_law_899 : decode nc_La_law 899 = .ok (.aload_n 0, 1) := by decide +kernel
theorem nd_La_law_900 : decode nc_La_law 900 = .ok (.iload 4, 2) := by decide +kernel
theorem nd_La_law_902 : decode nc_La_law 902 = .ok (.iconst 2, 1) := by decide +kernel
theorem nd_La_law_903 : decode nc_La_law 903 = .ok (.iadd, 1) := by decide +kernel
theorem nd_La_law_904 : decode nc_La_law 904 = .ok (.iaload, 1) := by decide +kernel
theorem nd_La_law_905 : decode nc_La_law 905 = .ok (.aload_n 0, 1) := by decide +kernel
theorem nd_La_law_906 : decode nc_La_law 906 = .ok (.iload 4, 2) := by decide +kernel
theorem nd_La_law_908 : decode nc_La_law 908 = .ok (.iconst 3, 1) := by decide +kernel
theorem nd_La_law_909 : decode nc_La_law 909 = .ok (.iadd, 1) := by decide +kernel
theorem nd_La_law_910 : decode nc_La_law 910 = .ok (.iaload, 1) := by decide +kernel
theorem nd_La_law_911 : decode nc_La_law 911 = .ok (.ifCond .eq 7, 3) := by decide +kernel
theorem nd_La_law_914 : decode nc_La_law 914 = .ok (.iconst 1, 1) := by decide +kernel
theorem nd_La_law_915 : decode nc_La_law 915 = .ok (.goto 4, 3) := by decide +kernel
theorem nd_La_law_918 : decode nc_La_law 918 = .ok (.iconst 0, 1) := by decide +kernel
theorem nd_La_law_919 : decode nc_La_law 919 = .ok (.invokevirtual 119, 3) := by decide +kernel
theorem nd_La_law_922 : decode nc_La_law 922 = .ok (.lstore 6, 2) := by decide +kernel
theorem nd_La_law_924 : decode nc_La_law 924 = .ok (.aload_n 2, 1) := by decide +kernel
theorem nd_La_law_925 : decode nc_La_law 925 = .ok (.invokevirtual 73, 3) := by decide +kernel
theorem nd_La_law_928 : decode nc_La_law 928 = .ok (.iload 5, 2) := by decide +kernel
theorem nd_La_law_930 : decode nc_La_law 930 = .ok (.if_icmp .eq 5, 3) := by decide +kernel
theorem nd_La_law_933 : decode nc_La_law 933 = .ok (.iconst 0, 1) := by decide +kernel
theorem nd_La_law_934 : decode nc_La_law 934 = .ok (.ireturn, 1) := by decide +kernel
theorem nd_La_law_935 : decode nc_La_law 935 = .ok (.iload 5, 2) := by decide +kernel
theorem nd_La_law_937 : decode nc_La_law 937 = .ok (.ifCond .ne 14, 3) := by decide +kernel
theorem nd_La_law_940 : decode nc_La_law 940 = .ok (.aload_n 3, 1) := by decide +kernel
theorem nd_La_law_941 : decode nc_La_law 941 = .ok (.iconst 0, 1) := by decide +kernel
theorem nd_La_law_942 : decode nc_La_law 942 = .ok (.laload, 1) := by decide +kernel
theorem nd_La_law_943 : decode nc_La_law 943 = .ok (.lload 6, 2) := by decide +kernel
theorem nd_La_law_945 : decode nc_La_law 945 = .ok (.lcmp, 1) := by decide +kernel
theorem nd_La_law_946 : decode nc_La_law 946 = .ok (.ifCond .eq 5, 3) := by decide +kernel
theorem nd_La_law_949 : decode nc_La_law 949 = .ok (.iconst 0, 1) := by decide +kernel
theorem nd_La_law_950 : decode nc_La_law 950 = .ok (.ireturn, 1) := by decide +kernel
theorem nd_La_law_951 : decode nc_La_law 951 = .ok (.goto 44, 3) := by decide +kernel
theorem nd_La_law_954 : decode nc_La_law 954 = .ok (.aload_n 1, 1) := by decide +kernel
theorem nd_La_law_955 : decode nc_La_law 955 = .ok (.aload_n 0, 1) := by decide +kernel
theorem nd_La_law_956 : decode nc_La_law 956 = .ok (.iload 4, 2) := by decide +kernel
theorem nd_La_law_958 : decode nc_La_law 958 = .ok (.iconst 1, 1) := by decide +kernel
theorem nd_La_law_959 : decode nc_La_law 959 = .ok (.iadd, 1) := by decide +kernel
theorem nd_La_law_960 : decode nc_La_law 960 = .ok (.iaload, 1) := by decide +kernel
theorem nd_La_law_961 : decode nc_La_law 961 = .ok (.ifCond .eq 7, 3) := by decide +kernel
theorem nd_La_law_964 : decode nc_La_law 964 = .ok (.iconst 1, 1) := by decide +kernel
theorem nd_La_law_965 : decode nc_La_law 965 = .ok (.goto 4, 3) := by decide +kernel
theorem nd_La_law_968 : decode nc_La_law 968 = .ok (.iconst 0, 1) := by decide +kernel
theorem nd_La_law_969 : decode nc_La_law 969 = .ok (.invokevirtual 120, 3) := by decide +kernel
theorem nd_La_law_972 : decode nc_La_law 972 = .ok (.aload_n 2, 1) := by decide +kernel
theorem nd_La_law_973 : decode nc_La_law 973 = .ok (.aload_n 0, 1) := by decide +kernel
theorem nd_La_law_974 : decode nc_La_law 974 = .ok (.iload 4, 2) := by decide +kernel
theorem nd_La_law_976 : decode nc_La_law 976 = .ok (.iconst 1, 1) := by decide +kernel
theorem nd_La_law_977 : decode nc_La_law 977 = .ok (.iadd, 1) := by decide +kernel
theorem nd_La_law_978 : decode nc_La_law 978 = .ok (.iaload, 1) := by decide +kernel
theorem nd_La_law_979 : decode nc_La_law 979 = .ok (.ifCond .eq 7, 3) := by decide +kernel
theorem nd_La_law_982 : decode nc_La_law 982 = .ok (.iconst 1, 1) := by decide +kernel
theorem nd_La_law_983 : decode nc_La_law 983 = .ok (.goto 4, 3) := by decide +kernel
theorem nd_La_law_986 : decode nc_La_law 986 = .ok (.iconst 0, 1) := by decide +kernel
theorem nd_La_law_987 : decode nc_La_law 987 = .ok (.invokevirtual 124, 3) := by decide +kernel
theorem nd_La_law_990 : decode nc_La_law 990 = .ok (.if_icmp .eq 5, 3) := by decide +kernel
theorem nd_La_law_993 : decode nc_La_law 993 = .ok (.iconst 0, 1) := by decide +kernel
theorem nd_La_law_994 : decode nc_La_law 994 = .ok (.ireturn, 1) := by decide +kernel
theorem nd_La_law_995 : decode nc_La_law 995 = .ok (.iinc 4 4, 3) := by decide +kernel
theorem nd_La_law_998 : decode nc_La_law 998 = .ok (.goto (-975), 3) := by decide +kernel
theorem nd_La_law_1001 : decode nc_La_law 1001 = .ok (.iconst 1, 1) := by decide +kernel
theorem nd_La_law_1002 : decode nc_La_law 1002 = .ok (.ireturn, 1) := by decide +kernel
