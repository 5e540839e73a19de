theorem d_LW_law_401 : decode code 401 = .ok (.iaload, 1) := by decide +kernel
theorem d_LW_law_402 : decode code 402 = .ok (.aload_n 0, 1) := by decide +kernel
theorem d_LW_law_403 : decode code 403 = .ok (.iload 4, 2) := by decide +kernel
theorem d_LW_law_405 : decode code 405 = .ok (.iconst 3, 1) := by decide +kernel
theorem d_LW_law_406 : decode code 406 = .ok (.iadd, 1) := by decide +kernel
theorem d_LW_law_407 : decode code 407 = .ok (.iaload, 1) := by decide +kernel
theorem d_LW_law_408 : decode code 408 = .ok (.invokevirtual 114, 3) := by decide +kernel
theorem d_LW_law_411 : decode code 411 = .ok (.istore 6, 2) := by decide +kernel
theorem d_LW_law_413 : decode code 413 = .ok (.aload_n 2, 1) := by decide +kernel
theorem d_LW_law_414 : decode code 414 = .ok (.invokevirtual 93, 3) := by decide +kernel
theorem d_LW_law_417 : decode code 417 = .ok (.iload 5, 2) := by decide +kernel
theorem d_LW_law_419 : decode code 419 = .ok (.if_icmp .eq 5, 3) := by decide +kernel
theorem d_LW_law_422 : decode code 422 = .ok (.iconst 0, 1) := by decide +kernel
theorem d_LW_law_423 : decode code 423 = .ok (.ireturn, 1) := by decide +kernel
theorem d_LW_law_424 : decode code 424 = .ok (.iload 5, 2) := by decide +kernel
theorem d_LW_law_426 : decode code 426 = .ok (.ifCond .ne 15, 3) := by decide +kernel
theorem d_LW_law_429 : decode code 429 = .ok (.aload_n 3, 1) := by decide +kernel
theorem d_LW_law_430 : decode code 430 = .ok (.iconst 0, 1) := by decide +kernel
theorem d_LW_law_431 : decode code 431 = .ok (.laload, 1) := by decide +kernel
theorem d_LW_law_432 : decode code 432 = .ok (.iload 6, 2) := by decide +kernel
theorem d_LW_law_434 : decode code 434 = .ok (.i2l, 1) := by decide +kernel
theorem d_LW_law_435 : decode code 435 = .ok (.lcmp, 1) := by decide +kernel
theorem d_LW_law_436 : decode code 436 = .ok (.ifCond .eq 5, 3) := by decide +kernel
theorem d_LW_law_439 : decode code 439 = .ok (.iconst 0, 1) := by decide +kernel
theorem d_LW_law_440 : decode code 440 = .ok (.ireturn, 1) := by decide +kernel
theorem d_LW_law_441 : decode code 441 = .ok (.goto 863, 3) := by decide +kernel
theorem d_LW_law_444 : decode code 444 = .ok (.aload_n 1, 1) := by decide +kernel
theorem d_LW_law_445 : decode code 445 = .ok (.aload_n 0, 1) := by decide +kernel
theorem d_LW_law_446 : decode code 446 = .ok (.iload 4, 2) := by decide +kernel
theorem d_LW_law_448 : decode code 448 = .ok (.iconst 1, 1) := by decide +kernel
theorem d_LW_law_449 : decode code 449 = .ok (.iadd, 1) := by decide +kernel
theorem d_LW_law_450 : decode code 450 = .ok (.iaload, 1) := by decide +kernel
theorem d_LW_law_451 : decode code 451 = .ok (.aload_n 0, 1) := by decide +kernel
theorem d_LW_law_452 : decode code 452 = .ok (.iload 4, 2) := by decide +kernel
theorem d_LW_law_454 : decode code 454 = .ok (.iconst 2, 1) := by decide +kernel
theorem d_LW_law_455 : decode code 455 = .ok (.iadd, 1) := by decide +kernel
theorem d_LW_law_456 : decode code 456 = .ok (.iaload, 1) := by decide +kernel
theorem d_LW_law_457 : decode code 457 = .ok (.aload_n 3, 1) := by decide +kernel
theorem d_LW_law_458 : decode code 458 = .ok (.invokestatic 115, 3) := by decide +kernel
theorem d_LW_law_461 : decode code 461 = .ok (.istore 5, 2) := by decide +kernel
theorem d_LW_law_463 : decode code 463 = .ok (.aload_n 2, 1) := by decide +kernel
theorem d_LW_law_464 : decode code 464 = .ok (.aload_n 0, 1) := by decide +kernel
theorem d_LW_law_465 : decode code 465 = .ok (.iload 4, 2) := by decide +kernel
theorem d_LW_law_467 : decode code 467 = .ok (.iconst 1, 1) := by decide +kernel
theorem d_LW_law_468 : decode code 468 = .ok (.iadd, 1) := by decide +kernel
theorem d_LW_law_469 : decode code 469 = .ok (.iaload, 1) := by decide +kernel
theorem d_LW_law_470 : decode code 470 = .ok (.aload_n 0, 1) := by decide +kernel
theorem d_LW_law_471 : decode code 471 = .ok (.iload 4, 2) := by decide +kernel
theorem d_LW_law_473 : decode code 473 = .ok (.iconst 2, 1) := by decide +kernel
theorem d_LW_law_474 : decode code 474 = .ok (.iadd, 1) := by decide +kernel
theorem d_LW_law_475 : decode code 475 = .ok (.iaload, 1) := by decide +kernel
theorem d_LW_law_476 : decode code 476 = .ok (.invokevirtual 118, 3) := by decide +kernel
theorem d_LW_law_479 : decode code 479 = .ok (.istore 6, 2) := by decide +kernel
theorem d_LW_law_481 : decode code 481 = .ok (.aload_n 2, 1) := by decide +kernel
theorem d_LW_law_482 : decode code 482 = .ok (.invokevirtual 93, 3) := by decide +kernel
theorem d_LW_law_485 : decode code 485 = .ok (.iload 5, 2) := by decide +kernel
theorem d_LW_law_487 : decode code 487 = .ok (.if_icmp .eq 5, 3) := by decide +kernel
theorem d_LW_law_490 : decode code 490 = .ok (.iconst 0, 1) := by decide +kernel
theorem d_LW_law_491 : decode code 491 = .ok (.ireturn, 1) := by decide +kernel
theorem d_LW_law_492 : decode code 492 = .ok (.iload 5, 2) := by decide +kernel
theorem d_LW_law_494 : decode code 494 = .ok (.ifCond .ne 15, 3) := by decide +kernel
theorem d_LW_law_497 : decode code 497 = .ok (.aload_n 3, 1) := by decide +kernel
theorem d_LW_law_498 : decode code 498 = .ok (.iconst 0, 1) := by decide +kernel
theorem d_LW_law_499 : decode code 499 = .ok (.laload, 1) := by decide +kernel
theorem d_LW_law_500 : decode code 500 = .ok (.iload 6, 2) := by decide +kernel
theorem d_LW_law_502 : decode code 502 = .ok (.i2l, 1) := by decide +kernel
theorem d_LW_law_503 : decode code 503 = .ok (.lcmp, 1) := by decide +kernel
theorem d_LW_law_504 : decode code 504 = .ok (.ifCond .eq 5, 3) := by decide +kernel
theorem d_LW_law_507 : decode code 507 = .ok (.iconst 0, 1) := by decide +kernel
theorem d_LW_law_508 : decode code 508 = .ok (.ireturn, 1) := by decide +kernel
theorem d_LW_law_509 : decode code 509 = .ok (.goto 795, 3) := by decide +kernel
theorem d_LW_law_512 : decode code 512 = .ok (.aload_n 1, 1) := by decide +kernel
theorem d_LW_law_513 : decode code 513 = .ok (.aload_n 0, 1) := by decide +kernel
theorem d_LW_law_514 : decode code 514 = .ok (.iload 4, 2) := by decide +kernel
theorem d_LW_law_516 : decode code 516 = .ok (.iconst 1, 1) := by decide +kernel
theorem d_LW_law_517 : decode code 517 = .ok (.iadd, 1) := by decide +kernel
theorem d_LW_law_518 : decode code 518 = .ok (.iaload, 1) := by decide +kernel
theorem d_LW_law_519 : decode code 519 = .ok (.aload_n 3, 1) := by decide +kernel
theorem d_LW_law_520 : decode code 520 = .ok (.invokestatic 119, 3) := by decide +kernel
theorem d_LW_law_523 : decode code 523 = .ok (.istore 5, 2) := by decide +kernel
theorem d_LW_law_525 : decode code 525 = .ok (.aload_n 2, 1) := by decide +kernel
theorem d_LW_law_526 : decode code 526 = .ok (.aload_n 0, 1) := by decide +kernel
theorem d_LW_law_527 : decode code 527 = .ok (.iload 4, 2) := by decide +kernel
theorem d_LW_law_529 : decode code 529 = .ok (.iconst 1, 1) := by decide +kernel
theorem d_LW_law_530 : decode code 530 = .ok (.iadd, 1) := by decide +kernel
theorem d_LW_law_531 : decode code 531 = .ok (.iaload, 1) := by decide +kernel
theorem d_LW_law_532 : decode code 532 = .ok (.invokevirtual 121, 3) := by decide +kernel
theorem d_LW_law_535 : decode code 535 = .ok (.istore 6, 2) := by decide +kernel
theorem d_LW_law_537 : decode code 537 = .ok (.aload_n 2, 1) := by decide +kernel
theorem d_LW_law_538 : decode code 538 = .ok (.invokevirtual 93, 3) := by decide +kernel
theorem d_LW_law_541 : decode code 541 = .ok (.iload 5, 2) := by decide +kernel
theorem d_LW_law_543 : decode code 543 = .ok (.if_icmp .eq 5, 3) := by decide +kernel
theorem d_LW_law_546 : decode code 546 = .ok (.iconst 0, 1) := by decide +kernel
theorem d_LW_law_547 : decode code 547 = .ok (.ireturn, 1) := by decide +kernel
theorem d_LW_law_548 : decode code 548 = .ok (.iload 5, 2) := by decide +kernel
theorem d_LW_law_550 : decode code 550 = .ok (.ifCond .ne 15, 3) := by decide +kernel
theorem d_LW_law_553 : decode code 553 = .ok (.aload_n 3, 1) := by decide +kernel
theorem d_LW_law_554 : decode code 554 = .ok (.iconst 0, 1) := by decide +kernel
theorem d_LW_law_555 : decode code 555 = .ok (.laload, 1) := by decide +kernel
theorem d_LW_law_556 : decode code 556 = .ok (.iload 6, 2) := by decide +kernel
theorem d_LW_law_558 : decode code 558 = .ok (.i2l, 1) := by decide +kernel
theorem d_LW_law_559 : decode code 559 = .ok (.lcmp, 1) := by decide +kernel
theorem d_LW_law_560 : decode code 560 = .ok (.ifCond .eq 5, 3) := by decide +kernel
theorem d_LW_law_563 : decode code 563 = .ok (.iconst 0, 1) := by decide +kernel
theorem d_LW_law_564 : decode code 564 = .ok (.ireturn, 1) := by decide +kernel
theorem d_LW_law_565 : decode code 565 = .ok (.goto 739, 3) := by decide +kernel
theorem d_LW_law_568 : decode code 568 = .ok (.aload_n 1, 1) := by decide +kernel
theorem d_LW_law_569 : decode code 569 = .ok (.aload_n 0, 1) := by decide +kernel
theorem d_LW_law_570 : decode code 570 = .ok (.iload 4, 2) := by decide +kernel
theorem d_LW_law_572 : decode code 572 = .ok (.iconst 1, 1) := by decide +kernel
theorem d_LW_law_573 : decode code 573 = .ok (.iadd, 1) := by decide +kernel
theorem d_LW_law_574 : decode code 574 = .ok (.iaload, 1) := by decide +kernel
theorem d_LW_law_575 : decode code 575 = .ok (.aload_n 0, 1) := by decide +kernel
theorem d_LW_law_576 : decode code 576 = .ok (.iload 4, 2) := by decide +kernel
theorem d_LW_law_578 : decode code 578 = .ok (.iconst 2, 1) := by decide +kernel
theorem d_LW_law_579 : decode code 579 = .ok (.iadd, 1) := by decide +kernel
theorem d_LW_law_580 : decode code 580 = .ok (.iaload, 1) := by decide +kernel
theorem d_LW_law_581 : decode code 581 = .ok (.aload_n 3, 1) := by decide +kernel
theorem d_LW_law_582 : decode code 582 = .ok (.invokestatic 122, 3) := by decide +kernel
theorem d_LW_law_585 : decode code 585 = .ok (.istore 5, 2) := by decide +kernel
theorem d_LW_law_587 : decode code 587 = .ok (.aload_n 2, 1) := by decide +kernel
theorem d_LW_law_588 : decode code 588 = .ok (.aload_n 0, 1) := by decide +kernel
theorem d_LW_law_589 : decode code 589 = .ok (.iload 4, 2) := by decide +kernel
theorem d_LW_law_591 : decode code 591 = .ok (.iconst 1, 1) := by decide +kernel
theorem d_LW_law_592 : decode code 592 = .ok (.iadd, 1) := by decide +kernel
theorem d_LW_law_593 : decode code 593 = .ok (.iaload, 1) := by decide +kernel
theorem d_LW_law_594 : decode code 594 = .ok (.aload_n 0, 1) := by decide +kernel
theorem d_LW_law_595 : decode code 595 = .ok (.iload 4, 2) := by decide +kernel
theorem d_LW_law_597 : decode code 597 = .ok (.iconst 2, 1) := by decide +kernel
theorem d_LW_law_598 : decode code 598 = .ok (.iadd, 1) := by decide +kernel
theorem d_LW_law_599 : decode code 599 = .ok (.iaload, 1) := by decide +kernel
theorem d_LW_law_600 : decode code 600 = .ok (.invokevirtual 124, 3) := by decide +kernel
theorem d_LW_law_603 : decode code 603 = .ok (.istore 6, 2) := by decide +kernel
theorem d_LW_law_605 : decode code 605 = .ok (.aload_n 2, 1) := by decide +kernel
theorem d_LW_law_606 : decode code 606 = .ok (.invokevirtual 93, 3) := by decide +kernel
theorem d_LW_law_609 : decode code 609 = .ok (.iload 5, 2) := by decide +kernel
theorem d_LW_law_611 : decode code 611 = .ok (.if_icmp .eq 5, 3) := by decide +kernel
theorem d_LW_law_614 : decode code 614 = .ok (.iconst 0, 1) := by decide +kernel
theorem d_LW_law_615 : decode code 615 = .ok (.ireturn, 1) := by decide +kernel
theorem d_LW_law_616 : decode code 616 = .ok (.iload 5, 2) := by decide +kernel
theorem d_LW_law_618 : decode code 618 = .ok (.ifCond .ne 15, 3) := by decide +kernel
theorem d_LW_law_621 : decode code 621 = .ok (.aload_n 3, 1) := by decide +kernel
theorem d_LW_law_622 : decode code 622 = .ok (.iconst 0, 1) := by decide +kernel
theorem d_LW_law_623 : decode code 623 = .ok (.laload, 1) := by decide +kernel
theorem d_LW_law_624 : decode code 624 = .ok (.iload 6, 2) := by decide +kernel
theorem d_LW_law_626 : decode code 626 = .ok (.i2l, 1) := by decide +kernel
theorem d_LW_law_627 : decode code 627 = .ok (.lcmp, 1) := by decide +kernel
theorem d_LW_law_628 : decode code 628 = .ok (.ifCond .eq 5, 3) := by decide +kernel
theorem d_LW_law_631 : decode code 631 = .ok (.iconst 0, 1) := by decide +kernel
theorem d_LW_law_632 : decode code 632 = .ok (.ireturn, 1) := by decide +kernel
theorem d_LW_law_633 : decode code 633 = .ok (.goto 671, 3) := by decide +kernel
theorem d_LW_law_636 : decode code 636 = .ok (.aload_n 1, 1) := by decide +kernel
theorem d_LW_law_637 : decode code 637 = .ok (.aload_n 0, 1) := by decide +kernel
theorem d_LW_law_638 : decode code 638 = .ok (.iload 4, 2) := by decide +kernel
theorem d_LW_law_640 : decode code 640 = .ok (.iconst 1, 1) := by decide +kernel
theorem d_LW_law_641 : decode code 641 = .ok (.iadd, 1) := by decide +kernel
theorem d_LW_law_642 : decode code 642 = .ok (.iaload, 1) := by decide +kernel
theorem d_LW_law_643 : decode code 643 = .ok (.aload_n 0, 1) := by decide +kernel
theorem d_LW_law_644 : decode code 644 = .ok (.iload 4, 2) := by decide +kernel
theorem d_LW_law_646 : decode code 646 = .ok (.iconst 2, 1) := by decide +kernel
theorem d_LW_law_647 : decode code 647 = .ok (.iadd, 1) := by decide +kernel
theorem d_LW_law_648 : decode code 648 = .ok (.iaload, 1) := by decide +kernel
theorem d_LW_law_649 : decode code 649 = .ok (.aload_n 3, 1) := by decide +kernel
theorem d_LW_law_650 : decode code 650 = .ok (.invokestatic 125, 3) := by decide +kernel
theorem d_LW_law_653 : decode code 653 = .ok (.istore 5, 2) := by decide +kernel
theorem d_LW_law_655 : decode code 655 = .ok (.aload_n 2, 1) := by decide +kernel
theorem d_LW_law_656 : decode code 656 = .ok (.aload_n 0, 1) := by decide +kernel
theorem d_LW_law_657 : decode code 657 = .ok (.iload 4, 2) := by decide +kernel
theorem d_LW_law_659 : decode code 659 = .ok (.iconst 1, 1) := by decide +kernel
theorem d_LW_law_660 : decode code 660 = .ok (.iadd, 1) := by decide +kernel
theorem d_LW_law_661 : decode code 661 = .ok (.iaload, 1) := by decide +kernel
theorem d_LW_law_662 : decode code 662 = .ok (.aload_n 0, 1) := by decide +kernel
theorem d_LW_law_663 : decode code 663 = .ok (.iload 4, 2) := by decide +kernel
theorem d_LW_law_665 : decode code 665 = .ok (.iconst 2, 1) := by decide +kernel
theorem d_LW_law_666 : decode code 666 = .ok (.iadd, 1) := by decide +kernel
theorem d_LW_law_667 : decode code 667 = .ok (.iaload, 1) := by decide +kernel
theorem d_LW_law_668 : decode code 668 = .ok (.invokevirtual 127, 3) := by decide +kernel
theorem d_LW_law_671 : decode code 671 = .ok (.istore 6, 2) := by decide +kernel
theorem d_LW_law_673 : decode code 673 = .ok (.aload_n 2, 1) := by decide +kernel
theorem d_LW_law_674 : decode code 674 = .ok (.invokevirtual 93, 3) := by decide +kernel
theorem d_LW_law_677 : decode code 677 = .ok (.iload 5, 2) := by decide +kernel
theorem d_LW_law_679 : decode code 679 = .ok (.if_icmp .eq 5, 3) := by decide +kernel
theorem d_LW_law_682 : decode code 682 = .ok (.iconst 0, 1) := by decide +kernel
theorem d_LW_law_683 : decode code 683 = .ok (.ireturn, 1) := by decide +kernel
theorem d_LW_law_684 : decode code 684 = .ok (.iload 5, 2) := by decide +kernel
theorem d_LW_law_686 : decode code 686 = .ok (.ifCond .ne 15, 3) := by decide +kernel
theorem d_LW_law_689 : decode code 689 = .ok (.aload_n 3, 1) := by decide +kernel
theorem d_LW_law_690 : decode code 690 = .ok (.iconst 0, 1) := by decide +kernel
theorem d_LW_law_691 : decode code 691 = .ok (.laload, 1) := by decide +kernel
theorem d_LW_law_692 : decode code 692 = .ok (.iload 6, 2) := by decide +kernel
theorem d_LW_law_694 : decode code 694 = .ok (.i2l, 1) := by decide +kernel
theorem d_LW_law_695 : decode code 695 = .ok (.lcmp, 1) := by decide +kernel
theorem d_LW_law_696 : decode code 696 = .ok (.ifCond .eq 5, 3) := by decide +kernel
theorem d_LW_law_699 : decode code 699 = .ok (.iconst 0, 1) := by decide +kernel
theorem d_LW_law_700 : decode code 700 = .ok (.ireturn, 1) := by decide +kernel
theorem d_LW_law_701 : decode code 701 = .ok (.goto 603, 3) := by decide +kernel
theorem d_LW_law_704 : decode code 704 = .ok (.aload_n 1, 1) := by decide +kernel
theorem d_LW_law_705 : decode code 705 = .ok (.aload_n 0, 1) := by decide +kernel
theorem d_LW_law_706 : decode code 706 = .ok (.iload 4, 2) := by decide +kernel
theorem d_LW_law_708 : decode code 708 = .ok (.iconst 1, 1) := by decide +kernel
