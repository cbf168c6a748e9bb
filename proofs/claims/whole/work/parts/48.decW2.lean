theorem d_L_law_405 : decode b_L_law 405 = .ok (.iconst 2, 1) := by decide +kernel
theorem d_L_law_406 : decode b_L_law 406 = .ok (.iadd, 1) := by decide +kernel
theorem d_L_law_407 : decode b_L_law 407 = .ok (.iaload, 1) := by decide +kernel
theorem d_L_law_408 : decode b_L_law 408 = .ok (.aload_n 3, 1) := by decide +kernel
theorem d_L_law_409 : decode b_L_law 409 = .ok (.invokestatic 94, 3) := by decide +kernel
theorem d_L_law_412 : decode b_L_law 412 = .ok (.istore 5, 2) := by decide +kernel
theorem d_L_law_414 : decode b_L_law 414 = .ok (.aload_n 2, 1) := by decide +kernel
theorem d_L_law_415 : decode b_L_law 415 = .ok (.aload_n 0, 1) := by decide +kernel
theorem d_L_law_416 : decode b_L_law 416 = .ok (.iload 4, 2) := by decide +kernel
theorem d_L_law_418 : decode b_L_law 418 = .ok (.iconst 1, 1) := by decide +kernel
theorem d_L_law_419 : decode b_L_law 419 = .ok (.iadd, 1) := by decide +kernel
theorem d_L_law_420 : decode b_L_law 420 = .ok (.iaload, 1) := by decide +kernel
theorem d_L_law_421 : decode b_L_law 421 = .ok (.aload_n 0, 1) := by decide +kernel
theorem d_L_law_422 : decode b_L_law 422 = .ok (.iload 4, 2) := by decide +kernel
theorem d_L_law_424 : decode b_L_law 424 = .ok (.iconst 2, 1) := by decide +kernel
theorem d_L_law_425 : decode b_L_law 425 = .ok (.iadd, 1) := by decide +kernel
theorem d_L_law_426 : decode b_L_law 426 = .ok (.iaload, 1) := by decide +kernel
theorem d_L_law_427 : decode b_L_law 427 = .ok (.invokevirtual 97, 3) := by decide +kernel
theorem d_L_law_430 : decode b_L_law 430 = .ok (.istore 6, 2) := by decide +kernel
theorem d_L_law_432 : decode b_L_law 432 = .ok (.aload_n 2, 1) := by decide +kernel
theorem d_L_law_433 : decode b_L_law 433 = .ok (.invokevirtual 80, 3) := by decide +kernel
theorem d_L_law_436 : decode b_L_law 436 = .ok (.iload 5, 2) := by decide +kernel
theorem d_L_law_438 : decode b_L_law 438 = .ok (.if_icmp .eq 5, 3) := by decide +kernel
theorem d_L_law_441 : decode b_L_law 441 = .ok (.iconst 0, 1) := by decide +kernel
theorem d_L_law_442 : decode b_L_law 442 = .ok (.ireturn, 1) := by decide +kernel
theorem d_L_law_443 : decode b_L_law 443 = .ok (.iload 5, 2) := by decide +kernel
theorem d_L_law_445 : decode b_L_law 445 = .ok (.ifCond .ne 22, 3) := by decide +kernel
theorem d_L_law_448 : decode b_L_law 448 = .ok (.aload_n 3, 1) := by decide +kernel
theorem d_L_law_449 : decode b_L_law 449 = .ok (.iconst 0, 1) := by decide +kernel
theorem d_L_law_450 : decode b_L_law 450 = .ok (.laload, 1) := by decide +kernel
theorem d_L_law_451 : decode b_L_law 451 = .ok (.iload 6, 2) := by decide +kernel
theorem d_L_law_453 : decode b_L_law 453 = .ok (.ifCond .eq 7, 3) := by decide +kernel
theorem d_L_law_456 : decode b_L_law 456 = .ok (.lconst 1, 1) := by decide +kernel
theorem d_L_law_457 : decode b_L_law 457 = .ok (.goto 4, 3) := by decide +kernel
theorem d_L_law_460 : decode b_L_law 460 = .ok (.lconst 0, 1) := by decide +kernel
theorem d_L_law_461 : decode b_L_law 461 = .ok (.lcmp, 1) := by decide +kernel
theorem d_L_law_462 : decode b_L_law 462 = .ok (.ifCond .eq 5, 3) := by decide +kernel
theorem d_L_law_465 : decode b_L_law 465 = .ok (.iconst 0, 1) := by decide +kernel
theorem d_L_law_466 : decode b_L_law 466 = .ok (.ireturn, 1) := by decide +kernel
theorem d_L_law_467 : decode b_L_law 467 = .ok (.goto 875, 3) := by decide +kernel
theorem d_L_law_470 : decode b_L_law 470 = .ok (.aload_n 1, 1) := by decide +kernel
theorem d_L_law_471 : decode b_L_law 471 = .ok (.aload_n 0, 1) := by decide +kernel
theorem d_L_law_472 : decode b_L_law 472 = .ok (.iload 4, 2) := by decide +kernel
theorem d_L_law_474 : decode b_L_law 474 = .ok (.iconst 1, 1) := by decide +kernel
theorem d_L_law_475 : decode b_L_law 475 = .ok (.iadd, 1) := by decide +kernel
theorem d_L_law_476 : decode b_L_law 476 = .ok (.iaload, 1) := by decide +kernel
theorem d_L_law_477 : decode b_L_law 477 = .ok (.aload_n 0, 1) := by decide +kernel
theorem d_L_law_478 : decode b_L_law 478 = .ok (.iload 4, 2) := by decide +kernel
theorem d_L_law_480 : decode b_L_law 480 = .ok (.iconst 2, 1) := by decide +kernel
theorem d_L_law_481 : decode b_L_law 481 = .ok (.iadd, 1) := by decide +kernel
theorem d_L_law_482 : decode b_L_law 482 = .ok (.iaload, 1) := by decide +kernel
theorem d_L_law_483 : decode b_L_law 483 = .ok (.aload_n 3, 1) := by decide +kernel
theorem d_L_law_484 : decode b_L_law 484 = .ok (.invokestatic 98, 3) := by decide +kernel
theorem d_L_law_487 : decode b_L_law 487 = .ok (.istore 5, 2) := by decide +kernel
theorem d_L_law_489 : decode b_L_law 489 = .ok (.aload_n 2, 1) := by decide +kernel
theorem d_L_law_490 : decode b_L_law 490 = .ok (.aload_n 0, 1) := by decide +kernel
theorem d_L_law_491 : decode b_L_law 491 = .ok (.iload 4, 2) := by decide +kernel
theorem d_L_law_493 : decode b_L_law 493 = .ok (.iconst 1, 1) := by decide +kernel
theorem d_L_law_494 : decode b_L_law 494 = .ok (.iadd, 1) := by decide +kernel
theorem d_L_law_495 : decode b_L_law 495 = .ok (.iaload, 1) := by decide +kernel
theorem d_L_law_496 : decode b_L_law 496 = .ok (.aload_n 0, 1) := by decide +kernel
theorem d_L_law_497 : decode b_L_law 497 = .ok (.iload 4, 2) := by decide +kernel
theorem d_L_law_499 : decode b_L_law 499 = .ok (.iconst 2, 1) := by decide +kernel
theorem d_L_law_500 : decode b_L_law 500 = .ok (.iadd, 1) := by decide +kernel
theorem d_L_law_501 : decode b_L_law 501 = .ok (.iaload, 1) := by decide +kernel
theorem d_L_law_502 : decode b_L_law 502 = .ok (.invokevirtual 100, 3) := by decide +kernel
theorem d_L_law_505 : decode b_L_law 505 = .ok (.istore 6, 2) := by decide +kernel
theorem d_L_law_507 : decode b_L_law 507 = .ok (.aload_n 2, 1) := by decide +kernel
theorem d_L_law_508 : decode b_L_law 508 = .ok (.invokevirtual 80, 3) := by decide +kernel
theorem d_L_law_511 : decode b_L_law 511 = .ok (.iload 5, 2) := by decide +kernel
theorem d_L_law_513 : decode b_L_law 513 = .ok (.if_icmp .eq 5, 3) := by decide +kernel
theorem d_L_law_516 : decode b_L_law 516 = .ok (.iconst 0, 1) := by decide +kernel
theorem d_L_law_517 : decode b_L_law 517 = .ok (.ireturn, 1) := by decide +kernel
theorem d_L_law_518 : decode b_L_law 518 = .ok (.iload 5, 2) := by decide +kernel
theorem d_L_law_520 : decode b_L_law 520 = .ok (.ifCond .ne 15, 3) := by decide +kernel
theorem d_L_law_523 : decode b_L_law 523 = .ok (.aload_n 3, 1) := by decide +kernel
theorem d_L_law_524 : decode b_L_law 524 = .ok (.iconst 0, 1) := by decide +kernel
theorem d_L_law_525 : decode b_L_law 525 = .ok (.laload, 1) := by decide +kernel
theorem d_L_law_526 : decode b_L_law 526 = .ok (.iload 6, 2) := by decide +kernel
theorem d_L_law_528 : decode b_L_law 528 = .ok (.i2l, 1) := by decide +kernel
theorem d_L_law_529 : decode b_L_law 529 = .ok (.lcmp, 1) := by decide +kernel
theorem d_L_law_530 : decode b_L_law 530 = .ok (.ifCond .eq 5, 3) := by decide +kernel
theorem d_L_law_533 : decode b_L_law 533 = .ok (.iconst 0, 1) := by decide +kernel
theorem d_L_law_534 : decode b_L_law 534 = .ok (.ireturn, 1) := by decide +kernel
theorem d_L_law_535 : decode b_L_law 535 = .ok (.goto 807, 3) := by decide +kernel
theorem d_L_law_538 : decode b_L_law 538 = .ok (.aload_n 1, 1) := by decide +kernel
theorem d_L_law_539 : decode b_L_law 539 = .ok (.aload_n 0, 1) := by decide +kernel
theorem d_L_law_540 : decode b_L_law 540 = .ok (.iload 4, 2) := by decide +kernel
theorem d_L_law_542 : decode b_L_law 542 = .ok (.iconst 1, 1) := by decide +kernel
theorem d_L_law_543 : decode b_L_law 543 = .ok (.iadd, 1) := by decide +kernel
theorem d_L_law_544 : decode b_L_law 544 = .ok (.iaload, 1) := by decide +kernel
theorem d_L_law_545 : decode b_L_law 545 = .ok (.aload_n 0, 1) := by decide +kernel
theorem d_L_law_546 : decode b_L_law 546 = .ok (.iload 4, 2) := by decide +kernel
theorem d_L_law_548 : decode b_L_law 548 = .ok (.iconst 2, 1) := by decide +kernel
theorem d_L_law_549 : decode b_L_law 549 = .ok (.iadd, 1) := by decide +kernel
theorem d_L_law_550 : decode b_L_law 550 = .ok (.iaload, 1) := by decide +kernel
theorem d_L_law_551 : decode b_L_law 551 = .ok (.aload_n 0, 1) := by decide +kernel
theorem d_L_law_552 : decode b_L_law 552 = .ok (.iload 4, 2) := by decide +kernel
theorem d_L_law_554 : decode b_L_law 554 = .ok (.iconst 3, 1) := by decide +kernel
theorem d_L_law_555 : decode b_L_law 555 = .ok (.iadd, 1) := by decide +kernel
theorem d_L_law_556 : decode b_L_law 556 = .ok (.iaload, 1) := by decide +kernel
theorem d_L_law_557 : decode b_L_law 557 = .ok (.aload_n 0, 1) := by decide +kernel
theorem d_L_law_558 : decode b_L_law 558 = .ok (.iload 4, 2) := by decide +kernel
theorem d_L_law_560 : decode b_L_law 560 = .ok (.iconst 4, 1) := by decide +kernel
theorem d_L_law_561 : decode b_L_law 561 = .ok (.iadd, 1) := by decide +kernel
theorem d_L_law_562 : decode b_L_law 562 = .ok (.iaload, 1) := by decide +kernel
theorem d_L_law_563 : decode b_L_law 563 = .ok (.aload_n 3, 1) := by decide +kernel
theorem d_L_law_564 : decode b_L_law 564 = .ok (.invokestatic 101, 3) := by decide +kernel
theorem d_L_law_567 : decode b_L_law 567 = .ok (.istore 5, 2) := by decide +kernel
theorem d_L_law_569 : decode b_L_law 569 = .ok (.aload_n 2, 1) := by decide +kernel
theorem d_L_law_570 : decode b_L_law 570 = .ok (.aload_n 0, 1) := by decide +kernel
theorem d_L_law_571 : decode b_L_law 571 = .ok (.iload 4, 2) := by decide +kernel
theorem d_L_law_573 : decode b_L_law 573 = .ok (.iconst 1, 1) := by decide +kernel
theorem d_L_law_574 : decode b_L_law 574 = .ok (.iadd, 1) := by decide +kernel
theorem d_L_law_575 : decode b_L_law 575 = .ok (.iaload, 1) := by decide +kernel
theorem d_L_law_576 : decode b_L_law 576 = .ok (.aload_n 0, 1) := by decide +kernel
theorem d_L_law_577 : decode b_L_law 577 = .ok (.iload 4, 2) := by decide +kernel
theorem d_L_law_579 : decode b_L_law 579 = .ok (.iconst 2, 1) := by decide +kernel
theorem d_L_law_580 : decode b_L_law 580 = .ok (.iadd, 1) := by decide +kernel
theorem d_L_law_581 : decode b_L_law 581 = .ok (.iaload, 1) := by decide +kernel
theorem d_L_law_582 : decode b_L_law 582 = .ok (.aload_n 0, 1) := by decide +kernel
theorem d_L_law_583 : decode b_L_law 583 = .ok (.iload 4, 2) := by decide +kernel
theorem d_L_law_585 : decode b_L_law 585 = .ok (.iconst 3, 1) := by decide +kernel
theorem d_L_law_586 : decode b_L_law 586 = .ok (.iadd, 1) := by decide +kernel
theorem d_L_law_587 : decode b_L_law 587 = .ok (.iaload, 1) := by decide +kernel
theorem d_L_law_588 : decode b_L_law 588 = .ok (.aload_n 0, 1) := by decide +kernel
theorem d_L_law_589 : decode b_L_law 589 = .ok (.iload 4, 2) := by decide +kernel
theorem d_L_law_591 : decode b_L_law 591 = .ok (.iconst 4, 1) := by decide +kernel
theorem d_L_law_592 : decode b_L_law 592 = .ok (.iadd, 1) := by decide +kernel
theorem d_L_law_593 : decode b_L_law 593 = .ok (.iaload, 1) := by decide +kernel
theorem d_L_law_594 : decode b_L_law 594 = .ok (.invokevirtual 104, 3) := by decide +kernel
theorem d_L_law_597 : decode b_L_law 597 = .ok (.istore 6, 2) := by decide +kernel
theorem d_L_law_599 : decode b_L_law 599 = .ok (.aload_n 2, 1) := by decide +kernel
theorem d_L_law_600 : decode b_L_law 600 = .ok (.invokevirtual 80, 3) := by decide +kernel
theorem d_L_law_603 : decode b_L_law 603 = .ok (.iload 5, 2) := by decide +kernel
theorem d_L_law_605 : decode b_L_law 605 = .ok (.if_icmp .eq 5, 3) := by decide +kernel
theorem d_L_law_608 : decode b_L_law 608 = .ok (.iconst 0, 1) := by decide +kernel
theorem d_L_law_609 : decode b_L_law 609 = .ok (.ireturn, 1) := by decide +kernel
theorem d_L_law_610 : decode b_L_law 610 = .ok (.iload 5, 2) := by decide +kernel
theorem d_L_law_612 : decode b_L_law 612 = .ok (.ifCond .ne 15, 3) := by decide +kernel
theorem d_L_law_615 : decode b_L_law 615 = .ok (.aload_n 3, 1) := by decide +kernel
theorem d_L_law_616 : decode b_L_law 616 = .ok (.iconst 0, 1) := by decide +kernel
theorem d_L_law_617 : decode b_L_law 617 = .ok (.laload, 1) := by decide +kernel
theorem d_L_law_618 : decode b_L_law 618 = .ok (.iload 6, 2) := by decide +kernel
theorem d_L_law_620 : decode b_L_law 620 = .ok (.i2l, 1) := by decide +kernel
theorem d_L_law_621 : decode b_L_law 621 = .ok (.lcmp, 1) := by decide +kernel
theorem d_L_law_622 : decode b_L_law 622 = .ok (.ifCond .eq 5, 3) := by decide +kernel
theorem d_L_law_625 : decode b_L_law 625 = .ok (.iconst 0, 1) := by decide +kernel
theorem d_L_law_626 : decode b_L_law 626 = .ok (.ireturn, 1) := by decide +kernel
theorem d_L_law_627 : decode b_L_law 627 = .ok (.goto 715, 3) := by decide +kernel
theorem d_L_law_630 : decode b_L_law 630 = .ok (.aload_n 1, 1) := by decide +kernel
theorem d_L_law_631 : decode b_L_law 631 = .ok (.aload_n 0, 1) := by decide +kernel
theorem d_L_law_632 : decode b_L_law 632 = .ok (.iload 4, 2) := by decide +kernel
theorem d_L_law_634 : decode b_L_law 634 = .ok (.iconst 1, 1) := by decide +kernel
theorem d_L_law_635 : decode b_L_law 635 = .ok (.iadd, 1) := by decide +kernel
theorem d_L_law_636 : decode b_L_law 636 = .ok (.iaload, 1) := by decide +kernel
theorem d_L_law_637 : decode b_L_law 637 = .ok (.aload_n 0, 1) := by decide +kernel
theorem d_L_law_638 : decode b_L_law 638 = .ok (.iload 4, 2) := by decide +kernel
theorem d_L_law_640 : decode b_L_law 640 = .ok (.iconst 2, 1) := by decide +kernel
theorem d_L_law_641 : decode b_L_law 641 = .ok (.iadd, 1) := by decide +kernel
theorem d_L_law_642 : decode b_L_law 642 = .ok (.iaload, 1) := by decide +kernel
theorem d_L_law_643 : decode b_L_law 643 = .ok (.aload_n 0, 1) := by decide +kernel
theorem d_L_law_644 : decode b_L_law 644 = .ok (.iload 4, 2) := by decide +kernel
theorem d_L_law_646 : decode b_L_law 646 = .ok (.iconst 3, 1) := by decide +kernel
theorem d_L_law_647 : decode b_L_law 647 = .ok (.iadd, 1) := by decide +kernel
theorem d_L_law_648 : decode b_L_law 648 = .ok (.iaload, 1) := by decide +kernel
theorem d_L_law_649 : decode b_L_law 649 = .ok (.aload_n 0, 1) := by decide +kernel
theorem d_L_law_650 : decode b_L_law 650 = .ok (.iload 4, 2) := by decide +kernel
theorem d_L_law_652 : decode b_L_law 652 = .ok (.iconst 4, 1) := by decide +kernel
theorem d_L_law_653 : decode b_L_law 653 = .ok (.iadd, 1) := by decide +kernel
theorem d_L_law_654 : decode b_L_law 654 = .ok (.iaload, 1) := by decide +kernel
theorem d_L_law_655 : decode b_L_law 655 = .ok (.aload_n 3, 1) := by decide +kernel
theorem d_L_law_656 : decode b_L_law 656 = .ok (.invokestatic 105, 3) := by decide +kernel
theorem d_L_law_659 : decode b_L_law 659 = .ok (.istore 5, 2) := by decide +kernel
theorem d_L_law_661 : decode b_L_law 661 = .ok (.aload_n 2, 1) := by decide +kernel
theorem d_L_law_662 : decode b_L_law 662 = .ok (.aload_n 0, 1) := by decide +kernel
theorem d_L_law_663 : decode b_L_law 663 = .ok (.iload 4, 2) := by decide +kernel
theorem d_L_law_665 : decode b_L_law 665 = .ok (.iconst 1, 1) := by decide +kernel
theorem d_L_law_666 : decode b_L_law 666 = .ok (.iadd, 1) := by decide +kernel
theorem d_L_law_667 : decode b_L_law 667 = .ok (.iaload, 1) := by decide +kernel
theorem d_L_law_668 : decode b_L_law 668 = .ok (.aload_n 0, 1) := by decide +kernel
theorem d_L_law_669 : decode b_L_law 669 = .ok (.iload 4, 2) := by decide +kernel
theorem d_L_law_671 : decode b_L_law 671 = .ok (.iconst 2, 1) := by decide +kernel
theorem d_L_law_672 : decode b_L_law 672 = .ok (.iadd, 1) := by decide +kernel
theorem d_L_law_673 : decode b_L_law 673 = .ok (.iaload, 1) := by decide +kernel
theorem d_L_law_674 : decode b_L_law 674 = .ok (.aload_n 0, 1) := by decide +kernel
theorem d_L_law_675 : decode b_L_law 675 = .ok (.iload 4, 2) := by decide +kernel
theorem d_L_law_677 : decode b_L_law 677 = .ok (.iconst 3, 1) := by decide +kernel
theorem d_L_law_678 : decode b_L_law 678 = .ok (.iadd, 1) := by decide +kernel
theorem d_L_law_679 : decode b_L_law 679 = .ok (.iaload, 1) := by decide +kernel
theorem d_L_law_680 : decode b_L_law 680 = .ok (.aload_n 0, 1) := by decide +kernel
theorem d_L_law_681 : decode b_L_law 681 = .ok (.iload 4, 2) := by decide +kernel
theorem d_L_law_683 : decode b_L_law 683 = .ok (.iconst 4, 1) := by decide +kernel
theorem d_L_law_684 : decode b_L_law 684 = .ok (.iadd, 1) := by decide +kernel
theorem d_L_law_685 : decode b_L_law 685 = .ok (.iaload, 1) := by decide +kernel
theorem d_L_law_686 : decode b_L_law 686 = .ok (.invokevirtual 107, 3) := by decide +kernel
theorem d_L_law_689 : decode b_L_law 689 = .ok (.istore 6, 2) := by decide +kernel
theorem d_L_law_691 : decode b_L_law 691 = .ok (.aload_n 2, 1) := by decide +kernel
theorem d_L_law_692 : decode b_L_law 692 = .ok (.invokevirtual 80, 3) := by decide +kernel
theorem d_L_law_695 : decode b_L_law 695 = .ok (.iload 5, 2) := by decide +kernel
theorem d_L_law_697 : decode b_L_law 697 = .ok (.if_icmp .eq 5, 3) := by decide +kernel
theorem d_L_law_700 : decode b_L_law 700 = .ok (.iconst 0, 1) := by decide +kernel
theorem d_L_law_701 : decode b_L_law 701 = .ok (.ireturn, 1) := by decide +kernel
theorem d_L_law_702 : decode b_L_law 702 = .ok (.iload 5, 2) := by decide +kernel
theorem d_L_law_704 : decode b_L_law 704 = .ok (.ifCond .ne 15, 3) := by decide +kernel
theorem d_L_law_707 : decode b_L_law 707 = .ok (.aload_n 3, 1) := by decide +kernel
theorem d_L_law_708 : decode b_L_law 708 = .ok (.iconst 0, 1) := by decide +kernel
theorem d_L_law_709 : decode b_L_law 709 = .ok (.laload, 1) := by decide +kernel
theorem d_L_law_710 : decode b_L_law 710 = .ok (.iload 6, 2) := by decide +kernel
theorem d_L_law_712 : decode b_L_law 712 = .ok (.i2l, 1) := by decide +kernel
theorem d_L_law_713 : decode b_L_law 713 = .ok (.lcmp, 1) := by decide +kernel
theorem d_L_law_714 : decode b_L_law 714 = .ok (.ifCond .eq 5, 3) := by decide +kernel
theorem d_L_law_717 : decode b_L_law 717 = .ok (.iconst 0, 1) := by decide +kernel
theorem d_L_law_718 : decode b_L_law 718 = .ok (.ireturn, 1) := by decide +kernel
theorem d_L_law_719 : decode b_L_law 719 = .ok (.goto 623, 3) := by decide +kernel
theorem d_L_law_722 : decode b_L_law 722 = .ok (.aload_n 1, 1) := by decide +kernel
