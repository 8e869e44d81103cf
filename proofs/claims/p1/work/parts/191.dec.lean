theorem d_cL_law_365 : decode cL_law 365 = .ok (.iaload, 1) := by decide +kernel
theorem d_cL_law_366 : decode cL_law 366 = .ok (.invokevirtual 84, 3) := by decide +kernel
theorem d_cL_law_369 : decode cL_law 369 = .ok (.istore 6, 2) := by decide +kernel
theorem d_cL_law_371 : decode cL_law 371 = .ok (.aload_n 2, 1) := by decide +kernel
theorem d_cL_law_372 : decode cL_law 372 = .ok (.invokevirtual 63, 3) := by decide +kernel
theorem d_cL_law_375 : decode cL_law 375 = .ok (.iload 5, 2) := by decide +kernel
theorem d_cL_law_377 : decode cL_law 377 = .ok (.if_icmp .eq 5, 3) := by decide +kernel
theorem d_cL_law_382 : decode cL_law 382 = .ok (.iload 5, 2) := by decide +kernel
theorem d_cL_law_384 : decode cL_law 384 = .ok (.ifCond .ne 15, 3) := by decide +kernel
theorem d_cL_law_387 : decode cL_law 387 = .ok (.aload_n 3, 1) := by decide +kernel
theorem d_cL_law_388 : decode cL_law 388 = .ok (.iconst 0, 1) := by decide +kernel
theorem d_cL_law_389 : decode cL_law 389 = .ok (.laload, 1) := by decide +kernel
theorem d_cL_law_390 : decode cL_law 390 = .ok (.iload 6, 2) := by decide +kernel
theorem d_cL_law_392 : decode cL_law 392 = .ok (.i2l, 1) := by decide +kernel
theorem d_cL_law_393 : decode cL_law 393 = .ok (.lcmp, 1) := by decide +kernel
theorem d_cL_law_394 : decode cL_law 394 = .ok (.ifCond .eq 5, 3) := by decide +kernel
theorem d_cL_law_399 : decode cL_law 399 = .ok (.goto 394, 3) := by decide +kernel
theorem d_cL_law_402 : decode cL_law 402 = .ok (.aload_n 1, 1) := by decide +kernel
theorem d_cL_law_403 : decode cL_law 403 = .ok (.aload_n 0, 1) := by decide +kernel
theorem d_cL_law_404 : decode cL_law 404 = .ok (.iload 4, 2) := by decide +kernel
theorem d_cL_law_406 : decode cL_law 406 = .ok (.iconst 1, 1) := by decide +kernel
theorem d_cL_law_407 : decode cL_law 407 = .ok (.iadd, 1) := by decide +kernel
theorem d_cL_law_408 : decode cL_law 408 = .ok (.iaload, 1) := by decide +kernel
theorem d_cL_law_409 : decode cL_law 409 = .ok (.aload_n 0, 1) := by decide +kernel
theorem d_cL_law_410 : decode cL_law 410 = .ok (.iload 4, 2) := by decide +kernel
theorem d_cL_law_412 : decode cL_law 412 = .ok (.iconst 2, 1) := by decide +kernel
theorem d_cL_law_413 : decode cL_law 413 = .ok (.iadd, 1) := by decide +kernel
theorem d_cL_law_414 : decode cL_law 414 = .ok (.iaload, 1) := by decide +kernel
theorem d_cL_law_415 : decode cL_law 415 = .ok (.aload_n 3, 1) := by decide +kernel
theorem d_cL_law_416 : decode cL_law 416 = .ok (.invokestatic 85, 3) := by decide +kernel
theorem d_cL_law_419 : decode cL_law 419 = .ok (.istore 5, 2) := by decide +kernel
theorem d_cL_law_421 : decode cL_law 421 = .ok (.aload_n 2, 1) := by decide +kernel
theorem d_cL_law_422 : decode cL_law 422 = .ok (.aload_n 0, 1) := by decide +kernel
theorem d_cL_law_423 : decode cL_law 423 = .ok (.iload 4, 2) := by decide +kernel
theorem d_cL_law_425 : decode cL_law 425 = .ok (.iconst 1, 1) := by decide +kernel
theorem d_cL_law_426 : decode cL_law 426 = .ok (.iadd, 1) := by decide +kernel
theorem d_cL_law_427 : decode cL_law 427 = .ok (.iaload, 1) := by decide +kernel
theorem d_cL_law_428 : decode cL_law 428 = .ok (.aload_n 0, 1) := by decide +kernel
theorem d_cL_law_429 : decode cL_law 429 = .ok (.iload 4, 2) := by decide +kernel
theorem d_cL_law_431 : decode cL_law 431 = .ok (.iconst 2, 1) := by decide +kernel
theorem d_cL_law_432 : decode cL_law 432 = .ok (.iadd, 1) := by decide +kernel
theorem d_cL_law_433 : decode cL_law 433 = .ok (.iaload, 1) := by decide +kernel
theorem d_cL_law_434 : decode cL_law 434 = .ok (.invokevirtual 88, 3) := by decide +kernel
theorem d_cL_law_437 : decode cL_law 437 = .ok (.istore 6, 2) := by decide +kernel
theorem d_cL_law_439 : decode cL_law 439 = .ok (.aload_n 2, 1) := by decide +kernel
theorem d_cL_law_440 : decode cL_law 440 = .ok (.invokevirtual 63, 3) := by decide +kernel
theorem d_cL_law_443 : decode cL_law 443 = .ok (.iload 5, 2) := by decide +kernel
theorem d_cL_law_445 : decode cL_law 445 = .ok (.if_icmp .eq 5, 3) := by decide +kernel
theorem d_cL_law_450 : decode cL_law 450 = .ok (.iload 5, 2) := by decide +kernel
theorem d_cL_law_452 : decode cL_law 452 = .ok (.ifCond .ne 15, 3) := by decide +kernel
theorem d_cL_law_467 : decode cL_law 467 = .ok (.goto 326, 3) := by decide +kernel
theorem d_cL_law_470 : decode cL_law 470 = .ok (.aload_n 1, 1) := by decide +kernel
theorem d_cL_law_471 : decode cL_law 471 = .ok (.aload_n 0, 1) := by decide +kernel
theorem d_cL_law_472 : decode cL_law 472 = .ok (.iload 4, 2) := by decide +kernel
theorem d_cL_law_474 : decode cL_law 474 = .ok (.iconst 1, 1) := by decide +kernel
theorem d_cL_law_475 : decode cL_law 475 = .ok (.iadd, 1) := by decide +kernel
theorem d_cL_law_476 : decode cL_law 476 = .ok (.iaload, 1) := by decide +kernel
theorem d_cL_law_477 : decode cL_law 477 = .ok (.ifCond .eq 7, 3) := by decide +kernel
theorem d_cL_law_480 : decode cL_law 480 = .ok (.iconst 1, 1) := by decide +kernel
theorem d_cL_law_481 : decode cL_law 481 = .ok (.goto 4, 3) := by decide +kernel
theorem d_cL_law_484 : decode cL_law 484 = .ok (.iconst 0, 1) := by decide +kernel
theorem d_cL_law_485 : decode cL_law 485 = .ok (.aload_n 0, 1) := by decide +kernel
theorem d_cL_law_486 : decode cL_law 486 = .ok (.iload 4, 2) := by decide +kernel
theorem d_cL_law_488 : decode cL_law 488 = .ok (.iconst 2, 1) := by decide +kernel
theorem d_cL_law_489 : decode cL_law 489 = .ok (.iadd, 1) := by decide +kernel
theorem d_cL_law_490 : decode cL_law 490 = .ok (.iaload, 1) := by decide +kernel
theorem d_cL_law_491 : decode cL_law 491 = .ok (.aload_n 3, 1) := by decide +kernel
theorem d_cL_law_492 : decode cL_law 492 = .ok (.invokestatic 89, 3) := by decide +kernel
theorem d_cL_law_495 : decode cL_law 495 = .ok (.istore 5, 2) := by decide +kernel
theorem d_cL_law_497 : decode cL_law 497 = .ok (.aload_n 2, 1) := by decide +kernel
theorem d_cL_law_498 : decode cL_law 498 = .ok (.aload_n 0, 1) := by decide +kernel
theorem d_cL_law_499 : decode cL_law 499 = .ok (.iload 4, 2) := by decide +kernel
theorem d_cL_law_501 : decode cL_law 501 = .ok (.iconst 1, 1) := by decide +kernel
theorem d_cL_law_502 : decode cL_law 502 = .ok (.iadd, 1) := by decide +kernel
theorem d_cL_law_503 : decode cL_law 503 = .ok (.iaload, 1) := by decide +kernel
theorem d_cL_law_504 : decode cL_law 504 = .ok (.ifCond .eq 7, 3) := by decide +kernel
theorem d_cL_law_507 : decode cL_law 507 = .ok (.iconst 1, 1) := by decide +kernel
theorem d_cL_law_508 : decode cL_law 508 = .ok (.goto 4, 3) := by decide +kernel
theorem d_cL_law_511 : decode cL_law 511 = .ok (.iconst 0, 1) := by decide +kernel
theorem d_cL_law_512 : decode cL_law 512 = .ok (.aload_n 0, 1) := by decide +kernel
theorem d_cL_law_513 : decode cL_law 513 = .ok (.iload 4, 2) := by decide +kernel
theorem d_cL_law_515 : decode cL_law 515 = .ok (.iconst 2, 1) := by decide +kernel
theorem d_cL_law_516 : decode cL_law 516 = .ok (.iadd, 1) := by decide +kernel
theorem d_cL_law_517 : decode cL_law 517 = .ok (.iaload, 1) := by decide +kernel
theorem d_cL_law_518 : decode cL_law 518 = .ok (.invokevirtual 92, 3) := by decide +kernel
theorem d_cL_law_521 : decode cL_law 521 = .ok (.istore 6, 2) := by decide +kernel
theorem d_cL_law_523 : decode cL_law 523 = .ok (.aload_n 2, 1) := by decide +kernel
theorem d_cL_law_524 : decode cL_law 524 = .ok (.invokevirtual 63, 3) := by decide +kernel
theorem d_cL_law_527 : decode cL_law 527 = .ok (.iload 5, 2) := by decide +kernel
theorem d_cL_law_529 : decode cL_law 529 = .ok (.if_icmp .eq 5, 3) := by decide +kernel
theorem d_cL_law_534 : decode cL_law 534 = .ok (.iload 5, 2) := by decide +kernel
theorem d_cL_law_536 : decode cL_law 536 = .ok (.ifCond .ne 15, 3) := by decide +kernel
theorem d_cL_law_551 : decode cL_law 551 = .ok (.goto 242, 3) := by decide +kernel
theorem d_cL_law_554 : decode cL_law 554 = .ok (.aload_n 1, 1) := by decide +kernel
theorem d_cL_law_555 : decode cL_law 555 = .ok (.aload_n 0, 1) := by decide +kernel
theorem d_cL_law_556 : decode cL_law 556 = .ok (.iload 4, 2) := by decide +kernel
theorem d_cL_law_558 : decode cL_law 558 = .ok (.iconst 1, 1) := by decide +kernel
theorem d_cL_law_559 : decode cL_law 559 = .ok (.iadd, 1) := by decide +kernel
theorem d_cL_law_560 : decode cL_law 560 = .ok (.iaload, 1) := by decide +kernel
theorem d_cL_law_561 : decode cL_law 561 = .ok (.aload_n 3, 1) := by decide +kernel
theorem d_cL_law_562 : decode cL_law 562 = .ok (.invokestatic 93, 3) := by decide +kernel
theorem d_cL_law_565 : decode cL_law 565 = .ok (.istore 5, 2) := by decide +kernel
theorem d_cL_law_567 : decode cL_law 567 = .ok (.aload_n 2, 1) := by decide +kernel
theorem d_cL_law_568 : decode cL_law 568 = .ok (.aload_n 0, 1) := by decide +kernel
theorem d_cL_law_569 : decode cL_law 569 = .ok (.iload 4, 2) := by decide +kernel
theorem d_cL_law_571 : decode cL_law 571 = .ok (.iconst 1, 1) := by decide +kernel
theorem d_cL_law_572 : decode cL_law 572 = .ok (.iadd, 1) := by decide +kernel
theorem d_cL_law_573 : decode cL_law 573 = .ok (.iaload, 1) := by decide +kernel
theorem d_cL_law_574 : decode cL_law 574 = .ok (.invokevirtual 95, 3) := by decide +kernel
theorem d_cL_law_577 : decode cL_law 577 = .ok (.istore 6, 2) := by decide +kernel
theorem d_cL_law_579 : decode cL_law 579 = .ok (.aload_n 2, 1) := by decide +kernel
theorem d_cL_law_580 : decode cL_law 580 = .ok (.invokevirtual 63, 3) := by decide +kernel
theorem d_cL_law_583 : decode cL_law 583 = .ok (.iload 5, 2) := by decide +kernel
theorem d_cL_law_585 : decode cL_law 585 = .ok (.if_icmp .eq 5, 3) := by decide +kernel
theorem d_cL_law_590 : decode cL_law 590 = .ok (.iload 5, 2) := by decide +kernel
theorem d_cL_law_592 : decode cL_law 592 = .ok (.ifCond .ne 15, 3) := by decide +kernel
theorem d_cL_law_595 : decode cL_law 595 = .ok (.aload_n 3, 1) := by decide +kernel
theorem d_cL_law_596 : decode cL_law 596 = .ok (.iconst 0, 1) := by decide +kernel
theorem d_cL_law_597 : decode cL_law 597 = .ok (.laload, 1) := by decide +kernel
theorem d_cL_law_598 : decode cL_law 598 = .ok (.iload 6, 2) := by decide +kernel
theorem d_cL_law_600 : decode cL_law 600 = .ok (.i2l, 1) := by decide +kernel
theorem d_cL_law_601 : decode cL_law 601 = .ok (.lcmp, 1) := by decide +kernel
theorem d_cL_law_602 : decode cL_law 602 = .ok (.ifCond .eq 5, 3) := by decide +kernel
theorem d_cL_law_607 : decode cL_law 607 = .ok (.goto 186, 3) := by decide +kernel
theorem d_cL_law_610 : decode cL_law 610 = .ok (.aload_n 1, 1) := by decide +kernel
theorem d_cL_law_611 : decode cL_law 611 = .ok (.aload_n 0, 1) := by decide +kernel
theorem d_cL_law_612 : decode cL_law 612 = .ok (.iload 4, 2) := by decide +kernel
theorem d_cL_law_614 : decode cL_law 614 = .ok (.iconst 1, 1) := by decide +kernel
theorem d_cL_law_615 : decode cL_law 615 = .ok (.iadd, 1) := by decide +kernel
theorem d_cL_law_616 : decode cL_law 616 = .ok (.iaload, 1) := by decide +kernel
theorem d_cL_law_617 : decode cL_law 617 = .ok (.aload_n 3, 1) := by decide +kernel
theorem d_cL_law_618 : decode cL_law 618 = .ok (.invokestatic 96, 3) := by decide +kernel
theorem d_cL_law_621 : decode cL_law 621 = .ok (.istore 5, 2) := by decide +kernel
theorem d_cL_law_623 : decode cL_law 623 = .ok (.aload_n 2, 1) := by decide +kernel
theorem d_cL_law_624 : decode cL_law 624 = .ok (.aload_n 0, 1) := by decide +kernel
theorem d_cL_law_625 : decode cL_law 625 = .ok (.iload 4, 2) := by decide +kernel
theorem d_cL_law_627 : decode cL_law 627 = .ok (.iconst 1, 1) := by decide +kernel
theorem d_cL_law_628 : decode cL_law 628 = .ok (.iadd, 1) := by decide +kernel
theorem d_cL_law_629 : decode cL_law 629 = .ok (.iaload, 1) := by decide +kernel
theorem d_cL_law_630 : decode cL_law 630 = .ok (.invokevirtual 98, 3) := by decide +kernel
theorem d_cL_law_633 : decode cL_law 633 = .ok (.istore 6, 2) := by decide +kernel
theorem d_cL_law_635 : decode cL_law 635 = .ok (.aload_n 2, 1) := by decide +kernel
theorem d_cL_law_636 : decode cL_law 636 = .ok (.invokevirtual 63, 3) := by decide +kernel
theorem d_cL_law_639 : decode cL_law 639 = .ok (.iload 5, 2) := by decide +kernel
theorem d_cL_law_641 : decode cL_law 641 = .ok (.if_icmp .eq 5, 3) := by decide +kernel
theorem d_cL_law_646 : decode cL_law 646 = .ok (.iload 5, 2) := by decide +kernel
theorem d_cL_law_648 : decode cL_law 648 = .ok (.ifCond .ne 15, 3) := by decide +kernel
theorem d_cL_law_663 : decode cL_law 663 = .ok (.goto 130, 3) := by decide +kernel
theorem d_cL_law_666 : decode cL_law 666 = .ok (.aload_n 1, 1) := by decide +kernel
theorem d_cL_law_667 : decode cL_law 667 = .ok (.aload_n 0, 1) := by decide +kernel
theorem d_cL_law_668 : decode cL_law 668 = .ok (.iload 4, 2) := by decide +kernel
theorem d_cL_law_670 : decode cL_law 670 = .ok (.iconst 1, 1) := by decide +kernel
theorem d_cL_law_671 : decode cL_law 671 = .ok (.iadd, 1) := by decide +kernel
theorem d_cL_law_672 : decode cL_law 672 = .ok (.iaload, 1) := by decide +kernel
theorem d_cL_law_673 : decode cL_law 673 = .ok (.ifCond .eq 7, 3) := by decide +kernel
theorem d_cL_law_676 : decode cL_law 676 = .ok (.iconst 1, 1) := by decide +kernel
theorem d_cL_law_677 : decode cL_law 677 = .ok (.goto 4, 3) := by decide +kernel
theorem d_cL_law_680 : decode cL_law 680 = .ok (.iconst 0, 1) := by decide +kernel
theorem d_cL_law_681 : decode cL_law 681 = .ok (.aload_n 3, 1) := by decide +kernel
theorem d_cL_law_682 : decode cL_law 682 = .ok (.invokestatic 99, 3) := by decide +kernel
theorem d_cL_law_685 : decode cL_law 685 = .ok (.istore 5, 2) := by decide +kernel
theorem d_cL_law_687 : decode cL_law 687 = .ok (.aload_n 2, 1) := by decide +kernel
theorem d_cL_law_688 : decode cL_law 688 = .ok (.aload_n 0, 1) := by decide +kernel
theorem d_cL_law_689 : decode cL_law 689 = .ok (.iload 4, 2) := by decide +kernel
theorem d_cL_law_691 : decode cL_law 691 = .ok (.iconst 1, 1) := by decide +kernel
theorem d_cL_law_692 : decode cL_law 692 = .ok (.iadd, 1) := by decide +kernel
theorem d_cL_law_693 : decode cL_law 693 = .ok (.iaload, 1) := by decide +kernel
theorem d_cL_law_694 : decode cL_law 694 = .ok (.ifCond .eq 7, 3) := by decide +kernel
theorem d_cL_law_697 : decode cL_law 697 = .ok (.iconst 1, 1) := by decide +kernel
theorem d_cL_law_698 : decode cL_law 698 = .ok (.goto 4, 3) := by decide +kernel
theorem d_cL_law_701 : decode cL_law 701 = .ok (.iconst 0, 1) := by decide +kernel
theorem d_cL_law_702 : decode cL_law 702 = .ok (.invokevirtual 102, 3) := by decide +kernel
theorem d_cL_law_705 : decode cL_law 705 = .ok (.istore 6, 2) := by decide +kernel
theorem d_cL_law_707 : decode cL_law 707 = .ok (.aload_n 2, 1) := by decide +kernel
theorem d_cL_law_708 : decode cL_law 708 = .ok (.invokevirtual 63, 3) := by decide +kernel
theorem d_cL_law_711 : decode cL_law 711 = .ok (.iload 5, 2) := by decide +kernel
theorem d_cL_law_713 : decode cL_law 713 = .ok (.if_icmp .eq 5, 3) := by decide +kernel
theorem d_cL_law_718 : decode cL_law 718 = .ok (.iload 5, 2) := by decide +kernel
theorem d_cL_law_720 : decode cL_law 720 = .ok (.ifCond .ne 15, 3) := by decide +kernel
theorem d_cL_law_735 : decode cL_law 735 = .ok (.goto 58, 3) := by decide +kernel
theorem d_cL_law_738 : decode cL_law 738 = .ok (.aload_n 1, 1) := by decide +kernel
theorem d_cL_law_739 : decode cL_law 739 = .ok (.aload_n 0, 1) := by decide +kernel
theorem d_cL_law_740 : decode cL_law 740 = .ok (.iload 4, 2) := by decide +kernel
theorem d_cL_law_742 : decode cL_law 742 = .ok (.iconst 1, 1) := by decide +kernel
theorem d_cL_law_743 : decode cL_law 743 = .ok (.iadd, 1) := by decide +kernel
theorem d_cL_law_744 : decode cL_law 744 = .ok (.iaload, 1) := by decide +kernel
theorem d_cL_law_745 : decode cL_law 745 = .ok (.aload_n 3, 1) := by decide +kernel
theorem d_cL_law_746 : decode cL_law 746 = .ok (.invokestatic 103, 3) := by decide +kernel
theorem d_cL_law_749 : decode cL_law 749 = .ok (.istore 5, 2) := by decide +kernel
theorem d_cL_law_751 : decode cL_law 751 = .ok (.aload_n 2, 1) := by decide +kernel
theorem d_cL_law_752 : decode cL_law 752 = .ok (.aload_n 0, 1) := by decide +kernel
theorem d_cL_law_753 : decode cL_law 753 = .ok (.iload 4, 2) := by decide +kernel
theorem d_cL_law_755 : decode cL_law 755 = .ok (.iconst 1, 1) := by decide +kernel
theorem d_cL_law_756 : decode cL_law 756 = .ok (.iadd, 1) := by decide +kernel
theorem d_cL_law_757 : decode cL_law 757 = .ok (.iaload, 1) := by decide +kernel
theorem d_cL_law_758 : decode cL_law 758 = .ok (.invokevirtual 105, 3) := by decide +kernel
theorem d_cL_law_761 : decode cL_law 761 = .ok (.lstore 6, 2) := by decide +kernel
theorem d_cL_law_763 : decode cL_law 763 = .ok (.aload_n 2, 1) := by decide +kernel
theorem d_cL_law_764 : decode cL_law 764 = .ok (.invokevirtual 63, 3) := by decide +kernel
theorem d_cL_law_767 : decode cL_law 767 = .ok (.iload 5, 2) := by decide +kernel
theorem d_cL_law_769 : decode cL_law 769 = .ok (.if_icmp .eq 5, 3) := by decide +kernel
theorem d_cL_law_774 : decode cL_law 774 = .ok (.iload 5, 2) := by decide +kernel
theorem d_cL_law_776 : decode cL_law 776 = .ok (.ifCond .ne 14, 3) := by decide +kernel
theorem d_cL_law_790 : decode cL_law 790 = .ok (.goto 3, 3) := by decide +kernel
theorem d_cL_law_793 : decode cL_law 793 = .ok (.iinc 4 6, 3) := by decide +kernel
theorem d_cL_law_796 : decode cL_law 796 = .ok (.goto (-773), 3) := by decide +kernel
theorem d_cL_law_799 : decode cL_law 799 = .ok (.iconst 1, 1) := by decide +kernel
theorem d_cL_law_800 : decode cL_law 800 = .ok (.ireturn, 1) := by decide +kernel
theorem d_cL_list_0 : decode cL_list 0 = .ok (.aload_n 2, 1) := by decide +kernel
theorem d_cL_list_1 : decode cL_list 1 = .ok (.iconst 0, 1) := by decide +kernel
theorem d_cL_list_2 : decode cL_list 2 = .ok (.aload_n 0, 1) := by decide +kernel
theorem d_cL_list_3 : decode cL_list 3 = .ok (.iload_n 1, 1) := by decide +kernel
theorem d_cL_list_4 : decode cL_list 4 = .ok (.invokevirtual 45, 3) := by decide +kernel
theorem d_cL_list_12 : decode cL_list 12 = .ok (.astore_n 3, 1) := by decide +kernel
theorem d_cL_list_13 : decode cL_list 13 = .ok (.iconst 1, 1) := by decide +kernel
theorem d_cL_list_14 : decode cL_list 14 = .ok (.ireturn, 1) := by decide +kernel
theorem d_cL_look_0 : decode cL_look 0 = .ok (.aload_n 3, 1) := by decide +kernel
theorem d_cL_look_1 : decode cL_look 1 = .ok (.iconst 0, 1) := by decide +kernel
theorem d_cL_look_2 : decode cL_look 2 = .ok (.aload_n 0, 1) := by decide +kernel
theorem d_cL_look_3 : decode cL_look 3 = .ok (.iload_n 1, 1) := by decide +kernel
theorem d_cL_look_4 : decode cL_look 4 = .ok (.iload_n 2, 1) := by decide +kernel
theorem d_cL_look_5 : decode cL_look 5 = .ok (.invokevirtual 29, 3) := by decide +kernel
theorem d_cL_look_13 : decode cL_look 13 = .ok (.astore 4, 2) := by decide +kernel
theorem d_cL_look_15 : decode cL_look 15 = .ok (.iconst 1, 1) := by decide +kernel
theorem d_cL_look_16 : decode cL_look 16 = .ok (.ireturn, 1) := by decide +kernel
theorem d_cL_run_0 : decode cL_run 0 = .ok (.aload_n 3, 1) := by decide +kernel
theorem d_cL_run_1 : decode cL_run 1 = .ok (.iconst 0, 1) := by decide +kernel
theorem d_cL_run_2 : decode cL_run 2 = .ok (.aload_n 0, 1) := by decide +kernel
theorem d_cL_run_3 : decode cL_run 3 = .ok (.iload_n 1, 1) := by decide +kernel
theorem d_cL_run_4 : decode cL_run 4 = .ok (.iload_n 2, 1) := by decide +kernel
theorem d_cL_run_5 : decode cL_run 5 = .ok (.invokevirtual 35, 3) := by decide +kernel
theorem d_cL_run_13 : decode cL_run 13 = .ok (.astore 4, 2) := by decide +kernel
theorem d_cL_run_15 : decode cL_run 15 = .ok (.iconst 1, 1) := by decide +kernel
theorem d_cL_run_16 : decode cL_run 16 = .ok (.ireturn, 1) := by decide +kernel
theorem d_cL_run_17 : decode cL_run 17 = .ok (.astore 4, 2) := by decide +kernel
theorem d_cL_run_19 : decode cL_run 19 = .ok (.iconst 2, 1) := by decide +kernel
theorem d_cL_run_20 : decode cL_run 20 = .ok (.ireturn, 1) := by decide +kernel
theorem d_cL_shown_0 : decode cL_shown 0 = .ok (.aload_n 2, 1) := by decide +kernel
theorem d_cL_shown_1 : decode cL_shown 1 = .ok (.iconst 0, 1) := by decide +kernel
theorem d_cL_shown_2 : decode cL_shown 2 = .ok (.aload_n 0, 1) := by decide +kernel
theorem d_cL_shown_3 : decode cL_shown 3 = .ok (.iload_n 1, 1) := by decide +kernel
theorem d_cL_shown_4 : decode cL_shown 4 = .ok (.invokevirtual 42, 3) := by decide +kernel
theorem d_cL_shown_12 : decode cL_shown 12 = .ok (.astore_n 3, 1) := by decide +kernel
theorem d_cL_shown_13 : decode cL_shown 13 = .ok (.iconst 1, 1) := by decide +kernel
theorem d_cL_shown_14 : decode cL_shown 14 = .ok (.ireturn, 1) := by decide +kernel
theorem d_cL_told_0 : decode cL_told 0 = .ok (.aload_n 2, 1) := by decide +kernel
theorem d_cL_told_1 : decode cL_told 1 = .ok (.iconst 0, 1) := by decide +kernel
theorem d_cL_told_2 : decode cL_told 2 = .ok (.aload_n 0, 1) := by decide +kernel
theorem d_cL_told_3 : decode cL_told 3 = .ok (.iload_n 1, 1) := by decide +kernel
theorem d_cL_told_4 : decode cL_told 4 = .ok (.invokevirtual 39, 3) := by decide +kernel
theorem d_cL_told_7 : decode cL_told 7 = .ok (.i2l, 1) := by decide +kernel
theorem d_cL_told_8 : decode cL_told 8 = .ok (.lastore, 1) := by decide +kernel
theorem d_cL_told_9 : decode cL_told 9 = .ok (.goto 6, 3) := by decide +kernel
theorem d_cL_told_12 : decode cL_told 12 = .ok (.astore_n 3, 1) := by decide +kernel
theorem d_cL_told_13 : decode cL_told 13 = .ok (.iconst 1, 1) := by decide +kernel
theorem d_cL_told_14 : decode cL_told 14 = .ok (.ireturn, 1) := by decide +kernel
theorem d_cL_told_15 : decode cL_told 15 = .ok (.iconst 0, 1) := by decide +kernel
theorem d_cL_told_16 : decode cL_told 16 = .ok (.ireturn, 1) := by decide +kernel
theorem d_cL_word_0 : decode cL_word 0 = .ok (.aload_n 2, 1) := by decide +kernel
theorem d_cL_word_1 : decode cL_word 1 = .ok (.iconst 0, 1) := by decide +kernel
theorem d_cL_word_2 : decode cL_word 2 = .ok (.aload_n 0, 1) := by decide +kernel
theorem d_cL_word_3 : decode cL_word 3 = .ok (.iload_n 1, 1) := by decide +kernel
theorem d_cL_word_4 : decode cL_word 4 = .ok (.invokevirtual 49, 3) := by decide +kernel
theorem d_cL_word_11 : decode cL_word 11 = .ok (.astore_n 3, 1) := by decide +kernel
theorem d_cL_word_12 : decode cL_word 12 = .ok (.iconst 1, 1) := by decide +kernel
theorem d_cL_word_13 : decode cL_word 13 = .ok (.ireturn, 1) := by decide +kernel
theorem d_cX0_clear_0 : decode cX0_clear 0 = .ok (.aload_n 0, 1) := by decide +kernel
theorem d_cX0_clear_1 : decode cX0_clear 1 = .ok (.iconst 0, 1) := by decide +kernel
theorem d_cX0_clear_2 : decode cX0_clear 2 = .ok (.putfield 45, 3) := by decide +kernel
theorem d_cX0_clear_5 : decode cX0_clear 5 = .ok (.aload_n 0, 1) := by decide +kernel
theorem d_cX0_clear_6 : decode cX0_clear 6 = .ok (.iconst 0, 1) := by decide +kernel
theorem d_cX0_clear_7 : decode cX0_clear 7 = .ok (.putfield 49, 3) := by decide +kernel
theorem d_cX0_clear_10 : decode cX0_clear 10 = .ok (.aload_n 0, 1) := by decide +kernel
theorem d_cX0_clear_11 : decode cX0_clear 11 = .ok (.iconst 0, 1) := by decide +kernel
theorem d_cX0_clear_12 : decode cX0_clear 12 = .ok (.putfield 52, 3) := by decide +kernel
theorem d_cX0_clear_15 : decode cX0_clear 15 = .ok (.return_, 1) := by decide +kernel
theorem d_cX0_init_0 : decode cX0_init 0 = .ok (.aload_n 0, 1) := by decide +kernel
theorem d_cX0_init_1 : decode cX0_init 1 = .ok (.invokespecial 3, 3) := by decide +kernel
theorem d_cX0_init_4 : decode cX0_init 4 = .ok (.aload_n 0, 1) := by decide +kernel
theorem d_cX0_init_5 : decode cX0_init 5 = .ok (.bipush 40, 2) := by decide +kernel
theorem d_cX0_init_7 : decode cX0_init 7 = .ok (.newarray .int, 2) := by decide +kernel
theorem d_cX0_init_9 : decode cX0_init 9 = .ok (.putfield 9, 3) := by decide +kernel
theorem d_cX0_init_12 : decode cX0_init 12 = .ok (.aload_n 0, 1) := by decide +kernel
theorem d_cX0_init_13 : decode cX0_init 13 = .ok (.bipush 40, 2) := by decide +kernel
theorem d_cX0_init_15 : decode cX0_init 15 = .ok (.newarray .int, 2) := by decide +kernel
theorem d_cX0_init_17 : decode cX0_init 17 = .ok (.putfield 15, 3) := by decide +kernel
theorem d_cX0_init_20 : decode cX0_init 20 = .ok (.aload_n 0, 1) := by decide +kernel
theorem d_cX0_init_21 : decode cX0_init 21 = .ok (.bipush 40, 2) := by decide +kernel
theorem d_cX0_init_23 : decode cX0_init 23 = .ok (.newarray .int, 2) := by decide +kernel
theorem d_cX0_init_25 : decode cX0_init 25 = .ok (.putfield 18, 3) := by decide +kernel
theorem d_cX0_init_28 : decode cX0_init 28 = .ok (.iload_n 1, 1) := by decide +kernel
theorem d_cX0_init_29 : decode cX0_init 29 = .ok (.iconst 0, 1) := by decide +kernel
theorem d_cX0_init_30 : decode cX0_init 30 = .ok (.invokestatic 21, 3) := by decide +kernel
theorem d_cX0_init_33 : decode cX0_init 33 = .ok (.istore_n 2, 1) := by decide +kernel
theorem d_cX0_init_34 : decode cX0_init 34 = .ok (.aload_n 0, 1) := by decide +kernel
theorem d_cX0_init_35 : decode cX0_init 35 = .ok (.iload_n 2, 1) := by decide +kernel
theorem d_cX0_init_36 : decode cX0_init 36 = .ok (.newarray .int, 2) := by decide +kernel
theorem d_cX0_init_38 : decode cX0_init 38 = .ok (.putfield 27, 3) := by decide +kernel
theorem d_cX0_init_41 : decode cX0_init 41 = .ok (.aload_n 0, 1) := by decide +kernel
theorem d_cX0_init_42 : decode cX0_init 42 = .ok (.iload_n 2, 1) := by decide +kernel
