theorem dX13_init_383 : decode cX13_init 383 = .ok (.bipush 54, 2) := by decide +kernel
theorem dX13_init_385 : decode cX13_init 385 = .ok (.ldc2_w 115, 3) := by decide +kernel
theorem dX13_init_388 : decode cX13_init 388 = .ok (.lastore, 1) := by decide +kernel
theorem dX13_init_389 : decode cX13_init 389 = .ok (.dup, 1) := by decide +kernel
theorem dX13_init_390 : decode cX13_init 390 = .ok (.bipush 55, 2) := by decide +kernel
theorem dX13_init_392 : decode cX13_init 392 = .ok (.ldc2_w 117, 3) := by decide +kernel
theorem dX13_init_395 : decode cX13_init 395 = .ok (.lastore, 1) := by decide +kernel
theorem dX13_init_396 : decode cX13_init 396 = .ok (.dup, 1) := by decide +kernel
theorem dX13_init_397 : decode cX13_init 397 = .ok (.bipush 56, 2) := by decide +kernel
theorem dX13_init_399 : decode cX13_init 399 = .ok (.ldc2_w 119, 3) := by decide +kernel
theorem dX13_init_402 : decode cX13_init 402 = .ok (.lastore, 1) := by decide +kernel
theorem dX13_init_403 : decode cX13_init 403 = .ok (.dup, 1) := by decide +kernel
theorem dX13_init_404 : decode cX13_init 404 = .ok (.bipush 57, 2) := by decide +kernel
theorem dX13_init_406 : decode cX13_init 406 = .ok (.ldc2_w 121, 3) := by decide +kernel
theorem dX13_init_409 : decode cX13_init 409 = .ok (.lastore, 1) := by decide +kernel
theorem dX13_init_410 : decode cX13_init 410 = .ok (.dup, 1) := by decide +kernel
theorem dX13_init_411 : decode cX13_init 411 = .ok (.bipush 58, 2) := by decide +kernel
theorem dX13_init_413 : decode cX13_init 413 = .ok (.ldc2_w 123, 3) := by decide +kernel
theorem dX13_init_416 : decode cX13_init 416 = .ok (.lastore, 1) := by decide +kernel
theorem dX13_init_417 : decode cX13_init 417 = .ok (.dup, 1) := by decide +kernel
theorem dX13_init_418 : decode cX13_init 418 = .ok (.bipush 59, 2) := by decide +kernel
theorem dX13_init_420 : decode cX13_init 420 = .ok (.ldc2_w 125, 3) := by decide +kernel
theorem dX13_init_423 : decode cX13_init 423 = .ok (.lastore, 1) := by decide +kernel
theorem dX13_init_424 : decode cX13_init 424 = .ok (.dup, 1) := by decide +kernel
theorem dX13_init_425 : decode cX13_init 425 = .ok (.bipush 60, 2) := by decide +kernel
theorem dX13_init_427 : decode cX13_init 427 = .ok (.ldc2_w 127, 3) := by decide +kernel
theorem dX13_init_430 : decode cX13_init 430 = .ok (.lastore, 1) := by decide +kernel
theorem dX13_init_431 : decode cX13_init 431 = .ok (.dup, 1) := by decide +kernel
theorem dX13_init_432 : decode cX13_init 432 = .ok (.bipush 61, 2) := by decide +kernel
theorem dX13_init_434 : decode cX13_init 434 = .ok (.ldc2_w 129, 3) := by decide +kernel
theorem dX13_init_437 : decode cX13_init 437 = .ok (.lastore, 1) := by decide +kernel
theorem dX13_init_438 : decode cX13_init 438 = .ok (.dup, 1) := by decide +kernel
theorem dX13_init_439 : decode cX13_init 439 = .ok (.bipush 62, 2) := by decide +kernel
theorem dX13_init_441 : decode cX13_init 441 = .ok (.ldc2_w 131, 3) := by decide +kernel
theorem dX13_init_444 : decode cX13_init 444 = .ok (.lastore, 1) := by decide +kernel
theorem dX13_init_445 : decode cX13_init 445 = .ok (.dup, 1) := by decide +kernel
theorem dX13_init_446 : decode cX13_init 446 = .ok (.bipush 63, 2) := by decide +kernel
theorem dX13_init_448 : decode cX13_init 448 = .ok (.ldc2_w 133, 3) := by decide +kernel
theorem dX13_init_451 : decode cX13_init 451 = .ok (.lastore, 1) := by decide +kernel
theorem dX13_init_452 : decode cX13_init 452 = .ok (.dup, 1) := by decide +kernel
theorem dX13_init_453 : decode cX13_init 453 = .ok (.bipush 64, 2) := by decide +kernel
theorem dX13_init_455 : decode cX13_init 455 = .ok (.ldc2_w 135, 3) := by decide +kernel
theorem dX13_init_458 : decode cX13_init 458 = .ok (.lastore, 1) := by decide +kernel
theorem dX13_init_459 : decode cX13_init 459 = .ok (.dup, 1) := by decide +kernel
theorem dX13_init_460 : decode cX13_init 460 = .ok (.bipush 65, 2) := by decide +kernel
theorem dX13_init_462 : decode cX13_init 462 = .ok (.ldc2_w 137, 3) := by decide +kernel
theorem dX13_init_465 : decode cX13_init 465 = .ok (.lastore, 1) := by decide +kernel
theorem dX13_init_466 : decode cX13_init 466 = .ok (.dup, 1) := by decide +kernel
theorem dX13_init_467 : decode cX13_init 467 = .ok (.bipush 66, 2) := by decide +kernel
theorem dX13_init_469 : decode cX13_init 469 = .ok (.ldc2_w 139, 3) := by decide +kernel
theorem dX13_init_472 : decode cX13_init 472 = .ok (.lastore, 1) := by decide +kernel
theorem dX13_init_473 : decode cX13_init 473 = .ok (.dup, 1) := by decide +kernel
theorem dX13_init_474 : decode cX13_init 474 = .ok (.bipush 67, 2) := by decide +kernel
theorem dX13_init_476 : decode cX13_init 476 = .ok (.ldc2_w 141, 3) := by decide +kernel
theorem dX13_init_479 : decode cX13_init 479 = .ok (.lastore, 1) := by decide +kernel
theorem dX13_init_480 : decode cX13_init 480 = .ok (.dup, 1) := by decide +kernel
theorem dX13_init_481 : decode cX13_init 481 = .ok (.bipush 68, 2) := by decide +kernel
theorem dX13_init_483 : decode cX13_init 483 = .ok (.ldc2_w 143, 3) := by decide +kernel
theorem dX13_init_486 : decode cX13_init 486 = .ok (.lastore, 1) := by decide +kernel
theorem dX13_init_487 : decode cX13_init 487 = .ok (.dup, 1) := by decide +kernel
theorem dX13_init_488 : decode cX13_init 488 = .ok (.bipush 69, 2) := by decide +kernel
theorem dX13_init_490 : decode cX13_init 490 = .ok (.ldc2_w 145, 3) := by decide +kernel
theorem dX13_init_493 : decode cX13_init 493 = .ok (.lastore, 1) := by decide +kernel
theorem dX13_init_494 : decode cX13_init 494 = .ok (.dup, 1) := by decide +kernel
theorem dX13_init_495 : decode cX13_init 495 = .ok (.bipush 70, 2) := by decide +kernel
theorem dX13_init_497 : decode cX13_init 497 = .ok (.ldc2_w 147, 3) := by decide +kernel
theorem dX13_init_500 : decode cX13_init 500 = .ok (.lastore, 1) := by decide +kernel
theorem dX13_init_501 : decode cX13_init 501 = .ok (.dup, 1) := by decide +kernel
theorem dX13_init_502 : decode cX13_init 502 = .ok (.bipush 71, 2) := by decide +kernel
theorem dX13_init_504 : decode cX13_init 504 = .ok (.ldc2_w 149, 3) := by decide +kernel
theorem dX13_init_507 : decode cX13_init 507 = .ok (.lastore, 1) := by decide +kernel
theorem dX13_init_508 : decode cX13_init 508 = .ok (.dup, 1) := by decide +kernel
theorem dX13_init_509 : decode cX13_init 509 = .ok (.bipush 72, 2) := by decide +kernel
theorem dX13_init_511 : decode cX13_init 511 = .ok (.ldc2_w 151, 3) := by decide +kernel
theorem dX13_init_514 : decode cX13_init 514 = .ok (.lastore, 1) := by decide +kernel
theorem dX13_init_515 : decode cX13_init 515 = .ok (.dup, 1) := by decide +kernel
theorem dX13_init_516 : decode cX13_init 516 = .ok (.bipush 73, 2) := by decide +kernel
theorem dX13_init_518 : decode cX13_init 518 = .ok (.ldc2_w 153, 3) := by decide +kernel
theorem dX13_init_521 : decode cX13_init 521 = .ok (.lastore, 1) := by decide +kernel
theorem dX13_init_522 : decode cX13_init 522 = .ok (.dup, 1) := by decide +kernel
theorem dX13_init_523 : decode cX13_init 523 = .ok (.bipush 74, 2) := by decide +kernel
theorem dX13_init_525 : decode cX13_init 525 = .ok (.ldc2_w 155, 3) := by decide +kernel
theorem dX13_init_528 : decode cX13_init 528 = .ok (.lastore, 1) := by decide +kernel
theorem dX13_init_529 : decode cX13_init 529 = .ok (.dup, 1) := by decide +kernel
theorem dX13_init_530 : decode cX13_init 530 = .ok (.bipush 75, 2) := by decide +kernel
theorem dX13_init_532 : decode cX13_init 532 = .ok (.ldc2_w 157, 3) := by decide +kernel
theorem dX13_init_535 : decode cX13_init 535 = .ok (.lastore, 1) := by decide +kernel
theorem dX13_init_536 : decode cX13_init 536 = .ok (.dup, 1) := by decide +kernel
theorem dX13_init_537 : decode cX13_init 537 = .ok (.bipush 76, 2) := by decide +kernel
theorem dX13_init_539 : decode cX13_init 539 = .ok (.ldc2_w 159, 3) := by decide +kernel
theorem dX13_init_542 : decode cX13_init 542 = .ok (.lastore, 1) := by decide +kernel
theorem dX13_init_543 : decode cX13_init 543 = .ok (.dup, 1) := by decide +kernel
theorem dX13_init_544 : decode cX13_init 544 = .ok (.bipush 77, 2) := by decide +kernel
theorem dX13_init_546 : decode cX13_init 546 = .ok (.ldc2_w 161, 3) := by decide +kernel
theorem dX13_init_549 : decode cX13_init 549 = .ok (.lastore, 1) := by decide +kernel
theorem dX13_init_550 : decode cX13_init 550 = .ok (.dup, 1) := by decide +kernel
theorem dX13_init_551 : decode cX13_init 551 = .ok (.bipush 78, 2) := by decide +kernel
theorem dX13_init_553 : decode cX13_init 553 = .ok (.ldc2_w 163, 3) := by decide +kernel
theorem dX13_init_556 : decode cX13_init 556 = .ok (.lastore, 1) := by decide +kernel
theorem dX13_init_557 : decode cX13_init 557 = .ok (.dup, 1) := by decide +kernel
theorem dX13_init_558 : decode cX13_init 558 = .ok (.bipush 79, 2) := by decide +kernel
theorem dX13_init_560 : decode cX13_init 560 = .ok (.ldc2_w 165, 3) := by decide +kernel
theorem dX13_init_563 : decode cX13_init 563 = .ok (.lastore, 1) := by decide +kernel
theorem dX13_init_564 : decode cX13_init 564 = .ok (.dup, 1) := by decide +kernel
theorem dX13_init_565 : decode cX13_init 565 = .ok (.bipush 80, 2) := by decide +kernel
theorem dX13_init_567 : decode cX13_init 567 = .ok (.ldc2_w 167, 3) := by decide +kernel
theorem dX13_init_570 : decode cX13_init 570 = .ok (.lastore, 1) := by decide +kernel
theorem dX13_init_571 : decode cX13_init 571 = .ok (.dup, 1) := by decide +kernel
theorem dX13_init_572 : decode cX13_init 572 = .ok (.bipush 81, 2) := by decide +kernel
theorem dX13_init_574 : decode cX13_init 574 = .ok (.ldc2_w 169, 3) := by decide +kernel
theorem dX13_init_577 : decode cX13_init 577 = .ok (.lastore, 1) := by decide +kernel
theorem dX13_init_578 : decode cX13_init 578 = .ok (.dup, 1) := by decide +kernel
theorem dX13_init_579 : decode cX13_init 579 = .ok (.bipush 82, 2) := by decide +kernel
theorem dX13_init_581 : decode cX13_init 581 = .ok (.ldc2_w 171, 3) := by decide +kernel
theorem dX13_init_584 : decode cX13_init 584 = .ok (.lastore, 1) := by decide +kernel
theorem dX13_init_585 : decode cX13_init 585 = .ok (.dup, 1) := by decide +kernel
theorem dX13_init_586 : decode cX13_init 586 = .ok (.bipush 83, 2) := by decide +kernel
theorem dX13_init_588 : decode cX13_init 588 = .ok (.ldc2_w 173, 3) := by decide +kernel
theorem dX13_init_591 : decode cX13_init 591 = .ok (.lastore, 1) := by decide +kernel
theorem dX13_init_592 : decode cX13_init 592 = .ok (.dup, 1) := by decide +kernel
theorem dX13_init_593 : decode cX13_init 593 = .ok (.bipush 84, 2) := by decide +kernel
theorem dX13_init_595 : decode cX13_init 595 = .ok (.ldc2_w 175, 3) := by decide +kernel
theorem dX13_init_598 : decode cX13_init 598 = .ok (.lastore, 1) := by decide +kernel
theorem dX13_init_599 : decode cX13_init 599 = .ok (.dup, 1) := by decide +kernel
theorem dX13_init_600 : decode cX13_init 600 = .ok (.bipush 85, 2) := by decide +kernel
theorem dX13_init_602 : decode cX13_init 602 = .ok (.ldc2_w 177, 3) := by decide +kernel
theorem dX13_init_605 : decode cX13_init 605 = .ok (.lastore, 1) := by decide +kernel
theorem dX13_init_606 : decode cX13_init 606 = .ok (.dup, 1) := by decide +kernel
theorem dX13_init_607 : decode cX13_init 607 = .ok (.bipush 86, 2) := by decide +kernel
theorem dX13_init_609 : decode cX13_init 609 = .ok (.ldc2_w 179, 3) := by decide +kernel
theorem dX13_init_612 : decode cX13_init 612 = .ok (.lastore, 1) := by decide +kernel
theorem dX13_init_613 : decode cX13_init 613 = .ok (.dup, 1) := by decide +kernel
theorem dX13_init_614 : decode cX13_init 614 = .ok (.bipush 87, 2) := by decide +kernel
theorem dX13_init_616 : decode cX13_init 616 = .ok (.ldc2_w 181, 3) := by decide +kernel
theorem dX13_init_619 : decode cX13_init 619 = .ok (.lastore, 1) := by decide +kernel
theorem dX13_init_620 : decode cX13_init 620 = .ok (.dup, 1) := by decide +kernel
theorem dX13_init_621 : decode cX13_init 621 = .ok (.bipush 88, 2) := by decide +kernel
theorem dX13_init_623 : decode cX13_init 623 = .ok (.ldc2_w 183, 3) := by decide +kernel
theorem dX13_init_626 : decode cX13_init 626 = .ok (.lastore, 1) := by decide +kernel
theorem dX13_init_627 : decode cX13_init 627 = .ok (.dup, 1) := by decide +kernel
theorem dX13_init_628 : decode cX13_init 628 = .ok (.bipush 89, 2) := by decide +kernel
theorem dX13_init_630 : decode cX13_init 630 = .ok (.ldc2_w 185, 3) := by decide +kernel
theorem dX13_init_633 : decode cX13_init 633 = .ok (.lastore, 1) := by decide +kernel
theorem dX13_init_634 : decode cX13_init 634 = .ok (.dup, 1) := by decide +kernel
theorem dX13_init_635 : decode cX13_init 635 = .ok (.bipush 90, 2) := by decide +kernel
theorem dX13_init_637 : decode cX13_init 637 = .ok (.ldc2_w 187, 3) := by decide +kernel
theorem dX13_init_640 : decode cX13_init 640 = .ok (.lastore, 1) := by decide +kernel
theorem dX13_init_641 : decode cX13_init 641 = .ok (.dup, 1) := by decide +kernel
theorem dX13_init_642 : decode cX13_init 642 = .ok (.bipush 91, 2) := by decide +kernel
theorem dX13_init_644 : decode cX13_init 644 = .ok (.ldc2_w 189, 3) := by decide +kernel
theorem dX13_init_647 : decode cX13_init 647 = .ok (.lastore, 1) := by decide +kernel
theorem dX13_init_648 : decode cX13_init 648 = .ok (.dup, 1) := by decide +kernel
theorem dX13_init_649 : decode cX13_init 649 = .ok (.bipush 92, 2) := by decide +kernel
theorem dX13_init_651 : decode cX13_init 651 = .ok (.ldc2_w 191, 3) := by decide +kernel
theorem dX13_init_654 : decode cX13_init 654 = .ok (.lastore, 1) := by decide +kernel
theorem dX13_init_655 : decode cX13_init 655 = .ok (.dup, 1) := by decide +kernel
theorem dX13_init_656 : decode cX13_init 656 = .ok (.bipush 93, 2) := by decide +kernel
theorem dX13_init_658 : decode cX13_init 658 = .ok (.ldc2_w 193, 3) := by decide +kernel
theorem dX13_init_661 : decode cX13_init 661 = .ok (.lastore, 1) := by decide +kernel
theorem dX13_init_662 : decode cX13_init 662 = .ok (.dup, 1) := by decide +kernel
theorem dX13_init_663 : decode cX13_init 663 = .ok (.bipush 94, 2) := by decide +kernel
theorem dX13_init_665 : decode cX13_init 665 = .ok (.ldc2_w 195, 3) := by decide +kernel
theorem dX13_init_668 : decode cX13_init 668 = .ok (.lastore, 1) := by decide +kernel
theorem dX13_init_669 : decode cX13_init 669 = .ok (.dup, 1) := by decide +kernel
theorem dX13_init_670 : decode cX13_init 670 = .ok (.bipush 95, 2) := by decide +kernel
theorem dX13_init_672 : decode cX13_init 672 = .ok (.ldc2_w 197, 3) := by decide +kernel
theorem dX13_init_675 : decode cX13_init 675 = .ok (.lastore, 1) := by decide +kernel
theorem dX13_init_676 : decode cX13_init 676 = .ok (.dup, 1) := by decide +kernel
theorem dX13_init_677 : decode cX13_init 677 = .ok (.bipush 96, 2) := by decide +kernel
theorem dX13_init_679 : decode cX13_init 679 = .ok (.ldc2_w 199, 3) := by decide +kernel
theorem dX13_init_682 : decode cX13_init 682 = .ok (.lastore, 1) := by decide +kernel
theorem dX13_init_683 : decode cX13_init 683 = .ok (.dup, 1) := by decide +kernel
theorem dX13_init_684 : decode cX13_init 684 = .ok (.bipush 97, 2) := by decide +kernel
theorem dX13_init_686 : decode cX13_init 686 = .ok (.ldc2_w 201, 3) := by decide +kernel
theorem dX13_init_689 : decode cX13_init 689 = .ok (.lastore, 1) := by decide +kernel
theorem dX13_init_690 : decode cX13_init 690 = .ok (.dup, 1) := by decide +kernel
theorem dX13_init_691 : decode cX13_init 691 = .ok (.bipush 98, 2) := by decide +kernel
theorem dX13_init_693 : decode cX13_init 693 = .ok (.ldc2_w 203, 3) := by decide +kernel
theorem dX13_init_696 : decode cX13_init 696 = .ok (.lastore, 1) := by decide +kernel
theorem dX13_init_697 : decode cX13_init 697 = .ok (.dup, 1) := by decide +kernel
theorem dX13_init_698 : decode cX13_init 698 = .ok (.bipush 99, 2) := by decide +kernel
theorem dX13_init_700 : decode cX13_init 700 = .ok (.ldc2_w 205, 3) := by decide +kernel
theorem dX13_init_703 : decode cX13_init 703 = .ok (.lastore, 1) := by decide +kernel
theorem dX13_init_704 : decode cX13_init 704 = .ok (.dup, 1) := by decide +kernel
theorem dX13_init_705 : decode cX13_init 705 = .ok (.bipush 100, 2) := by decide +kernel
theorem dX13_init_707 : decode cX13_init 707 = .ok (.ldc2_w 207, 3) := by decide +kernel
theorem dX13_init_710 : decode cX13_init 710 = .ok (.lastore, 1) := by decide +kernel
theorem dX13_init_711 : decode cX13_init 711 = .ok (.dup, 1) := by decide +kernel
theorem dX13_init_712 : decode cX13_init 712 = .ok (.bipush 101, 2) := by decide +kernel
theorem dX13_init_714 : decode cX13_init 714 = .ok (.ldc2_w 209, 3) := by decide +kernel
theorem dX13_init_717 : decode cX13_init 717 = .ok (.lastore, 1) := by decide +kernel
theorem dX13_init_718 : decode cX13_init 718 = .ok (.dup, 1) := by decide +kernel
theorem dX13_init_719 : decode cX13_init 719 = .ok (.bipush 102, 2) := by decide +kernel
theorem dX13_init_721 : decode cX13_init 721 = .ok (.ldc2_w 211, 3) := by decide +kernel
theorem dX13_init_724 : decode cX13_init 724 = .ok (.lastore, 1) := by decide +kernel
theorem dX13_init_725 : decode cX13_init 725 = .ok (.dup, 1) := by decide +kernel
theorem dX13_init_726 : decode cX13_init 726 = .ok (.bipush 103, 2) := by decide +kernel
theorem dX13_init_728 : decode cX13_init 728 = .ok (.ldc2_w 213, 3) := by decide +kernel
theorem dX13_init_731 : decode cX13_init 731 = .ok (.lastore, 1) := by decide +kernel
theorem dX13_init_732 : decode cX13_init 732 = .ok (.dup, 1) := by decide +kernel
theorem dX13_init_733 : decode cX13_init 733 = .ok (.bipush 104, 2) := by decide +kernel
theorem dX13_init_735 : decode cX13_init 735 = .ok (.ldc2_w 215, 3) := by decide +kernel
theorem dX13_init_738 : decode cX13_init 738 = .ok (.lastore, 1) := by decide +kernel
theorem dX13_init_739 : decode cX13_init 739 = .ok (.dup, 1) := by decide +kernel
theorem dX13_init_740 : decode cX13_init 740 = .ok (.bipush 105, 2) := by decide +kernel
theorem dX13_init_742 : decode cX13_init 742 = .ok (.ldc2_w 217, 3) := by decide +kernel
theorem dX13_init_745 : decode cX13_init 745 = .ok (.lastore, 1) := by decide +kernel
theorem dX13_init_746 : decode cX13_init 746 = .ok (.dup, 1) := by decide +kernel
theorem dX13_init_747 : decode cX13_init 747 = .ok (.bipush 106, 2) := by decide +kernel
theorem dX13_init_749 : decode cX13_init 749 = .ok (.ldc2_w 219, 3) := by decide +kernel
theorem dX13_init_752 : decode cX13_init 752 = .ok (.lastore, 1) := by decide +kernel
theorem dX13_init_753 : decode cX13_init 753 = .ok (.dup, 1) := by decide +kernel
theorem dX13_init_754 : decode cX13_init 754 = .ok (.bipush 107, 2) := by decide +kernel
theorem dX13_init_756 : decode cX13_init 756 = .ok (.ldc2_w 221, 3) := by decide +kernel
theorem dX13_init_759 : decode cX13_init 759 = .ok (.lastore, 1) := by decide +kernel
theorem dX13_init_760 : decode cX13_init 760 = .ok (.dup, 1) := by decide +kernel
theorem dX13_init_761 : decode cX13_init 761 = .ok (.bipush 108, 2) := by decide +kernel
theorem dX13_init_763 : decode cX13_init 763 = .ok (.ldc2_w 223, 3) := by decide +kernel
theorem dX13_init_766 : decode cX13_init 766 = .ok (.lastore, 1) := by decide +kernel
theorem dX13_init_767 : decode cX13_init 767 = .ok (.dup, 1) := by decide +kernel
theorem dX13_init_768 : decode cX13_init 768 = .ok (.bipush 109, 2) := by decide +kernel
theorem dX13_init_770 : decode cX13_init 770 = .ok (.ldc2_w 225, 3) := by decide +kernel
theorem dX13_init_773 : decode cX13_init 773 = .ok (.lastore, 1) := by decide +kernel
theorem dX13_init_774 : decode cX13_init 774 = .ok (.dup, 1) := by decide +kernel
theorem dX13_init_775 : decode cX13_init 775 = .ok (.bipush 110, 2) := by decide +kernel
theorem dX13_init_777 : decode cX13_init 777 = .ok (.ldc2_w 227, 3) := by decide +kernel
theorem dX13_init_780 : decode cX13_init 780 = .ok (.lastore, 1) := by decide +kernel
theorem dX13_init_781 : decode cX13_init 781 = .ok (.dup, 1) := by decide +kernel
theorem dX13_init_782 : decode cX13_init 782 = .ok (.bipush 111, 2) := by decide +kernel
theorem dX13_init_784 : decode cX13_init 784 = .ok (.ldc2_w 229, 3) := by decide +kernel
theorem dX13_init_787 : decode cX13_init 787 = .ok (.lastore, 1) := by decide +kernel
theorem dX13_init_788 : decode cX13_init 788 = .ok (.dup, 1) := by decide +kernel
theorem dX13_init_789 : decode cX13_init 789 = .ok (.bipush 112, 2) := by decide +kernel
theorem dX13_init_791 : decode cX13_init 791 = .ok (.ldc2_w 231, 3) := by decide +kernel
theorem dX13_init_794 : decode cX13_init 794 = .ok (.lastore, 1) := by decide +kernel
theorem dX13_init_795 : decode cX13_init 795 = .ok (.dup, 1) := by decide +kernel
theorem dX13_init_796 : decode cX13_init 796 = .ok (.bipush 113, 2) := by decide +kernel
theorem dX13_init_798 : decode cX13_init 798 = .ok (.ldc2_w 233, 3) := by decide +kernel
theorem dX13_init_801 : decode cX13_init 801 = .ok (.lastore, 1) := by decide +kernel
theorem dX13_init_802 : decode cX13_init 802 = .ok (.dup, 1) := by decide +kernel
theorem dX13_init_803 : decode cX13_init 803 = .ok (.bipush 114, 2) := by decide +kernel
theorem dX13_init_805 : decode cX13_init 805 = .ok (.ldc2_w 235, 3) := by decide +kernel
theorem dX13_init_808 : decode cX13_init 808 = .ok (.lastore, 1) := by decide +kernel
theorem dX13_init_809 : decode cX13_init 809 = .ok (.dup, 1) := by decide +kernel
theorem dX13_init_810 : decode cX13_init 810 = .ok (.bipush 115, 2) := by decide +kernel
theorem dX13_init_812 : decode cX13_init 812 = .ok (.ldc2_w 237, 3) := by decide +kernel
theorem dX13_init_815 : decode cX13_init 815 = .ok (.lastore, 1) := by decide +kernel
theorem dX13_init_816 : decode cX13_init 816 = .ok (.dup, 1) := by decide +kernel
theorem dX13_init_817 : decode cX13_init 817 = .ok (.bipush 116, 2) := by decide +kernel
theorem dX13_init_819 : decode cX13_init 819 = .ok (.ldc2_w 239, 3) := by decide +kernel
theorem dX13_init_822 : decode cX13_init 822 = .ok (.lastore, 1) := by decide +kernel
theorem dX13_init_823 : decode cX13_init 823 = .ok (.dup, 1) := by decide +kernel
theorem dX13_init_824 : decode cX13_init 824 = .ok (.bipush 117, 2) := by decide +kernel
theorem dX13_init_826 : decode cX13_init 826 = .ok (.ldc2_w 241, 3) := by decide +kernel
theorem dX13_init_829 : decode cX13_init 829 = .ok (.lastore, 1) := by decide +kernel
theorem dX13_init_830 : decode cX13_init 830 = .ok (.dup, 1) := by decide +kernel
theorem dX13_init_831 : decode cX13_init 831 = .ok (.bipush 118, 2) := by decide +kernel
theorem dX13_init_833 : decode cX13_init 833 = .ok (.ldc2_w 243, 3) := by decide +kernel
theorem dX13_init_836 : decode cX13_init 836 = .ok (.lastore, 1) := by decide +kernel
theorem dX13_init_837 : decode cX13_init 837 = .ok (.dup, 1) := by decide +kernel
theorem dX13_init_838 : decode cX13_init 838 = .ok (.bipush 119, 2) := by decide +kernel
theorem dX13_init_840 : decode cX13_init 840 = .ok (.ldc2_w 245, 3) := by decide +kernel
theorem dX13_init_843 : decode cX13_init 843 = .ok (.lastore, 1) := by decide +kernel
theorem dX13_init_844 : decode cX13_init 844 = .ok (.dup, 1) := by decide +kernel
theorem dX13_init_845 : decode cX13_init 845 = .ok (.bipush 120, 2) := by decide +kernel
theorem dX13_init_847 : decode cX13_init 847 = .ok (.ldc2_w 247, 3) := by decide +kernel
theorem dX13_init_850 : decode cX13_init 850 = .ok (.lastore, 1) := by decide +kernel
theorem dX13_init_851 : decode cX13_init 851 = .ok (.dup, 1) := by decide +kernel
theorem dX13_init_852 : decode cX13_init 852 = .ok (.bipush 121, 2) := by decide +kernel
theorem dX13_init_854 : decode cX13_init 854 = .ok (.ldc2_w 249, 3) := by decide +kernel
theorem dX13_init_857 : decode cX13_init 857 = .ok (.lastore, 1) := by decide +kernel
theorem dX13_init_858 : decode cX13_init 858 = .ok (.dup, 1) := by decide +kernel
theorem dX13_init_859 : decode cX13_init 859 = .ok (.bipush 122, 2) := by decide +kernel
theorem dX13_init_861 : decode cX13_init 861 = .ok (.ldc2_w 251, 3) := by decide +kernel
theorem dX13_init_864 : decode cX13_init 864 = .ok (.lastore, 1) := by decide +kernel
theorem dX13_init_865 : decode cX13_init 865 = .ok (.dup, 1) := by decide +kernel
theorem dX13_init_866 : decode cX13_init 866 = .ok (.bipush 123, 2) := by decide +kernel
theorem dX13_init_868 : decode cX13_init 868 = .ok (.ldc2_w 253, 3) := by decide +kernel
theorem dX13_init_871 : decode cX13_init 871 = .ok (.lastore, 1) := by decide +kernel
theorem dX13_init_872 : decode cX13_init 872 = .ok (.dup, 1) := by decide +kernel
theorem dX13_init_873 : decode cX13_init 873 = .ok (.bipush 124, 2) := by decide +kernel
theorem dX13_init_875 : decode cX13_init 875 = .ok (.ldc2_w 255, 3) := by decide +kernel
theorem dX13_init_878 : decode cX13_init 878 = .ok (.lastore, 1) := by decide +kernel
theorem dX13_init_879 : decode cX13_init 879 = .ok (.dup, 1) := by decide +kernel
theorem dX13_init_880 : decode cX13_init 880 = .ok (.bipush 125, 2) := by decide +kernel
theorem dX13_init_882 : decode cX13_init 882 = .ok (.ldc2_w 257, 3) := by decide +kernel
theorem dX13_init_885 : decode cX13_init 885 = .ok (.lastore, 1) := by decide +kernel
theorem dX13_init_886 : decode cX13_init 886 = .ok (.dup, 1) := by decide +kernel
theorem dX13_init_887 : decode cX13_init 887 = .ok (.bipush 126, 2) := by decide +kernel
theorem dX13_init_889 : decode cX13_init 889 = .ok (.ldc2_w 259, 3) := by decide +kernel
theorem dX13_init_892 : decode cX13_init 892 = .ok (.lastore, 1) := by decide +kernel
theorem dX13_init_893 : decode cX13_init 893 = .ok (.dup, 1) := by decide +kernel
theorem dX13_init_894 : decode cX13_init 894 = .ok (.bipush 127, 2) := by decide +kernel
theorem dX13_init_896 : decode cX13_init 896 = .ok (.ldc2_w 261, 3) := by decide +kernel
theorem dX13_init_899 : decode cX13_init 899 = .ok (.lastore, 1) := by decide +kernel
theorem dX13_init_900 : decode cX13_init 900 = .ok (.putfield 263, 3) := by decide +kernel
theorem dX13_init_903 : decode cX13_init 903 = .ok (.aload_n 0, 1) := by decide +kernel
theorem dX13_init_904 : decode cX13_init 904 = .ok (.sipush 128, 3) := by decide +kernel
theorem dX13_init_907 : decode cX13_init 907 = .ok (.newarray .byte, 2) := by decide +kernel
theorem dX13_init_909 : decode cX13_init 909 = .ok (.dup, 1) := by decide +kernel
theorem dX13_init_910 : decode cX13_init 910 = .ok (.iconst 0, 1) := by decide +kernel
theorem dX13_init_911 : decode cX13_init 911 = .ok (.iconst 1, 1) := by decide +kernel
theorem dX13_init_912 : decode cX13_init 912 = .ok (.bastore, 1) := by decide +kernel
theorem dX13_init_913 : decode cX13_init 913 = .ok (.dup, 1) := by decide +kernel
theorem dX13_init_914 : decode cX13_init 914 = .ok (.iconst 1, 1) := by decide +kernel
theorem dX13_init_915 : decode cX13_init 915 = .ok (.iconst 1, 1) := by decide +kernel
theorem dX13_init_916 : decode cX13_init 916 = .ok (.bastore, 1) := by decide +kernel
theorem dX13_init_917 : decode cX13_init 917 = .ok (.dup, 1) := by decide +kernel
theorem dX13_init_918 : decode cX13_init 918 = .ok (.iconst 2, 1) := by decide +kernel
theorem dX13_init_919 : decode cX13_init 919 = .ok (.iconst 1, 1) := by decide +kernel
theorem dX13_init_920 : decode cX13_init 920 = .ok (.bastore, 1) := by decide +kernel
theorem dX13_init_921 : decode cX13_init 921 = .ok (.dup, 1) := by decide +kernel
theorem dX13_init_922 : decode cX13_init 922 = .ok (.iconst 3, 1) := by decide +kernel
theorem dX13_init_923 : decode cX13_init 923 = .ok (.iconst 1, 1) := by decide +kernel
theorem dX13_init_924 : decode cX13_init 924 = .ok (.bastore, 1) := by decide +kernel
theorem dX13_init_925 : decode cX13_init 925 = .ok (.dup, 1) := by decide +kernel
theorem dX13_init_926 : decode cX13_init 926 = .ok (.iconst 4, 1) := by decide +kernel
theorem dX13_init_927 : decode cX13_init 927 = .ok (.iconst 1, 1) := by decide +kernel
theorem dX13_init_928 : decode cX13_init 928 = .ok (.bastore, 1) := by decide +kernel
theorem dX13_init_929 : decode cX13_init 929 = .ok (.dup, 1) := by decide +kernel
theorem dX13_init_930 : decode cX13_init 930 = .ok (.iconst 5, 1) := by decide +kernel
theorem dX13_init_931 : decode cX13_init 931 = .ok (.iconst 1, 1) := by decide +kernel
theorem dX13_init_932 : decode cX13_init 932 = .ok (.bastore, 1) := by decide +kernel
theorem dX13_init_933 : decode cX13_init 933 = .ok (.dup, 1) := by decide +kernel
theorem dX13_init_934 : decode cX13_init 934 = .ok (.bipush 6, 2) := by decide +kernel
theorem dX13_init_936 : decode cX13_init 936 = .ok (.iconst 1, 1) := by decide +kernel
theorem dX13_init_937 : decode cX13_init 937 = .ok (.bastore, 1) := by decide +kernel
theorem dX13_init_938 : decode cX13_init 938 = .ok (.dup, 1) := by decide +kernel
theorem dX13_init_939 : decode cX13_init 939 = .ok (.bipush 7, 2) := by decide +kernel
theorem dX13_init_941 : decode cX13_init 941 = .ok (.iconst 1, 1) := by decide +kernel
theorem dX13_init_942 : decode cX13_init 942 = .ok (.bastore, 1) := by decide +kernel
theorem dX13_init_943 : decode cX13_init 943 = .ok (.dup, 1) := by decide +kernel
theorem dX13_init_944 : decode cX13_init 944 = .ok (.bipush 8, 2) := by decide +kernel
theorem dX13_init_946 : decode cX13_init 946 = .ok (.iconst 1, 1) := by decide +kernel
theorem dX13_init_947 : decode cX13_init 947 = .ok (.bastore, 1) := by decide +kernel
theorem dX13_init_948 : decode cX13_init 948 = .ok (.dup, 1) := by decide +kernel
theorem dX13_init_949 : decode cX13_init 949 = .ok (.bipush 9, 2) := by decide +kernel
theorem dX13_init_951 : decode cX13_init 951 = .ok (.iconst 1, 1) := by decide +kernel
theorem dX13_init_952 : decode cX13_init 952 = .ok (.bastore, 1) := by decide +kernel
theorem dX13_init_953 : decode cX13_init 953 = .ok (.dup, 1) := by decide +kernel
theorem dX13_init_954 : decode cX13_init 954 = .ok (.bipush 10, 2) := by decide +kernel
theorem dX13_init_956 : decode cX13_init 956 = .ok (.iconst 1, 1) := by decide +kernel
theorem dX13_init_957 : decode cX13_init 957 = .ok (.bastore, 1) := by decide +kernel
theorem dX13_init_958 : decode cX13_init 958 = .ok (.dup, 1) := by decide +kernel
theorem dX13_init_959 : decode cX13_init 959 = .ok (.bipush 11, 2) := by decide +kernel
theorem dX13_init_961 : decode cX13_init 961 = .ok (.iconst 1, 1) := by decide +kernel
theorem dX13_init_962 : decode cX13_init 962 = .ok (.bastore, 1) := by decide +kernel
theorem dX13_init_963 : decode cX13_init 963 = .ok (.dup, 1) := by decide +kernel
theorem dX13_init_964 : decode cX13_init 964 = .ok (.bipush 12, 2) := by decide +kernel
theorem dX13_init_966 : decode cX13_init 966 = .ok (.iconst 1, 1) := by decide +kernel
