/-! DECODE ROWS OF THE LAW, by program -/
theorem dL_law_496 : gd cL_law 496 (.invokevirtual 53) 3 499 := by decide +kernel
theorem dL_law_499 : gb cL_law 499 (.if_icmp .eq 1469) (1469) 502 1968 := by decide +kernel
theorem dL_law_502 : decode cL_law 502 = .ok (.iconst 0, 1) ∧ 502 + 1 = 503 ∧ Int32.ofInt (0) = (0) := by decide +kernel
theorem dL_law_503 : gd cL_law 503 (.ireturn) 1 504 := by decide +kernel
theorem dL_law_504 : gd cL_law 504 (.aload_n 1) 1 505 := by decide +kernel
theorem dL_law_505 : gd cL_law 505 (.aload_n 0) 1 506 := by decide +kernel
theorem dL_law_506 : gd cL_law 506 (.iload 4) 2 508 := by decide +kernel
theorem dL_law_508 : decode cL_law 508 = .ok (.iconst 1, 1) ∧ 508 + 1 = 509 ∧ Int32.ofInt (1) = (1) := by decide +kernel
theorem dL_law_509 : gd cL_law 509 (.iadd) 1 510 := by decide +kernel
theorem dL_law_510 : gd cL_law 510 (.iaload) 1 511 := by decide +kernel
theorem dL_law_511 : gd cL_law 511 (.aload_n 0) 1 512 := by decide +kernel
theorem dL_law_512 : gd cL_law 512 (.iload 4) 2 514 := by decide +kernel
theorem dL_law_514 : decode cL_law 514 = .ok (.iconst 2, 1) ∧ 514 + 1 = 515 ∧ Int32.ofInt (2) = (2) := by decide +kernel
theorem dL_law_515 : gd cL_law 515 (.iadd) 1 516 := by decide +kernel
theorem dL_law_516 : gd cL_law 516 (.iaload) 1 517 := by decide +kernel
theorem dL_law_517 : gd cL_law 517 (.invokevirtual 54) 3 520 := by decide +kernel
theorem dL_law_520 : gd cL_law 520 (.aload_n 2) 1 521 := by decide +kernel
theorem dL_law_521 : gd cL_law 521 (.aload_n 0) 1 522 := by decide +kernel
theorem dL_law_522 : gd cL_law 522 (.iload 4) 2 524 := by decide +kernel
theorem dL_law_524 : decode cL_law 524 = .ok (.iconst 1, 1) ∧ 524 + 1 = 525 ∧ Int32.ofInt (1) = (1) := by decide +kernel
theorem dL_law_525 : gd cL_law 525 (.iadd) 1 526 := by decide +kernel
theorem dL_law_526 : gd cL_law 526 (.iaload) 1 527 := by decide +kernel
theorem dL_law_527 : gd cL_law 527 (.aload_n 0) 1 528 := by decide +kernel
theorem dL_law_528 : gd cL_law 528 (.iload 4) 2 530 := by decide +kernel
theorem dL_law_530 : decode cL_law 530 = .ok (.iconst 2, 1) ∧ 530 + 1 = 531 ∧ Int32.ofInt (2) = (2) := by decide +kernel
theorem dL_law_531 : gd cL_law 531 (.iadd) 1 532 := by decide +kernel
theorem dL_law_532 : gd cL_law 532 (.iaload) 1 533 := by decide +kernel
theorem dL_law_533 : gd cL_law 533 (.invokevirtual 57) 3 536 := by decide +kernel
theorem dL_law_536 : gb cL_law 536 (.if_icmp .eq 1432) (1432) 539 1968 := by decide +kernel
theorem dL_law_539 : decode cL_law 539 = .ok (.iconst 0, 1) ∧ 539 + 1 = 540 ∧ Int32.ofInt (0) = (0) := by decide +kernel
theorem dL_law_540 : gd cL_law 540 (.ireturn) 1 541 := by decide +kernel
theorem dL_law_541 : gd cL_law 541 (.aload_n 1) 1 542 := by decide +kernel
theorem dL_law_542 : gd cL_law 542 (.aload_n 0) 1 543 := by decide +kernel
theorem dL_law_543 : gd cL_law 543 (.iload 4) 2 545 := by decide +kernel
theorem dL_law_545 : decode cL_law 545 = .ok (.iconst 1, 1) ∧ 545 + 1 = 546 ∧ Int32.ofInt (1) = (1) := by decide +kernel
theorem dL_law_546 : gd cL_law 546 (.iadd) 1 547 := by decide +kernel
theorem dL_law_547 : gd cL_law 547 (.iaload) 1 548 := by decide +kernel
theorem dL_law_548 : gd cL_law 548 (.aload_n 0) 1 549 := by decide +kernel
theorem dL_law_549 : gd cL_law 549 (.iload 4) 2 551 := by decide +kernel
theorem dL_law_551 : decode cL_law 551 = .ok (.iconst 2, 1) ∧ 551 + 1 = 552 ∧ Int32.ofInt (2) = (2) := by decide +kernel
theorem dL_law_552 : gd cL_law 552 (.iadd) 1 553 := by decide +kernel
theorem dL_law_553 : gd cL_law 553 (.iaload) 1 554 := by decide +kernel
theorem dL_law_554 : gd cL_law 554 (.invokevirtual 58) 3 557 := by decide +kernel
theorem dL_law_557 : gd cL_law 557 (.aload_n 2) 1 558 := by decide +kernel
theorem dL_law_558 : gd cL_law 558 (.aload_n 0) 1 559 := by decide +kernel
theorem dL_law_559 : gd cL_law 559 (.iload 4) 2 561 := by decide +kernel
theorem dL_law_561 : decode cL_law 561 = .ok (.iconst 1, 1) ∧ 561 + 1 = 562 ∧ Int32.ofInt (1) = (1) := by decide +kernel
theorem dL_law_562 : gd cL_law 562 (.iadd) 1 563 := by decide +kernel
theorem dL_law_563 : gd cL_law 563 (.iaload) 1 564 := by decide +kernel
theorem dL_law_564 : gd cL_law 564 (.aload_n 0) 1 565 := by decide +kernel
theorem dL_law_565 : gd cL_law 565 (.iload 4) 2 567 := by decide +kernel
theorem dL_law_567 : decode cL_law 567 = .ok (.iconst 2, 1) ∧ 567 + 1 = 568 ∧ Int32.ofInt (2) = (2) := by decide +kernel
theorem dL_law_568 : gd cL_law 568 (.iadd) 1 569 := by decide +kernel
theorem dL_law_569 : gd cL_law 569 (.iaload) 1 570 := by decide +kernel
theorem dL_law_570 : gd cL_law 570 (.invokevirtual 61) 3 573 := by decide +kernel
theorem dL_law_573 : gb cL_law 573 (.if_icmp .eq 1395) (1395) 576 1968 := by decide +kernel
theorem dL_law_576 : decode cL_law 576 = .ok (.iconst 0, 1) ∧ 576 + 1 = 577 ∧ Int32.ofInt (0) = (0) := by decide +kernel
theorem dL_law_577 : gd cL_law 577 (.ireturn) 1 578 := by decide +kernel
theorem dL_law_578 : gd cL_law 578 (.aload_n 1) 1 579 := by decide +kernel
theorem dL_law_579 : gd cL_law 579 (.aload_n 0) 1 580 := by decide +kernel
theorem dL_law_580 : gd cL_law 580 (.iload 4) 2 582 := by decide +kernel
theorem dL_law_582 : decode cL_law 582 = .ok (.iconst 1, 1) ∧ 582 + 1 = 583 ∧ Int32.ofInt (1) = (1) := by decide +kernel
theorem dL_law_583 : gd cL_law 583 (.iadd) 1 584 := by decide +kernel
theorem dL_law_584 : gd cL_law 584 (.iaload) 1 585 := by decide +kernel
theorem dL_law_585 : gd cL_law 585 (.aload_n 0) 1 586 := by decide +kernel
theorem dL_law_586 : gd cL_law 586 (.iload 4) 2 588 := by decide +kernel
theorem dL_law_588 : decode cL_law 588 = .ok (.iconst 2, 1) ∧ 588 + 1 = 589 ∧ Int32.ofInt (2) = (2) := by decide +kernel
theorem dL_law_589 : gd cL_law 589 (.iadd) 1 590 := by decide +kernel
theorem dL_law_590 : gd cL_law 590 (.iaload) 1 591 := by decide +kernel
theorem dL_law_591 : gd cL_law 591 (.invokevirtual 62) 3 594 := by decide +kernel
theorem dL_law_594 : gd cL_law 594 (.aload_n 2) 1 595 := by decide +kernel
theorem dL_law_595 : gd cL_law 595 (.aload_n 0) 1 596 := by decide +kernel
theorem dL_law_596 : gd cL_law 596 (.iload 4) 2 598 := by decide +kernel
theorem dL_law_598 : decode cL_law 598 = .ok (.iconst 1, 1) ∧ 598 + 1 = 599 ∧ Int32.ofInt (1) = (1) := by decide +kernel
theorem dL_law_599 : gd cL_law 599 (.iadd) 1 600 := by decide +kernel
theorem dL_law_600 : gd cL_law 600 (.iaload) 1 601 := by decide +kernel
theorem dL_law_601 : gd cL_law 601 (.aload_n 0) 1 602 := by decide +kernel
theorem dL_law_602 : gd cL_law 602 (.iload 4) 2 604 := by decide +kernel
theorem dL_law_604 : decode cL_law 604 = .ok (.iconst 2, 1) ∧ 604 + 1 = 605 ∧ Int32.ofInt (2) = (2) := by decide +kernel
theorem dL_law_605 : gd cL_law 605 (.iadd) 1 606 := by decide +kernel
theorem dL_law_606 : gd cL_law 606 (.iaload) 1 607 := by decide +kernel
theorem dL_law_607 : gd cL_law 607 (.invokevirtual 65) 3 610 := by decide +kernel
theorem dL_law_610 : gb cL_law 610 (.if_icmp .eq 1358) (1358) 613 1968 := by decide +kernel
theorem dL_law_613 : decode cL_law 613 = .ok (.iconst 0, 1) ∧ 613 + 1 = 614 ∧ Int32.ofInt (0) = (0) := by decide +kernel
theorem dL_law_614 : gd cL_law 614 (.ireturn) 1 615 := by decide +kernel
theorem dL_law_615 : gd cL_law 615 (.aload_n 1) 1 616 := by decide +kernel
theorem dL_law_616 : gd cL_law 616 (.aload_n 0) 1 617 := by decide +kernel
theorem dL_law_617 : gd cL_law 617 (.iload 4) 2 619 := by decide +kernel
theorem dL_law_619 : decode cL_law 619 = .ok (.iconst 1, 1) ∧ 619 + 1 = 620 ∧ Int32.ofInt (1) = (1) := by decide +kernel
theorem dL_law_620 : gd cL_law 620 (.iadd) 1 621 := by decide +kernel
theorem dL_law_621 : gd cL_law 621 (.iaload) 1 622 := by decide +kernel
theorem dL_law_622 : gd cL_law 622 (.aload_n 0) 1 623 := by decide +kernel
theorem dL_law_623 : gd cL_law 623 (.iload 4) 2 625 := by decide +kernel
theorem dL_law_625 : decode cL_law 625 = .ok (.iconst 2, 1) ∧ 625 + 1 = 626 ∧ Int32.ofInt (2) = (2) := by decide +kernel
theorem dL_law_626 : gd cL_law 626 (.iadd) 1 627 := by decide +kernel
theorem dL_law_627 : gd cL_law 627 (.iaload) 1 628 := by decide +kernel
theorem dL_law_628 : gd cL_law 628 (.invokevirtual 66) 3 631 := by decide +kernel
theorem dL_law_631 : gd cL_law 631 (.aload_n 2) 1 632 := by decide +kernel
theorem dL_law_632 : gd cL_law 632 (.aload_n 0) 1 633 := by decide +kernel
theorem dL_law_633 : gd cL_law 633 (.iload 4) 2 635 := by decide +kernel
theorem dL_law_635 : decode cL_law 635 = .ok (.iconst 1, 1) ∧ 635 + 1 = 636 ∧ Int32.ofInt (1) = (1) := by decide +kernel
theorem dL_law_636 : gd cL_law 636 (.iadd) 1 637 := by decide +kernel
theorem dL_law_637 : gd cL_law 637 (.iaload) 1 638 := by decide +kernel
theorem dL_law_638 : gd cL_law 638 (.aload_n 0) 1 639 := by decide +kernel
theorem dL_law_639 : gd cL_law 639 (.iload 4) 2 641 := by decide +kernel
theorem dL_law_641 : decode cL_law 641 = .ok (.iconst 2, 1) ∧ 641 + 1 = 642 ∧ Int32.ofInt (2) = (2) := by decide +kernel
theorem dL_law_642 : gd cL_law 642 (.iadd) 1 643 := by decide +kernel
theorem dL_law_643 : gd cL_law 643 (.iaload) 1 644 := by decide +kernel
theorem dL_law_644 : gd cL_law 644 (.invokevirtual 69) 3 647 := by decide +kernel
theorem dL_law_647 : gb cL_law 647 (.if_icmp .eq 1321) (1321) 650 1968 := by decide +kernel
theorem dL_law_650 : decode cL_law 650 = .ok (.iconst 0, 1) ∧ 650 + 1 = 651 ∧ Int32.ofInt (0) = (0) := by decide +kernel
theorem dL_law_651 : gd cL_law 651 (.ireturn) 1 652 := by decide +kernel
theorem dL_law_652 : gd cL_law 652 (.aload_n 1) 1 653 := by decide +kernel
theorem dL_law_653 : gd cL_law 653 (.aload_n 0) 1 654 := by decide +kernel
theorem dL_law_654 : gd cL_law 654 (.iload 4) 2 656 := by decide +kernel
theorem dL_law_656 : decode cL_law 656 = .ok (.iconst 1, 1) ∧ 656 + 1 = 657 ∧ Int32.ofInt (1) = (1) := by decide +kernel
theorem dL_law_657 : gd cL_law 657 (.iadd) 1 658 := by decide +kernel
theorem dL_law_658 : gd cL_law 658 (.iaload) 1 659 := by decide +kernel
theorem dL_law_659 : gd cL_law 659 (.invokevirtual 70) 3 662 := by decide +kernel
theorem dL_law_662 : gd cL_law 662 (.aload_n 2) 1 663 := by decide +kernel
theorem dL_law_663 : gd cL_law 663 (.aload_n 0) 1 664 := by decide +kernel
theorem dL_law_664 : gd cL_law 664 (.iload 4) 2 666 := by decide +kernel
theorem dL_law_666 : decode cL_law 666 = .ok (.iconst 1, 1) ∧ 666 + 1 = 667 ∧ Int32.ofInt (1) = (1) := by decide +kernel
theorem dL_law_667 : gd cL_law 667 (.iadd) 1 668 := by decide +kernel
theorem dL_law_668 : gd cL_law 668 (.iaload) 1 669 := by decide +kernel
theorem dL_law_669 : gd cL_law 669 (.invokevirtual 73) 3 672 := by decide +kernel
theorem dL_law_672 : gb cL_law 672 (.if_icmp .eq 1296) (1296) 675 1968 := by decide +kernel
theorem dL_law_675 : decode cL_law 675 = .ok (.iconst 0, 1) ∧ 675 + 1 = 676 ∧ Int32.ofInt (0) = (0) := by decide +kernel
theorem dL_law_676 : gd cL_law 676 (.ireturn) 1 677 := by decide +kernel
theorem dL_law_677 : gd cL_law 677 (.aload_n 1) 1 678 := by decide +kernel
theorem dL_law_678 : gd cL_law 678 (.aload_n 0) 1 679 := by decide +kernel
theorem dL_law_679 : gd cL_law 679 (.iload 4) 2 681 := by decide +kernel
theorem dL_law_681 : decode cL_law 681 = .ok (.iconst 1, 1) ∧ 681 + 1 = 682 ∧ Int32.ofInt (1) = (1) := by decide +kernel
theorem dL_law_682 : gd cL_law 682 (.iadd) 1 683 := by decide +kernel
theorem dL_law_683 : gd cL_law 683 (.iaload) 1 684 := by decide +kernel
theorem dL_law_684 : gd cL_law 684 (.aload_n 0) 1 685 := by decide +kernel
theorem dL_law_685 : gd cL_law 685 (.iload 4) 2 687 := by decide +kernel
theorem dL_law_687 : decode cL_law 687 = .ok (.iconst 2, 1) ∧ 687 + 1 = 688 ∧ Int32.ofInt (2) = (2) := by decide +kernel
theorem dL_law_688 : gd cL_law 688 (.iadd) 1 689 := by decide +kernel
theorem dL_law_689 : gd cL_law 689 (.iaload) 1 690 := by decide +kernel
theorem dL_law_690 : gd cL_law 690 (.invokevirtual 74) 3 693 := by decide +kernel
theorem dL_law_693 : gd cL_law 693 (.aload_n 2) 1 694 := by decide +kernel
theorem dL_law_694 : gd cL_law 694 (.aload_n 0) 1 695 := by decide +kernel
theorem dL_law_695 : gd cL_law 695 (.iload 4) 2 697 := by decide +kernel
theorem dL_law_697 : decode cL_law 697 = .ok (.iconst 1, 1) ∧ 697 + 1 = 698 ∧ Int32.ofInt (1) = (1) := by decide +kernel
theorem dL_law_698 : gd cL_law 698 (.iadd) 1 699 := by decide +kernel
theorem dL_law_699 : gd cL_law 699 (.iaload) 1 700 := by decide +kernel
theorem dL_law_700 : gd cL_law 700 (.aload_n 0) 1 701 := by decide +kernel
theorem dL_law_701 : gd cL_law 701 (.iload 4) 2 703 := by decide +kernel
theorem dL_law_703 : decode cL_law 703 = .ok (.iconst 2, 1) ∧ 703 + 1 = 704 ∧ Int32.ofInt (2) = (2) := by decide +kernel
theorem dL_law_704 : gd cL_law 704 (.iadd) 1 705 := by decide +kernel
theorem dL_law_705 : gd cL_law 705 (.iaload) 1 706 := by decide +kernel
theorem dL_law_706 : gd cL_law 706 (.invokevirtual 77) 3 709 := by decide +kernel
theorem dL_law_709 : gb cL_law 709 (.if_icmp .eq 1259) (1259) 712 1968 := by decide +kernel
theorem dL_law_712 : decode cL_law 712 = .ok (.iconst 0, 1) ∧ 712 + 1 = 713 ∧ Int32.ofInt (0) = (0) := by decide +kernel
theorem dL_law_713 : gd cL_law 713 (.ireturn) 1 714 := by decide +kernel
theorem dL_law_714 : gd cL_law 714 (.aload_n 1) 1 715 := by decide +kernel
theorem dL_law_715 : gd cL_law 715 (.aload_n 0) 1 716 := by decide +kernel
theorem dL_law_716 : gd cL_law 716 (.iload 4) 2 718 := by decide +kernel
theorem dL_law_718 : decode cL_law 718 = .ok (.iconst 1, 1) ∧ 718 + 1 = 719 ∧ Int32.ofInt (1) = (1) := by decide +kernel
theorem dL_law_719 : gd cL_law 719 (.iadd) 1 720 := by decide +kernel
theorem dL_law_720 : gd cL_law 720 (.iaload) 1 721 := by decide +kernel
theorem dL_law_721 : gd cL_law 721 (.aload_n 0) 1 722 := by decide +kernel
theorem dL_law_722 : gd cL_law 722 (.iload 4) 2 724 := by decide +kernel
theorem dL_law_724 : decode cL_law 724 = .ok (.iconst 2, 1) ∧ 724 + 1 = 725 ∧ Int32.ofInt (2) = (2) := by decide +kernel
theorem dL_law_725 : gd cL_law 725 (.iadd) 1 726 := by decide +kernel
theorem dL_law_726 : gd cL_law 726 (.iaload) 1 727 := by decide +kernel
theorem dL_law_727 : gd cL_law 727 (.aload_n 0) 1 728 := by decide +kernel
theorem dL_law_728 : gd cL_law 728 (.iload 4) 2 730 := by decide +kernel
theorem dL_law_730 : decode cL_law 730 = .ok (.iconst 3, 1) ∧ 730 + 1 = 731 ∧ Int32.ofInt (3) = (3) := by decide +kernel
theorem dL_law_731 : gd cL_law 731 (.iadd) 1 732 := by decide +kernel
theorem dL_law_732 : gd cL_law 732 (.iaload) 1 733 := by decide +kernel
theorem dL_law_733 : gd cL_law 733 (.invokevirtual 78) 3 736 := by decide +kernel
theorem dL_law_736 : gd cL_law 736 (.aload_n 2) 1 737 := by decide +kernel
theorem dL_law_737 : gd cL_law 737 (.aload_n 0) 1 738 := by decide +kernel
theorem dL_law_738 : gd cL_law 738 (.iload 4) 2 740 := by decide +kernel
theorem dL_law_740 : decode cL_law 740 = .ok (.iconst 1, 1) ∧ 740 + 1 = 741 ∧ Int32.ofInt (1) = (1) := by decide +kernel
theorem dL_law_741 : gd cL_law 741 (.iadd) 1 742 := by decide +kernel
theorem dL_law_742 : gd cL_law 742 (.iaload) 1 743 := by decide +kernel
theorem dL_law_743 : gd cL_law 743 (.aload_n 0) 1 744 := by decide +kernel
theorem dL_law_744 : gd cL_law 744 (.iload 4) 2 746 := by decide +kernel
theorem dL_law_746 : decode cL_law 746 = .ok (.iconst 2, 1) ∧ 746 + 1 = 747 ∧ Int32.ofInt (2) = (2) := by decide +kernel
theorem dL_law_747 : gd cL_law 747 (.iadd) 1 748 := by decide +kernel
theorem dL_law_748 : gd cL_law 748 (.iaload) 1 749 := by decide +kernel
theorem dL_law_749 : gd cL_law 749 (.aload_n 0) 1 750 := by decide +kernel
theorem dL_law_750 : gd cL_law 750 (.iload 4) 2 752 := by decide +kernel
theorem dL_law_752 : decode cL_law 752 = .ok (.iconst 3, 1) ∧ 752 + 1 = 753 ∧ Int32.ofInt (3) = (3) := by decide +kernel
theorem dL_law_753 : gd cL_law 753 (.iadd) 1 754 := by decide +kernel
theorem dL_law_754 : gd cL_law 754 (.iaload) 1 755 := by decide +kernel
theorem dL_law_755 : gd cL_law 755 (.invokevirtual 82) 3 758 := by decide +kernel
theorem dL_law_758 : gb cL_law 758 (.if_icmp .eq 1210) (1210) 761 1968 := by decide +kernel
theorem dL_law_761 : decode cL_law 761 = .ok (.iconst 0, 1) ∧ 761 + 1 = 762 ∧ Int32.ofInt (0) = (0) := by decide +kernel
theorem dL_law_762 : gd cL_law 762 (.ireturn) 1 763 := by decide +kernel
theorem dL_law_763 : gd cL_law 763 (.aload_n 1) 1 764 := by decide +kernel
theorem dL_law_764 : gd cL_law 764 (.aload_n 0) 1 765 := by decide +kernel
theorem dL_law_765 : gd cL_law 765 (.iload 4) 2 767 := by decide +kernel
theorem dL_law_767 : decode cL_law 767 = .ok (.iconst 1, 1) ∧ 767 + 1 = 768 ∧ Int32.ofInt (1) = (1) := by decide +kernel
theorem dL_law_768 : gd cL_law 768 (.iadd) 1 769 := by decide +kernel
theorem dL_law_769 : gd cL_law 769 (.iaload) 1 770 := by decide +kernel
theorem dL_law_770 : gd cL_law 770 (.aload_n 0) 1 771 := by decide +kernel
theorem dL_law_771 : gd cL_law 771 (.iload 4) 2 773 := by decide +kernel
theorem dL_law_773 : decode cL_law 773 = .ok (.iconst 2, 1) ∧ 773 + 1 = 774 ∧ Int32.ofInt (2) = (2) := by decide +kernel
theorem dL_law_774 : gd cL_law 774 (.iadd) 1 775 := by decide +kernel
theorem dL_law_775 : gd cL_law 775 (.iaload) 1 776 := by decide +kernel
theorem dL_law_776 : gd cL_law 776 (.aload_n 0) 1 777 := by decide +kernel
theorem dL_law_777 : gd cL_law 777 (.iload 4) 2 779 := by decide +kernel
theorem dL_law_779 : decode cL_law 779 = .ok (.iconst 3, 1) ∧ 779 + 1 = 780 ∧ Int32.ofInt (3) = (3) := by decide +kernel
theorem dL_law_780 : gd cL_law 780 (.iadd) 1 781 := by decide +kernel
theorem dL_law_781 : gd cL_law 781 (.iaload) 1 782 := by decide +kernel
theorem dL_law_782 : gd cL_law 782 (.invokevirtual 83) 3 785 := by decide +kernel
