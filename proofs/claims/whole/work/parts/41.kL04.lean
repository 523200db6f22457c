theorem d_L_law_570 : decode (qB q_L_law) 570 = .ok (.aload_n 0, 1) := by decide +kernel
theorem d_L_law_571 : decode (qB q_L_law) 571 = .ok (.iload_n 3, 1) := by decide +kernel
theorem d_L_law_572 : decode (qB q_L_law) 572 = .ok (.iconst 2, 1) := by decide +kernel
theorem d_L_law_573 : decode (qB q_L_law) 573 = .ok (.iadd, 1) := by decide +kernel
theorem d_L_law_574 : decode (qB q_L_law) 574 = .ok (.iaload, 1) := by decide +kernel
theorem d_L_law_575 : decode (qB q_L_law) 575 = .ok (.invokevirtual 56, 3) := by decide +kernel
theorem d_L_law_578 : decode (qB q_L_law) 578 = .ok (.if_icmp .eq 422, 3) := by decide +kernel
theorem d_L_law_581 : decode (qB q_L_law) 581 = .ok (.iconst 0, 1) := by decide +kernel
theorem d_L_law_582 : decode (qB q_L_law) 582 = .ok (.ireturn, 1) := by decide +kernel
theorem d_L_law_583 : decode (qB q_L_law) 583 = .ok (.aload_n 1, 1) := by decide +kernel
theorem d_L_law_584 : decode (qB q_L_law) 584 = .ok (.aload_n 0, 1) := by decide +kernel
theorem d_L_law_585 : decode (qB q_L_law) 585 = .ok (.iload_n 3, 1) := by decide +kernel
theorem d_L_law_586 : decode (qB q_L_law) 586 = .ok (.iconst 1, 1) := by decide +kernel
theorem d_L_law_587 : decode (qB q_L_law) 587 = .ok (.iadd, 1) := by decide +kernel
theorem d_L_law_588 : decode (qB q_L_law) 588 = .ok (.iaload, 1) := by decide +kernel
theorem d_L_law_589 : decode (qB q_L_law) 589 = .ok (.invokevirtual 57, 3) := by decide +kernel
theorem d_L_law_592 : decode (qB q_L_law) 592 = .ok (.aload_n 2, 1) := by decide +kernel
theorem d_L_law_593 : decode (qB q_L_law) 593 = .ok (.aload_n 0, 1) := by decide +kernel
theorem d_L_law_594 : decode (qB q_L_law) 594 = .ok (.iload_n 3, 1) := by decide +kernel
theorem d_L_law_595 : decode (qB q_L_law) 595 = .ok (.iconst 1, 1) := by decide +kernel
theorem d_L_law_596 : decode (qB q_L_law) 596 = .ok (.iadd, 1) := by decide +kernel
theorem d_L_law_597 : decode (qB q_L_law) 597 = .ok (.iaload, 1) := by decide +kernel
theorem d_L_law_598 : decode (qB q_L_law) 598 = .ok (.invokevirtual 61, 3) := by decide +kernel
theorem d_L_law_601 : decode (qB q_L_law) 601 = .ok (.lcmp, 1) := by decide +kernel
theorem d_L_law_602 : decode (qB q_L_law) 602 = .ok (.ifCond .eq 398, 3) := by decide +kernel
theorem d_L_law_605 : decode (qB q_L_law) 605 = .ok (.iconst 0, 1) := by decide +kernel
theorem d_L_law_606 : decode (qB q_L_law) 606 = .ok (.ireturn, 1) := by decide +kernel
theorem d_L_law_607 : decode (qB q_L_law) 607 = .ok (.aload_n 1, 1) := by decide +kernel
theorem d_L_law_608 : decode (qB q_L_law) 608 = .ok (.invokevirtual 62, 3) := by decide +kernel
theorem d_L_law_611 : decode (qB q_L_law) 611 = .ok (.aload_n 2, 1) := by decide +kernel
theorem d_L_law_612 : decode (qB q_L_law) 612 = .ok (.invokevirtual 66, 3) := by decide +kernel
theorem d_L_law_615 : decode (qB q_L_law) 615 = .ok (.lcmp, 1) := by decide +kernel
theorem d_L_law_616 : decode (qB q_L_law) 616 = .ok (.ifCond .eq 384, 3) := by decide +kernel
theorem d_L_law_619 : decode (qB q_L_law) 619 = .ok (.iconst 0, 1) := by decide +kernel
theorem d_L_law_620 : decode (qB q_L_law) 620 = .ok (.ireturn, 1) := by decide +kernel
theorem d_L_law_621 : decode (qB q_L_law) 621 = .ok (.aload_n 1, 1) := by decide +kernel
theorem d_L_law_622 : decode (qB q_L_law) 622 = .ok (.invokevirtual 67, 3) := by decide +kernel
theorem d_L_law_625 : decode (qB q_L_law) 625 = .ok (.aload_n 2, 1) := by decide +kernel
theorem d_L_law_626 : decode (qB q_L_law) 626 = .ok (.invokevirtual 71, 3) := by decide +kernel
theorem d_L_law_629 : decode (qB q_L_law) 629 = .ok (.if_icmp .eq 371, 3) := by decide +kernel
theorem d_L_law_632 : decode (qB q_L_law) 632 = .ok (.iconst 0, 1) := by decide +kernel
theorem d_L_law_633 : decode (qB q_L_law) 633 = .ok (.ireturn, 1) := by decide +kernel
theorem d_L_law_634 : decode (qB q_L_law) 634 = .ok (.aload_n 1, 1) := by decide +kernel
theorem d_L_law_635 : decode (qB q_L_law) 635 = .ok (.aload_n 0, 1) := by decide +kernel
theorem d_L_law_636 : decode (qB q_L_law) 636 = .ok (.iload_n 3, 1) := by decide +kernel
theorem d_L_law_637 : decode (qB q_L_law) 637 = .ok (.iconst 1, 1) := by decide +kernel
theorem d_L_law_638 : decode (qB q_L_law) 638 = .ok (.iadd, 1) := by decide +kernel
theorem d_L_law_639 : decode (qB q_L_law) 639 = .ok (.iaload, 1) := by decide +kernel
theorem d_L_law_640 : decode (qB q_L_law) 640 = .ok (.i2l, 1) := by decide +kernel
theorem d_L_law_641 : decode (qB q_L_law) 641 = .ok (.bipush 32, 2) := by decide +kernel
theorem d_L_law_643 : decode (qB q_L_law) 643 = .ok (.lshl, 1) := by decide +kernel
theorem d_L_law_644 : decode (qB q_L_law) 644 = .ok (.aload_n 0, 1) := by decide +kernel
theorem d_L_law_645 : decode (qB q_L_law) 645 = .ok (.iload_n 3, 1) := by decide +kernel
theorem d_L_law_646 : decode (qB q_L_law) 646 = .ok (.iconst 2, 1) := by decide +kernel
theorem d_L_law_647 : decode (qB q_L_law) 647 = .ok (.iadd, 1) := by decide +kernel
theorem d_L_law_648 : decode (qB q_L_law) 648 = .ok (.iaload, 1) := by decide +kernel
theorem d_L_law_649 : decode (qB q_L_law) 649 = .ok (.i2l, 1) := by decide +kernel
theorem d_L_law_650 : decode (qB q_L_law) 650 = .ok (.ldc2_w 35, 3) := by decide +kernel
theorem d_L_law_653 : decode (qB q_L_law) 653 = .ok (.land, 1) := by decide +kernel
theorem d_L_law_654 : decode (qB q_L_law) 654 = .ok (.lor, 1) := by decide +kernel
theorem d_L_law_655 : decode (qB q_L_law) 655 = .ok (.aload_n 0, 1) := by decide +kernel
theorem d_L_law_656 : decode (qB q_L_law) 656 = .ok (.iload_n 3, 1) := by decide +kernel
theorem d_L_law_657 : decode (qB q_L_law) 657 = .ok (.iconst 3, 1) := by decide +kernel
theorem d_L_law_658 : decode (qB q_L_law) 658 = .ok (.iadd, 1) := by decide +kernel
theorem d_L_law_659 : decode (qB q_L_law) 659 = .ok (.iaload, 1) := by decide +kernel
theorem d_L_law_660 : decode (qB q_L_law) 660 = .ok (.i2l, 1) := by decide +kernel
theorem d_L_law_661 : decode (qB q_L_law) 661 = .ok (.bipush 32, 2) := by decide +kernel
theorem d_L_law_663 : decode (qB q_L_law) 663 = .ok (.lshl, 1) := by decide +kernel
theorem d_L_law_664 : decode (qB q_L_law) 664 = .ok (.aload_n 0, 1) := by decide +kernel
theorem d_L_law_665 : decode (qB q_L_law) 665 = .ok (.iload_n 3, 1) := by decide +kernel
theorem d_L_law_666 : decode (qB q_L_law) 666 = .ok (.iconst 4, 1) := by decide +kernel
theorem d_L_law_667 : decode (qB q_L_law) 667 = .ok (.iadd, 1) := by decide +kernel
theorem d_L_law_668 : decode (qB q_L_law) 668 = .ok (.iaload, 1) := by decide +kernel
theorem d_L_law_669 : decode (qB q_L_law) 669 = .ok (.i2l, 1) := by decide +kernel
theorem d_L_law_670 : decode (qB q_L_law) 670 = .ok (.ldc2_w 35, 3) := by decide +kernel
theorem d_L_law_673 : decode (qB q_L_law) 673 = .ok (.land, 1) := by decide +kernel
theorem d_L_law_674 : decode (qB q_L_law) 674 = .ok (.lor, 1) := by decide +kernel
theorem d_L_law_675 : decode (qB q_L_law) 675 = .ok (.invokevirtual 72, 3) := by decide +kernel
theorem d_L_law_678 : decode (qB q_L_law) 678 = .ok (.aload_n 2, 1) := by decide +kernel
theorem d_L_law_679 : decode (qB q_L_law) 679 = .ok (.aload_n 0, 1) := by decide +kernel
theorem d_L_law_680 : decode (qB q_L_law) 680 = .ok (.iload_n 3, 1) := by decide +kernel
theorem d_L_law_681 : decode (qB q_L_law) 681 = .ok (.iconst 1, 1) := by decide +kernel
theorem d_L_law_682 : decode (qB q_L_law) 682 = .ok (.iadd, 1) := by decide +kernel
theorem d_L_law_683 : decode (qB q_L_law) 683 = .ok (.iaload, 1) := by decide +kernel
theorem d_L_law_684 : decode (qB q_L_law) 684 = .ok (.i2l, 1) := by decide +kernel
theorem d_L_law_685 : decode (qB q_L_law) 685 = .ok (.bipush 32, 2) := by decide +kernel
theorem d_L_law_687 : decode (qB q_L_law) 687 = .ok (.lshl, 1) := by decide +kernel
theorem d_L_law_688 : decode (qB q_L_law) 688 = .ok (.aload_n 0, 1) := by decide +kernel
theorem d_L_law_689 : decode (qB q_L_law) 689 = .ok (.iload_n 3, 1) := by decide +kernel
theorem d_L_law_690 : decode (qB q_L_law) 690 = .ok (.iconst 2, 1) := by decide +kernel
theorem d_L_law_691 : decode (qB q_L_law) 691 = .ok (.iadd, 1) := by decide +kernel
theorem d_L_law_692 : decode (qB q_L_law) 692 = .ok (.iaload, 1) := by decide +kernel
theorem d_L_law_693 : decode (qB q_L_law) 693 = .ok (.i2l, 1) := by decide +kernel
theorem d_L_law_694 : decode (qB q_L_law) 694 = .ok (.ldc2_w 35, 3) := by decide +kernel
theorem d_L_law_697 : decode (qB q_L_law) 697 = .ok (.land, 1) := by decide +kernel
theorem d_L_law_698 : decode (qB q_L_law) 698 = .ok (.lor, 1) := by decide +kernel
theorem d_L_law_699 : decode (qB q_L_law) 699 = .ok (.aload_n 0, 1) := by decide +kernel
theorem d_L_law_700 : decode (qB q_L_law) 700 = .ok (.iload_n 3, 1) := by decide +kernel
theorem d_L_law_701 : decode (qB q_L_law) 701 = .ok (.iconst 3, 1) := by decide +kernel
theorem d_L_law_702 : decode (qB q_L_law) 702 = .ok (.iadd, 1) := by decide +kernel
