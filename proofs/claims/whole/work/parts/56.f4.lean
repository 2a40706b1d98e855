theorem q0_560 : z_m0.2.2.2.2.2.lookup 560 = some (.iload_n 3, 1) := by decide +kernel
theorem q0_561 : z_m0.2.2.2.2.2.lookup 561 = some (.iconst 1, 1) := by decide +kernel
theorem q0_562 : z_m0.2.2.2.2.2.lookup 562 = some (.iadd, 1) := by decide +kernel
theorem q0_563 : z_m0.2.2.2.2.2.lookup 563 = some (.iaload, 1) := by decide +kernel
theorem q0_564 : z_m0.2.2.2.2.2.lookup 564 = some (.aload_n 0, 1) := by decide +kernel
theorem q0_565 : z_m0.2.2.2.2.2.lookup 565 = some (.iload_n 3, 1) := by decide +kernel
theorem q0_566 : z_m0.2.2.2.2.2.lookup 566 = some (.iconst 2, 1) := by decide +kernel
theorem q0_567 : z_m0.2.2.2.2.2.lookup 567 = some (.iadd, 1) := by decide +kernel
theorem q0_568 : z_m0.2.2.2.2.2.lookup 568 = some (.iaload, 1) := by decide +kernel
theorem q0_569 : z_m0.2.2.2.2.2.lookup 569 = some (.i2l, 1) := by decide +kernel
theorem q0_570 : z_m0.2.2.2.2.2.lookup 570 = some (.bipush 32, 2) := by decide +kernel
theorem q0_572 : z_m0.2.2.2.2.2.lookup 572 = some (.lshl, 1) := by decide +kernel
theorem q0_573 : z_m0.2.2.2.2.2.lookup 573 = some (.aload_n 0, 1) := by decide +kernel
theorem q0_574 : z_m0.2.2.2.2.2.lookup 574 = some (.iload_n 3, 1) := by decide +kernel
theorem q0_575 : z_m0.2.2.2.2.2.lookup 575 = some (.iconst 3, 1) := by decide +kernel
theorem q0_576 : z_m0.2.2.2.2.2.lookup 576 = some (.iadd, 1) := by decide +kernel
theorem q0_577 : z_m0.2.2.2.2.2.lookup 577 = some (.iaload, 1) := by decide +kernel
theorem q0_578 : z_m0.2.2.2.2.2.lookup 578 = some (.i2l, 1) := by decide +kernel
theorem q0_579 : z_m0.2.2.2.2.2.lookup 579 = some (.ldc2_w 57, 3) := by decide +kernel
theorem q0_582 : z_m0.2.2.2.2.2.lookup 582 = some (.land, 1) := by decide +kernel
theorem q0_583 : z_m0.2.2.2.2.2.lookup 583 = some (.lor, 1) := by decide +kernel
theorem q0_584 : z_m0.2.2.2.2.2.lookup 584 = some (.invokevirtual 59, 3) := by decide +kernel
theorem q0_587 : z_m0.2.2.2.2.2.lookup 587 = some (.aload_n 2, 1) := by decide +kernel
theorem q0_588 : z_m0.2.2.2.2.2.lookup 588 = some (.aload_n 0, 1) := by decide +kernel
theorem q0_589 : z_m0.2.2.2.2.2.lookup 589 = some (.iload_n 3, 1) := by decide +kernel
theorem q0_590 : z_m0.2.2.2.2.2.lookup 590 = some (.iconst 1, 1) := by decide +kernel
theorem q0_591 : z_m0.2.2.2.2.2.lookup 591 = some (.iadd, 1) := by decide +kernel
theorem q0_592 : z_m0.2.2.2.2.2.lookup 592 = some (.iaload, 1) := by decide +kernel
theorem q0_593 : z_m0.2.2.2.2.2.lookup 593 = some (.aload_n 0, 1) := by decide +kernel
theorem q0_594 : z_m0.2.2.2.2.2.lookup 594 = some (.iload_n 3, 1) := by decide +kernel
theorem q0_595 : z_m0.2.2.2.2.2.lookup 595 = some (.iconst 2, 1) := by decide +kernel
theorem q0_596 : z_m0.2.2.2.2.2.lookup 596 = some (.iadd, 1) := by decide +kernel
theorem q0_597 : z_m0.2.2.2.2.2.lookup 597 = some (.iaload, 1) := by decide +kernel
theorem q0_598 : z_m0.2.2.2.2.2.lookup 598 = some (.i2l, 1) := by decide +kernel
theorem q0_599 : z_m0.2.2.2.2.2.lookup 599 = some (.bipush 32, 2) := by decide +kernel
theorem q0_601 : z_m0.2.2.2.2.2.lookup 601 = some (.lshl, 1) := by decide +kernel
theorem q0_602 : z_m0.2.2.2.2.2.lookup 602 = some (.aload_n 0, 1) := by decide +kernel
theorem q0_603 : z_m0.2.2.2.2.2.lookup 603 = some (.iload_n 3, 1) := by decide +kernel
theorem q0_604 : z_m0.2.2.2.2.2.lookup 604 = some (.iconst 3, 1) := by decide +kernel
theorem q0_605 : z_m0.2.2.2.2.2.lookup 605 = some (.iadd, 1) := by decide +kernel
theorem q0_606 : z_m0.2.2.2.2.2.lookup 606 = some (.iaload, 1) := by decide +kernel
theorem q0_607 : z_m0.2.2.2.2.2.lookup 607 = some (.i2l, 1) := by decide +kernel
theorem q0_608 : z_m0.2.2.2.2.2.lookup 608 = some (.ldc2_w 57, 3) := by decide +kernel
theorem q0_611 : z_m0.2.2.2.2.2.lookup 611 = some (.land, 1) := by decide +kernel
theorem q0_612 : z_m0.2.2.2.2.2.lookup 612 = some (.lor, 1) := by decide +kernel
theorem q0_613 : z_m0.2.2.2.2.2.lookup 613 = some (.invokevirtual 63, 3) := by decide +kernel
theorem q0_616 : z_m0.2.2.2.2.2.lookup 616 = some (.if_icmp .eq 980, 3) := by decide +kernel
theorem q0_619 : z_m0.2.2.2.2.2.lookup 619 = some (.iconst 0, 1) := by decide +kernel
theorem q0_620 : z_m0.2.2.2.2.2.lookup 620 = some (.ireturn, 1) := by decide +kernel
theorem q0_621 : z_m0.2.2.2.2.2.lookup 621 = some (.aload_n 1, 1) := by decide +kernel
theorem q0_622 : z_m0.2.2.2.2.2.lookup 622 = some (.invokevirtual 64, 3) := by decide +kernel
theorem q0_625 : z_m0.2.2.2.2.2.lookup 625 = some (.aload_n 2, 1) := by decide +kernel
theorem q0_626 : z_m0.2.2.2.2.2.lookup 626 = some (.invokevirtual 68, 3) := by decide +kernel
theorem q0_629 : z_m0.2.2.2.2.2.lookup 629 = some (.if_icmp .eq 967, 3) := by decide +kernel
theorem q0_632 : z_m0.2.2.2.2.2.lookup 632 = some (.iconst 0, 1) := by decide +kernel
theorem q0_633 : z_m0.2.2.2.2.2.lookup 633 = some (.ireturn, 1) := by decide +kernel
theorem q0_634 : z_m0.2.2.2.2.2.lookup 634 = some (.aload_n 1, 1) := by decide +kernel
theorem q0_635 : z_m0.2.2.2.2.2.lookup 635 = some (.aload_n 0, 1) := by decide +kernel
theorem q0_636 : z_m0.2.2.2.2.2.lookup 636 = some (.iload_n 3, 1) := by decide +kernel
theorem q0_637 : z_m0.2.2.2.2.2.lookup 637 = some (.iconst 1, 1) := by decide +kernel
theorem q0_638 : z_m0.2.2.2.2.2.lookup 638 = some (.iadd, 1) := by decide +kernel
theorem q0_639 : z_m0.2.2.2.2.2.lookup 639 = some (.iaload, 1) := by decide +kernel
theorem q0_640 : z_m0.2.2.2.2.2.lookup 640 = some (.aload_n 0, 1) := by decide +kernel
theorem q0_641 : z_m0.2.2.2.2.2.lookup 641 = some (.iload_n 3, 1) := by decide +kernel
theorem q0_642 : z_m0.2.2.2.2.2.lookup 642 = some (.iconst 2, 1) := by decide +kernel
theorem q0_643 : z_m0.2.2.2.2.2.lookup 643 = some (.iadd, 1) := by decide +kernel
theorem q0_644 : z_m0.2.2.2.2.2.lookup 644 = some (.iaload, 1) := by decide +kernel
theorem q0_645 : z_m0.2.2.2.2.2.lookup 645 = some (.aload_n 0, 1) := by decide +kernel
theorem q0_646 : z_m0.2.2.2.2.2.lookup 646 = some (.iload_n 3, 1) := by decide +kernel
theorem q0_647 : z_m0.2.2.2.2.2.lookup 647 = some (.iconst 3, 1) := by decide +kernel
theorem q0_648 : z_m0.2.2.2.2.2.lookup 648 = some (.iadd, 1) := by decide +kernel
theorem q0_649 : z_m0.2.2.2.2.2.lookup 649 = some (.iaload, 1) := by decide +kernel
theorem q0_650 : z_m0.2.2.2.2.2.lookup 650 = some (.invokevirtual 69, 3) := by decide +kernel
theorem q0_653 : z_m0.2.2.2.2.2.lookup 653 = some (.aload_n 2, 1) := by decide +kernel
theorem q0_654 : z_m0.2.2.2.2.2.lookup 654 = some (.aload_n 0, 1) := by decide +kernel
theorem q0_655 : z_m0.2.2.2.2.2.lookup 655 = some (.iload_n 3, 1) := by decide +kernel
theorem q0_656 : z_m0.2.2.2.2.2.lookup 656 = some (.iconst 1, 1) := by decide +kernel
theorem q0_657 : z_m0.2.2.2.2.2.lookup 657 = some (.iadd, 1) := by decide +kernel
theorem q0_658 : z_m0.2.2.2.2.2.lookup 658 = some (.iaload, 1) := by decide +kernel
theorem q0_659 : z_m0.2.2.2.2.2.lookup 659 = some (.aload_n 0, 1) := by decide +kernel
theorem q0_660 : z_m0.2.2.2.2.2.lookup 660 = some (.iload_n 3, 1) := by decide +kernel
theorem q0_661 : z_m0.2.2.2.2.2.lookup 661 = some (.iconst 2, 1) := by decide +kernel
theorem q0_662 : z_m0.2.2.2.2.2.lookup 662 = some (.iadd, 1) := by decide +kernel
theorem q0_663 : z_m0.2.2.2.2.2.lookup 663 = some (.iaload, 1) := by decide +kernel
theorem q0_664 : z_m0.2.2.2.2.2.lookup 664 = some (.aload_n 0, 1) := by decide +kernel
theorem q0_665 : z_m0.2.2.2.2.2.lookup 665 = some (.iload_n 3, 1) := by decide +kernel
theorem q0_666 : z_m0.2.2.2.2.2.lookup 666 = some (.iconst 3, 1) := by decide +kernel
theorem q0_667 : z_m0.2.2.2.2.2.lookup 667 = some (.iadd, 1) := by decide +kernel
theorem q0_668 : z_m0.2.2.2.2.2.lookup 668 = some (.iaload, 1) := by decide +kernel
theorem q0_669 : z_m0.2.2.2.2.2.lookup 669 = some (.invokevirtual 72, 3) := by decide +kernel
theorem q0_672 : z_m0.2.2.2.2.2.lookup 672 = some (.if_icmp .eq 924, 3) := by decide +kernel
theorem q0_675 : z_m0.2.2.2.2.2.lookup 675 = some (.iconst 0, 1) := by decide +kernel
theorem q0_676 : z_m0.2.2.2.2.2.lookup 676 = some (.ireturn, 1) := by decide +kernel
theorem q0_677 : z_m0.2.2.2.2.2.lookup 677 = some (.aload_n 1, 1) := by decide +kernel
theorem q0_678 : z_m0.2.2.2.2.2.lookup 678 = some (.aload_n 0, 1) := by decide +kernel
theorem q0_679 : z_m0.2.2.2.2.2.lookup 679 = some (.iload_n 3, 1) := by decide +kernel
theorem q0_680 : z_m0.2.2.2.2.2.lookup 680 = some (.iconst 1, 1) := by decide +kernel
theorem q0_681 : z_m0.2.2.2.2.2.lookup 681 = some (.iadd, 1) := by decide +kernel
theorem q0_682 : z_m0.2.2.2.2.2.lookup 682 = some (.iaload, 1) := by decide +kernel
theorem q0_683 : z_m0.2.2.2.2.2.lookup 683 = some (.aload_n 0, 1) := by decide +kernel
theorem q0_684 : z_m0.2.2.2.2.2.lookup 684 = some (.iload_n 3, 1) := by decide +kernel
theorem q0_685 : z_m0.2.2.2.2.2.lookup 685 = some (.iconst 2, 1) := by decide +kernel
theorem q0_686 : z_m0.2.2.2.2.2.lookup 686 = some (.iadd, 1) := by decide +kernel
theorem q0_687 : z_m0.2.2.2.2.2.lookup 687 = some (.iaload, 1) := by decide +kernel
theorem q0_688 : z_m0.2.2.2.2.2.lookup 688 = some (.invokevirtual 73, 3) := by decide +kernel
theorem q0_691 : z_m0.2.2.2.2.2.lookup 691 = some (.aload_n 2, 1) := by decide +kernel
theorem q0_692 : z_m0.2.2.2.2.2.lookup 692 = some (.aload_n 0, 1) := by decide +kernel
theorem q0_693 : z_m0.2.2.2.2.2.lookup 693 = some (.iload_n 3, 1) := by decide +kernel
theorem q0_694 : z_m0.2.2.2.2.2.lookup 694 = some (.iconst 1, 1) := by decide +kernel
theorem q0_695 : z_m0.2.2.2.2.2.lookup 695 = some (.iadd, 1) := by decide +kernel
theorem q0_696 : z_m0.2.2.2.2.2.lookup 696 = some (.iaload, 1) := by decide +kernel
theorem q0_697 : z_m0.2.2.2.2.2.lookup 697 = some (.aload_n 0, 1) := by decide +kernel
theorem q0_698 : z_m0.2.2.2.2.2.lookup 698 = some (.iload_n 3, 1) := by decide +kernel
theorem q0_699 : z_m0.2.2.2.2.2.lookup 699 = some (.iconst 2, 1) := by decide +kernel
theorem q0_700 : z_m0.2.2.2.2.2.lookup 700 = some (.iadd, 1) := by decide +kernel
theorem q0_701 : z_m0.2.2.2.2.2.lookup 701 = some (.iaload, 1) := by decide +kernel
theorem q0_702 : z_m0.2.2.2.2.2.lookup 702 = some (.invokevirtual 76, 3) := by decide +kernel
theorem q0_705 : z_m0.2.2.2.2.2.lookup 705 = some (.if_icmp .eq 891, 3) := by decide +kernel
theorem q0_708 : z_m0.2.2.2.2.2.lookup 708 = some (.iconst 0, 1) := by decide +kernel
theorem q0_709 : z_m0.2.2.2.2.2.lookup 709 = some (.ireturn, 1) := by decide +kernel
theorem q0_710 : z_m0.2.2.2.2.2.lookup 710 = some (.aload_n 1, 1) := by decide +kernel
theorem q0_711 : z_m0.2.2.2.2.2.lookup 711 = some (.aload_n 0, 1) := by decide +kernel
theorem q0_712 : z_m0.2.2.2.2.2.lookup 712 = some (.iload_n 3, 1) := by decide +kernel
theorem q0_713 : z_m0.2.2.2.2.2.lookup 713 = some (.iconst 1, 1) := by decide +kernel
theorem q0_714 : z_m0.2.2.2.2.2.lookup 714 = some (.iadd, 1) := by decide +kernel
theorem q0_715 : z_m0.2.2.2.2.2.lookup 715 = some (.iaload, 1) := by decide +kernel
theorem q0_716 : z_m0.2.2.2.2.2.lookup 716 = some (.aload_n 0, 1) := by decide +kernel
theorem q0_717 : z_m0.2.2.2.2.2.lookup 717 = some (.iload_n 3, 1) := by decide +kernel
theorem q0_718 : z_m0.2.2.2.2.2.lookup 718 = some (.iconst 2, 1) := by decide +kernel
theorem q0_719 : z_m0.2.2.2.2.2.lookup 719 = some (.iadd, 1) := by decide +kernel
theorem q0_720 : z_m0.2.2.2.2.2.lookup 720 = some (.iaload, 1) := by decide +kernel
theorem q0_721 : z_m0.2.2.2.2.2.lookup 721 = some (.invokevirtual 77, 3) := by decide +kernel
theorem q0_724 : z_m0.2.2.2.2.2.lookup 724 = some (.aload_n 2, 1) := by decide +kernel
theorem q0_725 : z_m0.2.2.2.2.2.lookup 725 = some (.aload_n 0, 1) := by decide +kernel
theorem q0_726 : z_m0.2.2.2.2.2.lookup 726 = some (.iload_n 3, 1) := by decide +kernel
theorem q0_727 : z_m0.2.2.2.2.2.lookup 727 = some (.iconst 1, 1) := by decide +kernel
theorem q0_728 : z_m0.2.2.2.2.2.lookup 728 = some (.iadd, 1) := by decide +kernel
theorem q0_729 : z_m0.2.2.2.2.2.lookup 729 = some (.iaload, 1) := by decide +kernel
theorem q0_730 : z_m0.2.2.2.2.2.lookup 730 = some (.aload_n 0, 1) := by decide +kernel
theorem q0_731 : z_m0.2.2.2.2.2.lookup 731 = some (.iload_n 3, 1) := by decide +kernel
theorem q0_732 : z_m0.2.2.2.2.2.lookup 732 = some (.iconst 2, 1) := by decide +kernel
theorem q0_733 : z_m0.2.2.2.2.2.lookup 733 = some (.iadd, 1) := by decide +kernel
theorem q0_734 : z_m0.2.2.2.2.2.lookup 734 = some (.iaload, 1) := by decide +kernel
theorem q0_735 : z_m0.2.2.2.2.2.lookup 735 = some (.invokevirtual 81, 3) := by decide +kernel
theorem q0_738 : z_m0.2.2.2.2.2.lookup 738 = some (.lcmp, 1) := by decide +kernel
theorem q0_739 : z_m0.2.2.2.2.2.lookup 739 = some (.ifCond .eq 857, 3) := by decide +kernel
theorem q0_742 : z_m0.2.2.2.2.2.lookup 742 = some (.iconst 0, 1) := by decide +kernel
theorem q0_743 : z_m0.2.2.2.2.2.lookup 743 = some (.ireturn, 1) := by decide +kernel
theorem q0_744 : z_m0.2.2.2.2.2.lookup 744 = some (.aload_n 1, 1) := by decide +kernel
theorem q0_745 : z_m0.2.2.2.2.2.lookup 745 = some (.aload_n 0, 1) := by decide +kernel
theorem q0_746 : z_m0.2.2.2.2.2.lookup 746 = some (.iload_n 3, 1) := by decide +kernel
theorem q0_747 : z_m0.2.2.2.2.2.lookup 747 = some (.iconst 1, 1) := by decide +kernel
theorem q0_748 : z_m0.2.2.2.2.2.lookup 748 = some (.iadd, 1) := by decide +kernel
theorem q0_749 : z_m0.2.2.2.2.2.lookup 749 = some (.iaload, 1) := by decide +kernel
theorem q0_750 : z_m0.2.2.2.2.2.lookup 750 = some (.aload_n 0, 1) := by decide +kernel
theorem q0_751 : z_m0.2.2.2.2.2.lookup 751 = some (.iload_n 3, 1) := by decide +kernel
theorem q0_752 : z_m0.2.2.2.2.2.lookup 752 = some (.iconst 2, 1) := by decide +kernel
theorem q0_753 : z_m0.2.2.2.2.2.lookup 753 = some (.iadd, 1) := by decide +kernel
theorem q0_754 : z_m0.2.2.2.2.2.lookup 754 = some (.iaload, 1) := by decide +kernel
theorem q0_755 : z_m0.2.2.2.2.2.lookup 755 = some (.aload_n 0, 1) := by decide +kernel
theorem q0_756 : z_m0.2.2.2.2.2.lookup 756 = some (.iload_n 3, 1) := by decide +kernel
theorem q0_757 : z_m0.2.2.2.2.2.lookup 757 = some (.iconst 3, 1) := by decide +kernel
theorem q0_758 : z_m0.2.2.2.2.2.lookup 758 = some (.iadd, 1) := by decide +kernel
theorem q0_759 : z_m0.2.2.2.2.2.lookup 759 = some (.iaload, 1) := by decide +kernel
theorem q0_760 : z_m0.2.2.2.2.2.lookup 760 = some (.invokevirtual 82, 3) := by decide +kernel
theorem q0_763 : z_m0.2.2.2.2.2.lookup 763 = some (.aload_n 2, 1) := by decide +kernel
theorem q0_764 : z_m0.2.2.2.2.2.lookup 764 = some (.aload_n 0, 1) := by decide +kernel
theorem q0_765 : z_m0.2.2.2.2.2.lookup 765 = some (.iload_n 3, 1) := by decide +kernel
theorem q0_766 : z_m0.2.2.2.2.2.lookup 766 = some (.iconst 1, 1) := by decide +kernel
theorem q0_767 : z_m0.2.2.2.2.2.lookup 767 = some (.iadd, 1) := by decide +kernel
theorem q0_768 : z_m0.2.2.2.2.2.lookup 768 = some (.iaload, 1) := by decide +kernel
theorem q0_769 : z_m0.2.2.2.2.2.lookup 769 = some (.aload_n 0, 1) := by decide +kernel
theorem q0_770 : z_m0.2.2.2.2.2.lookup 770 = some (.iload_n 3, 1) := by decide +kernel
theorem q0_771 : z_m0.2.2.2.2.2.lookup 771 = some (.iconst 2, 1) := by decide +kernel
theorem q0_772 : z_m0.2.2.2.2.2.lookup 772 = some (.iadd, 1) := by decide +kernel
theorem q0_773 : z_m0.2.2.2.2.2.lookup 773 = some (.iaload, 1) := by decide +kernel
theorem q0_774 : z_m0.2.2.2.2.2.lookup 774 = some (.aload_n 0, 1) := by decide +kernel
theorem q0_775 : z_m0.2.2.2.2.2.lookup 775 = some (.iload_n 3, 1) := by decide +kernel
theorem q0_776 : z_m0.2.2.2.2.2.lookup 776 = some (.iconst 3, 1) := by decide +kernel
theorem q0_777 : z_m0.2.2.2.2.2.lookup 777 = some (.iadd, 1) := by decide +kernel
theorem q0_778 : z_m0.2.2.2.2.2.lookup 778 = some (.iaload, 1) := by decide +kernel
theorem q0_779 : z_m0.2.2.2.2.2.lookup 779 = some (.invokevirtual 86, 3) := by decide +kernel
theorem q0_782 : z_m0.2.2.2.2.2.lookup 782 = some (.lcmp, 1) := by decide +kernel
theorem q0_783 : z_m0.2.2.2.2.2.lookup 783 = some (.ifCond .eq 813, 3) := by decide +kernel
theorem q0_786 : z_m0.2.2.2.2.2.lookup 786 = some (.iconst 0, 1) := by decide +kernel
theorem q0_787 : z_m0.2.2.2.2.2.lookup 787 = some (.ireturn, 1) := by decide +kernel
theorem q0_788 : z_m0.2.2.2.2.2.lookup 788 = some (.aload_n 1, 1) := by decide +kernel
theorem q0_789 : z_m0.2.2.2.2.2.lookup 789 = some (.aload_n 0, 1) := by decide +kernel
theorem q0_790 : z_m0.2.2.2.2.2.lookup 790 = some (.iload_n 3, 1) := by decide +kernel
theorem q0_791 : z_m0.2.2.2.2.2.lookup 791 = some (.iconst 1, 1) := by decide +kernel
theorem q0_792 : z_m0.2.2.2.2.2.lookup 792 = some (.iadd, 1) := by decide +kernel
theorem q0_793 : z_m0.2.2.2.2.2.lookup 793 = some (.iaload, 1) := by decide +kernel
theorem q0_794 : z_m0.2.2.2.2.2.lookup 794 = some (.aload_n 0, 1) := by decide +kernel
theorem q0_795 : z_m0.2.2.2.2.2.lookup 795 = some (.iload_n 3, 1) := by decide +kernel
theorem q0_796 : z_m0.2.2.2.2.2.lookup 796 = some (.iconst 2, 1) := by decide +kernel
theorem q0_797 : z_m0.2.2.2.2.2.lookup 797 = some (.iadd, 1) := by decide +kernel
theorem q0_798 : z_m0.2.2.2.2.2.lookup 798 = some (.iaload, 1) := by decide +kernel
theorem q0_799 : z_m0.2.2.2.2.2.lookup 799 = some (.aload_n 0, 1) := by decide +kernel
theorem q0_800 : z_m0.2.2.2.2.2.lookup 800 = some (.iload_n 3, 1) := by decide +kernel
theorem q0_801 : z_m0.2.2.2.2.2.lookup 801 = some (.iconst 3, 1) := by decide +kernel
theorem q0_802 : z_m0.2.2.2.2.2.lookup 802 = some (.iadd, 1) := by decide +kernel
theorem q0_803 : z_m0.2.2.2.2.2.lookup 803 = some (.iaload, 1) := by decide +kernel
theorem q0_804 : z_m0.2.2.2.2.2.lookup 804 = some (.invokevirtual 87, 3) := by decide +kernel
theorem q0_807 : z_m0.2.2.2.2.2.lookup 807 = some (.aload_n 2, 1) := by decide +kernel
theorem q0_808 : z_m0.2.2.2.2.2.lookup 808 = some (.aload_n 0, 1) := by decide +kernel
theorem q0_809 : z_m0.2.2.2.2.2.lookup 809 = some (.iload_n 3, 1) := by decide +kernel
theorem q0_810 : z_m0.2.2.2.2.2.lookup 810 = some (.iconst 1, 1) := by decide +kernel
theorem q0_811 : z_m0.2.2.2.2.2.lookup 811 = some (.iadd, 1) := by decide +kernel
theorem q0_812 : z_m0.2.2.2.2.2.lookup 812 = some (.iaload, 1) := by decide +kernel
theorem q0_813 : z_m0.2.2.2.2.2.lookup 813 = some (.aload_n 0, 1) := by decide +kernel
theorem q0_814 : z_m0.2.2.2.2.2.lookup 814 = some (.iload_n 3, 1) := by decide +kernel
theorem q0_815 : z_m0.2.2.2.2.2.lookup 815 = some (.iconst 2, 1) := by decide +kernel
theorem q0_816 : z_m0.2.2.2.2.2.lookup 816 = some (.iadd, 1) := by decide +kernel
theorem q0_817 : z_m0.2.2.2.2.2.lookup 817 = some (.iaload, 1) := by decide +kernel
theorem q0_818 : z_m0.2.2.2.2.2.lookup 818 = some (.aload_n 0, 1) := by decide +kernel
theorem q0_819 : z_m0.2.2.2.2.2.lookup 819 = some (.iload_n 3, 1) := by decide +kernel
theorem q0_820 : z_m0.2.2.2.2.2.lookup 820 = some (.iconst 3, 1) := by decide +kernel
theorem q0_821 : z_m0.2.2.2.2.2.lookup 821 = some (.iadd, 1) := by decide +kernel
theorem q0_822 : z_m0.2.2.2.2.2.lookup 822 = some (.iaload, 1) := by decide +kernel
theorem q0_823 : z_m0.2.2.2.2.2.lookup 823 = some (.invokevirtual 90, 3) := by decide +kernel
theorem q0_826 : z_m0.2.2.2.2.2.lookup 826 = some (.if_icmp .eq 770, 3) := by decide +kernel
theorem q0_829 : z_m0.2.2.2.2.2.lookup 829 = some (.iconst 0, 1) := by decide +kernel
theorem q0_830 : z_m0.2.2.2.2.2.lookup 830 = some (.ireturn, 1) := by decide +kernel
theorem q0_831 : z_m0.2.2.2.2.2.lookup 831 = some (.aload_n 1, 1) := by decide +kernel
theorem q0_832 : z_m0.2.2.2.2.2.lookup 832 = some (.aload_n 0, 1) := by decide +kernel
theorem q0_833 : z_m0.2.2.2.2.2.lookup 833 = some (.iload_n 3, 1) := by decide +kernel
theorem q0_834 : z_m0.2.2.2.2.2.lookup 834 = some (.iconst 1, 1) := by decide +kernel
theorem q0_835 : z_m0.2.2.2.2.2.lookup 835 = some (.iadd, 1) := by decide +kernel
theorem q0_836 : z_m0.2.2.2.2.2.lookup 836 = some (.iaload, 1) := by decide +kernel
theorem q0_837 : z_m0.2.2.2.2.2.lookup 837 = some (.invokevirtual 91, 3) := by decide +kernel
theorem q0_840 : z_m0.2.2.2.2.2.lookup 840 = some (.aload_n 2, 1) := by decide +kernel
theorem q0_841 : z_m0.2.2.2.2.2.lookup 841 = some (.aload_n 0, 1) := by decide +kernel
theorem q0_842 : z_m0.2.2.2.2.2.lookup 842 = some (.iload_n 3, 1) := by decide +kernel
theorem q0_843 : z_m0.2.2.2.2.2.lookup 843 = some (.iconst 1, 1) := by decide +kernel
theorem q0_844 : z_m0.2.2.2.2.2.lookup 844 = some (.iadd, 1) := by decide +kernel
theorem q0_845 : z_m0.2.2.2.2.2.lookup 845 = some (.iaload, 1) := by decide +kernel
theorem q0_846 : z_m0.2.2.2.2.2.lookup 846 = some (.invokevirtual 94, 3) := by decide +kernel
theorem q0_849 : z_m0.2.2.2.2.2.lookup 849 = some (.if_icmp .eq 747, 3) := by decide +kernel
theorem q0_852 : z_m0.2.2.2.2.2.lookup 852 = some (.iconst 0, 1) := by decide +kernel
theorem q0_853 : z_m0.2.2.2.2.2.lookup 853 = some (.ireturn, 1) := by decide +kernel
theorem q0_854 : z_m0.2.2.2.2.2.lookup 854 = some (.aload_n 1, 1) := by decide +kernel
theorem q0_855 : z_m0.2.2.2.2.2.lookup 855 = some (.aload_n 0, 1) := by decide +kernel
theorem q0_856 : z_m0.2.2.2.2.2.lookup 856 = some (.iload_n 3, 1) := by decide +kernel
theorem q0_857 : z_m0.2.2.2.2.2.lookup 857 = some (.iconst 1, 1) := by decide +kernel
theorem q0_858 : z_m0.2.2.2.2.2.lookup 858 = some (.iadd, 1) := by decide +kernel
theorem q0_859 : z_m0.2.2.2.2.2.lookup 859 = some (.iaload, 1) := by decide +kernel
theorem q0_860 : z_m0.2.2.2.2.2.lookup 860 = some (.invokevirtual 95, 3) := by decide +kernel
theorem q0_863 : z_m0.2.2.2.2.2.lookup 863 = some (.aload_n 2, 1) := by decide +kernel
theorem q0_864 : z_m0.2.2.2.2.2.lookup 864 = some (.aload_n 0, 1) := by decide +kernel
theorem q0_865 : z_m0.2.2.2.2.2.lookup 865 = some (.iload_n 3, 1) := by decide +kernel
theorem q0_866 : z_m0.2.2.2.2.2.lookup 866 = some (.iconst 1, 1) := by decide +kernel
theorem q0_867 : z_m0.2.2.2.2.2.lookup 867 = some (.iadd, 1) := by decide +kernel
theorem q0_868 : z_m0.2.2.2.2.2.lookup 868 = some (.iaload, 1) := by decide +kernel
theorem q0_869 : z_m0.2.2.2.2.2.lookup 869 = some (.invokevirtual 99, 3) := by decide +kernel
theorem q0_872 : z_m0.2.2.2.2.2.lookup 872 = some (.lcmp, 1) := by decide +kernel
theorem q0_873 : z_m0.2.2.2.2.2.lookup 873 = some (.ifCond .eq 723, 3) := by decide +kernel
theorem q0_876 : z_m0.2.2.2.2.2.lookup 876 = some (.iconst 0, 1) := by decide +kernel
theorem q0_877 : z_m0.2.2.2.2.2.lookup 877 = some (.ireturn, 1) := by decide +kernel
theorem q0_878 : z_m0.2.2.2.2.2.lookup 878 = some (.aload_n 1, 1) := by decide +kernel
theorem q0_879 : z_m0.2.2.2.2.2.lookup 879 = some (.aload_n 0, 1) := by decide +kernel
theorem q0_880 : z_m0.2.2.2.2.2.lookup 880 = some (.iload_n 3, 1) := by decide +kernel
theorem q0_881 : z_m0.2.2.2.2.2.lookup 881 = some (.iconst 1, 1) := by decide +kernel
theorem q0_882 : z_m0.2.2.2.2.2.lookup 882 = some (.iadd, 1) := by decide +kernel
theorem q0_883 : z_m0.2.2.2.2.2.lookup 883 = some (.iaload, 1) := by decide +kernel
theorem q0_884 : z_m0.2.2.2.2.2.lookup 884 = some (.aload_n 0, 1) := by decide +kernel
theorem q0_885 : z_m0.2.2.2.2.2.lookup 885 = some (.iload_n 3, 1) := by decide +kernel
theorem q0_886 : z_m0.2.2.2.2.2.lookup 886 = some (.iconst 2, 1) := by decide +kernel
theorem q0_887 : z_m0.2.2.2.2.2.lookup 887 = some (.iadd, 1) := by decide +kernel
theorem q0_888 : z_m0.2.2.2.2.2.lookup 888 = some (.iaload, 1) := by decide +kernel
theorem q0_889 : z_m0.2.2.2.2.2.lookup 889 = some (.aload_n 0, 1) := by decide +kernel
theorem q0_890 : z_m0.2.2.2.2.2.lookup 890 = some (.iload_n 3, 1) := by decide +kernel
theorem q0_891 : z_m0.2.2.2.2.2.lookup 891 = some (.iconst 3, 1) := by decide +kernel
theorem q0_892 : z_m0.2.2.2.2.2.lookup 892 = some (.iadd, 1) := by decide +kernel
theorem q0_893 : z_m0.2.2.2.2.2.lookup 893 = some (.iaload, 1) := by decide +kernel
theorem q0_894 : z_m0.2.2.2.2.2.lookup 894 = some (.aload_n 0, 1) := by decide +kernel
theorem q0_895 : z_m0.2.2.2.2.2.lookup 895 = some (.iload_n 3, 1) := by decide +kernel
theorem q0_896 : z_m0.2.2.2.2.2.lookup 896 = some (.iconst 4, 1) := by decide +kernel
theorem q0_897 : z_m0.2.2.2.2.2.lookup 897 = some (.iadd, 1) := by decide +kernel
theorem q0_898 : z_m0.2.2.2.2.2.lookup 898 = some (.iaload, 1) := by decide +kernel
theorem q0_899 : z_m0.2.2.2.2.2.lookup 899 = some (.invokevirtual 100, 3) := by decide +kernel
theorem q0_902 : z_m0.2.2.2.2.2.lookup 902 = some (.aload_n 2, 1) := by decide +kernel
theorem q0_903 : z_m0.2.2.2.2.2.lookup 903 = some (.aload_n 0, 1) := by decide +kernel
theorem q0_904 : z_m0.2.2.2.2.2.lookup 904 = some (.iload_n 3, 1) := by decide +kernel
theorem q0_905 : z_m0.2.2.2.2.2.lookup 905 = some (.iconst 1, 1) := by decide +kernel
theorem q0_906 : z_m0.2.2.2.2.2.lookup 906 = some (.iadd, 1) := by decide +kernel
theorem q0_907 : z_m0.2.2.2.2.2.lookup 907 = some (.iaload, 1) := by decide +kernel
theorem q0_908 : z_m0.2.2.2.2.2.lookup 908 = some (.aload_n 0, 1) := by decide +kernel
theorem q0_909 : z_m0.2.2.2.2.2.lookup 909 = some (.iload_n 3, 1) := by decide +kernel
theorem q0_910 : z_m0.2.2.2.2.2.lookup 910 = some (.iconst 2, 1) := by decide +kernel
theorem q0_911 : z_m0.2.2.2.2.2.lookup 911 = some (.iadd, 1) := by decide +kernel
theorem q0_912 : z_m0.2.2.2.2.2.lookup 912 = some (.iaload, 1) := by decide +kernel
theorem q0_913 : z_m0.2.2.2.2.2.lookup 913 = some (.aload_n 0, 1) := by decide +kernel
theorem q0_914 : z_m0.2.2.2.2.2.lookup 914 = some (.iload_n 3, 1) := by decide +kernel
theorem q0_915 : z_m0.2.2.2.2.2.lookup 915 = some (.iconst 3, 1) := by decide +kernel
theorem q0_916 : z_m0.2.2.2.2.2.lookup 916 = some (.iadd, 1) := by decide +kernel
theorem q0_917 : z_m0.2.2.2.2.2.lookup 917 = some (.iaload, 1) := by decide +kernel
theorem q0_918 : z_m0.2.2.2.2.2.lookup 918 = some (.aload_n 0, 1) := by decide +kernel
theorem q0_919 : z_m0.2.2.2.2.2.lookup 919 = some (.iload_n 3, 1) := by decide +kernel
theorem q0_920 : z_m0.2.2.2.2.2.lookup 920 = some (.iconst 4, 1) := by decide +kernel
theorem q0_921 : z_m0.2.2.2.2.2.lookup 921 = some (.iadd, 1) := by decide +kernel
theorem q0_922 : z_m0.2.2.2.2.2.lookup 922 = some (.iaload, 1) := by decide +kernel
theorem q0_923 : z_m0.2.2.2.2.2.lookup 923 = some (.invokevirtual 104, 3) := by decide +kernel
theorem q0_926 : z_m0.2.2.2.2.2.lookup 926 = some (.if_icmp .eq 670, 3) := by decide +kernel
theorem q0_929 : z_m0.2.2.2.2.2.lookup 929 = some (.iconst 0, 1) := by decide +kernel
theorem q0_930 : z_m0.2.2.2.2.2.lookup 930 = some (.ireturn, 1) := by decide +kernel
theorem q0_931 : z_m0.2.2.2.2.2.lookup 931 = some (.aload_n 1, 1) := by decide +kernel
theorem q0_932 : z_m0.2.2.2.2.2.lookup 932 = some (.aload_n 0, 1) := by decide +kernel
theorem q0_933 : z_m0.2.2.2.2.2.lookup 933 = some (.iload_n 3, 1) := by decide +kernel
theorem q0_934 : z_m0.2.2.2.2.2.lookup 934 = some (.iconst 1, 1) := by decide +kernel
theorem q0_935 : z_m0.2.2.2.2.2.lookup 935 = some (.iadd, 1) := by decide +kernel
theorem q0_936 : z_m0.2.2.2.2.2.lookup 936 = some (.iaload, 1) := by decide +kernel
theorem q0_937 : z_m0.2.2.2.2.2.lookup 937 = some (.invokevirtual 105, 3) := by decide +kernel
theorem q0_940 : z_m0.2.2.2.2.2.lookup 940 = some (.aload_n 2, 1) := by decide +kernel
theorem q0_941 : z_m0.2.2.2.2.2.lookup 941 = some (.aload_n 0, 1) := by decide +kernel
theorem q0_942 : z_m0.2.2.2.2.2.lookup 942 = some (.iload_n 3, 1) := by decide +kernel
theorem q0_943 : z_m0.2.2.2.2.2.lookup 943 = some (.iconst 1, 1) := by decide +kernel
theorem q0_944 : z_m0.2.2.2.2.2.lookup 944 = some (.iadd, 1) := by decide +kernel
theorem q0_945 : z_m0.2.2.2.2.2.lookup 945 = some (.iaload, 1) := by decide +kernel
theorem q0_946 : z_m0.2.2.2.2.2.lookup 946 = some (.invokevirtual 108, 3) := by decide +kernel
theorem q0_949 : z_m0.2.2.2.2.2.lookup 949 = some (.if_icmp .eq 647, 3) := by decide +kernel
theorem q0_952 : z_m0.2.2.2.2.2.lookup 952 = some (.iconst 0, 1) := by decide +kernel
theorem q0_953 : z_m0.2.2.2.2.2.lookup 953 = some (.ireturn, 1) := by decide +kernel
theorem q0_954 : z_m0.2.2.2.2.2.lookup 954 = some (.aload_n 1, 1) := by decide +kernel
theorem q0_955 : z_m0.2.2.2.2.2.lookup 955 = some (.aload_n 0, 1) := by decide +kernel
theorem q0_956 : z_m0.2.2.2.2.2.lookup 956 = some (.iload_n 3, 1) := by decide +kernel
theorem q0_957 : z_m0.2.2.2.2.2.lookup 957 = some (.iconst 1, 1) := by decide +kernel
theorem q0_958 : z_m0.2.2.2.2.2.lookup 958 = some (.iadd, 1) := by decide +kernel
theorem q0_959 : z_m0.2.2.2.2.2.lookup 959 = some (.iaload, 1) := by decide +kernel
theorem q0_960 : z_m0.2.2.2.2.2.lookup 960 = some (.aload_n 0, 1) := by decide +kernel
theorem q0_961 : z_m0.2.2.2.2.2.lookup 961 = some (.iload_n 3, 1) := by decide +kernel
theorem q0_962 : z_m0.2.2.2.2.2.lookup 962 = some (.iconst 2, 1) := by decide +kernel
theorem q0_963 : z_m0.2.2.2.2.2.lookup 963 = some (.iadd, 1) := by decide +kernel
theorem q0_964 : z_m0.2.2.2.2.2.lookup 964 = some (.iaload, 1) := by decide +kernel
theorem q0_965 : z_m0.2.2.2.2.2.lookup 965 = some (.aload_n 0, 1) := by decide +kernel
theorem q0_966 : z_m0.2.2.2.2.2.lookup 966 = some (.iload_n 3, 1) := by decide +kernel
theorem q0_967 : z_m0.2.2.2.2.2.lookup 967 = some (.iconst 3, 1) := by decide +kernel
theorem q0_968 : z_m0.2.2.2.2.2.lookup 968 = some (.iadd, 1) := by decide +kernel
theorem q0_969 : z_m0.2.2.2.2.2.lookup 969 = some (.iaload, 1) := by decide +kernel
theorem q0_970 : z_m0.2.2.2.2.2.lookup 970 = some (.invokevirtual 109, 3) := by decide +kernel
theorem q0_973 : z_m0.2.2.2.2.2.lookup 973 = some (.aload_n 2, 1) := by decide +kernel
theorem q0_974 : z_m0.2.2.2.2.2.lookup 974 = some (.aload_n 0, 1) := by decide +kernel
theorem q0_975 : z_m0.2.2.2.2.2.lookup 975 = some (.iload_n 3, 1) := by decide +kernel
theorem q0_976 : z_m0.2.2.2.2.2.lookup 976 = some (.iconst 1, 1) := by decide +kernel
theorem q0_977 : z_m0.2.2.2.2.2.lookup 977 = some (.iadd, 1) := by decide +kernel
theorem q0_978 : z_m0.2.2.2.2.2.lookup 978 = some (.iaload, 1) := by decide +kernel
theorem q0_979 : z_m0.2.2.2.2.2.lookup 979 = some (.aload_n 0, 1) := by decide +kernel
theorem q0_980 : z_m0.2.2.2.2.2.lookup 980 = some (.iload_n 3, 1) := by decide +kernel
theorem q0_981 : z_m0.2.2.2.2.2.lookup 981 = some (.iconst 2, 1) := by decide +kernel
theorem q0_982 : z_m0.2.2.2.2.2.lookup 982 = some (.iadd, 1) := by decide +kernel
theorem q0_983 : z_m0.2.2.2.2.2.lookup 983 = some (.iaload, 1) := by decide +kernel
theorem q0_984 : z_m0.2.2.2.2.2.lookup 984 = some (.aload_n 0, 1) := by decide +kernel
theorem q0_985 : z_m0.2.2.2.2.2.lookup 985 = some (.iload_n 3, 1) := by decide +kernel
theorem q0_986 : z_m0.2.2.2.2.2.lookup 986 = some (.iconst 3, 1) := by decide +kernel
theorem q0_987 : z_m0.2.2.2.2.2.lookup 987 = some (.iadd, 1) := by decide +kernel
theorem q0_988 : z_m0.2.2.2.2.2.lookup 988 = some (.iaload, 1) := by decide +kernel
theorem q0_989 : z_m0.2.2.2.2.2.lookup 989 = some (.invokevirtual 112, 3) := by decide +kernel
theorem q0_992 : z_m0.2.2.2.2.2.lookup 992 = some (.if_icmp .eq 604, 3) := by decide +kernel
theorem q0_995 : z_m0.2.2.2.2.2.lookup 995 = some (.iconst 0, 1) := by decide +kernel
theorem q0_996 : z_m0.2.2.2.2.2.lookup 996 = some (.ireturn, 1) := by decide +kernel
theorem q0_997 : z_m0.2.2.2.2.2.lookup 997 = some (.aload_n 1, 1) := by decide +kernel
theorem q0_998 : z_m0.2.2.2.2.2.lookup 998 = some (.aload_n 0, 1) := by decide +kernel
theorem q0_999 : z_m0.2.2.2.2.2.lookup 999 = some (.iload_n 3, 1) := by decide +kernel
theorem q0_1000 : z_m0.2.2.2.2.2.lookup 1000 = some (.iconst 1, 1) := by decide +kernel
theorem q0_1001 : z_m0.2.2.2.2.2.lookup 1001 = some (.iadd, 1) := by decide +kernel
theorem q0_1002 : z_m0.2.2.2.2.2.lookup 1002 = some (.iaload, 1) := by decide +kernel
theorem q0_1003 : z_m0.2.2.2.2.2.lookup 1003 = some (.aload_n 0, 1) := by decide +kernel
theorem q0_1004 : z_m0.2.2.2.2.2.lookup 1004 = some (.iload_n 3, 1) := by decide +kernel
theorem q0_1005 : z_m0.2.2.2.2.2.lookup 1005 = some (.iconst 2, 1) := by decide +kernel
theorem q0_1006 : z_m0.2.2.2.2.2.lookup 1006 = some (.iadd, 1) := by decide +kernel
theorem q0_1007 : z_m0.2.2.2.2.2.lookup 1007 = some (.iaload, 1) := by decide +kernel
theorem q0_1008 : z_m0.2.2.2.2.2.lookup 1008 = some (.invokevirtual 113, 3) := by decide +kernel
theorem q0_1011 : z_m0.2.2.2.2.2.lookup 1011 = some (.aload_n 2, 1) := by decide +kernel
theorem q0_1012 : z_m0.2.2.2.2.2.lookup 1012 = some (.aload_n 0, 1) := by decide +kernel
theorem q0_1013 : z_m0.2.2.2.2.2.lookup 1013 = some (.iload_n 3, 1) := by decide +kernel
theorem q0_1014 : z_m0.2.2.2.2.2.lookup 1014 = some (.iconst 1, 1) := by decide +kernel
theorem q0_1015 : z_m0.2.2.2.2.2.lookup 1015 = some (.iadd, 1) := by decide +kernel
theorem q0_1016 : z_m0.2.2.2.2.2.lookup 1016 = some (.iaload, 1) := by decide +kernel
theorem q0_1017 : z_m0.2.2.2.2.2.lookup 1017 = some (.aload_n 0, 1) := by decide +kernel
theorem q0_1018 : z_m0.2.2.2.2.2.lookup 1018 = some (.iload_n 3, 1) := by decide +kernel
theorem q0_1019 : z_m0.2.2.2.2.2.lookup 1019 = some (.iconst 2, 1) := by decide +kernel
theorem q0_1020 : z_m0.2.2.2.2.2.lookup 1020 = some (.iadd, 1) := by decide +kernel
theorem q0_1021 : z_m0.2.2.2.2.2.lookup 1021 = some (.iaload, 1) := by decide +kernel
theorem q0_1022 : z_m0.2.2.2.2.2.lookup 1022 = some (.invokevirtual 116, 3) := by decide +kernel
theorem q0_1025 : z_m0.2.2.2.2.2.lookup 1025 = some (.if_icmp .eq 571, 3) := by decide +kernel
theorem q0_1028 : z_m0.2.2.2.2.2.lookup 1028 = some (.iconst 0, 1) := by decide +kernel
theorem q0_1029 : z_m0.2.2.2.2.2.lookup 1029 = some (.ireturn, 1) := by decide +kernel
theorem q0_1030 : z_m0.2.2.2.2.2.lookup 1030 = some (.aload_n 1, 1) := by decide +kernel
theorem q0_1031 : z_m0.2.2.2.2.2.lookup 1031 = some (.aload_n 0, 1) := by decide +kernel
theorem q0_1032 : z_m0.2.2.2.2.2.lookup 1032 = some (.iload_n 3, 1) := by decide +kernel
theorem q0_1033 : z_m0.2.2.2.2.2.lookup 1033 = some (.iconst 1, 1) := by decide +kernel
theorem q0_1034 : z_m0.2.2.2.2.2.lookup 1034 = some (.iadd, 1) := by decide +kernel
theorem q0_1035 : z_m0.2.2.2.2.2.lookup 1035 = some (.iaload, 1) := by decide +kernel
theorem q0_1036 : z_m0.2.2.2.2.2.lookup 1036 = some (.aload_n 0, 1) := by decide +kernel
theorem q0_1037 : z_m0.2.2.2.2.2.lookup 1037 = some (.iload_n 3, 1) := by decide +kernel
theorem q0_1038 : z_m0.2.2.2.2.2.lookup 1038 = some (.iconst 2, 1) := by decide +kernel
theorem q0_1039 : z_m0.2.2.2.2.2.lookup 1039 = some (.iadd, 1) := by decide +kernel
theorem q0_1040 : z_m0.2.2.2.2.2.lookup 1040 = some (.iaload, 1) := by decide +kernel
theorem q0_1041 : z_m0.2.2.2.2.2.lookup 1041 = some (.aload_n 0, 1) := by decide +kernel
theorem q0_1042 : z_m0.2.2.2.2.2.lookup 1042 = some (.iload_n 3, 1) := by decide +kernel
theorem q0_1043 : z_m0.2.2.2.2.2.lookup 1043 = some (.iconst 3, 1) := by decide +kernel
theorem q0_1044 : z_m0.2.2.2.2.2.lookup 1044 = some (.iadd, 1) := by decide +kernel
theorem q0_1045 : z_m0.2.2.2.2.2.lookup 1045 = some (.iaload, 1) := by decide +kernel
theorem q0_1046 : z_m0.2.2.2.2.2.lookup 1046 = some (.aload_n 0, 1) := by decide +kernel
theorem q0_1047 : z_m0.2.2.2.2.2.lookup 1047 = some (.iload_n 3, 1) := by decide +kernel
theorem q0_1048 : z_m0.2.2.2.2.2.lookup 1048 = some (.iconst 4, 1) := by decide +kernel
theorem q0_1049 : z_m0.2.2.2.2.2.lookup 1049 = some (.iadd, 1) := by decide +kernel
theorem q0_1050 : z_m0.2.2.2.2.2.lookup 1050 = some (.iaload, 1) := by decide +kernel
theorem q0_1051 : z_m0.2.2.2.2.2.lookup 1051 = some (.invokevirtual 117, 3) := by decide +kernel
theorem q0_1054 : z_m0.2.2.2.2.2.lookup 1054 = some (.aload_n 2, 1) := by decide +kernel
theorem q0_1055 : z_m0.2.2.2.2.2.lookup 1055 = some (.aload_n 0, 1) := by decide +kernel
theorem q0_1056 : z_m0.2.2.2.2.2.lookup 1056 = some (.iload_n 3, 1) := by decide +kernel
theorem q0_1057 : z_m0.2.2.2.2.2.lookup 1057 = some (.iconst 1, 1) := by decide +kernel
theorem q0_1058 : z_m0.2.2.2.2.2.lookup 1058 = some (.iadd, 1) := by decide +kernel
theorem q0_1059 : z_m0.2.2.2.2.2.lookup 1059 = some (.iaload, 1) := by decide +kernel
theorem q0_1060 : z_m0.2.2.2.2.2.lookup 1060 = some (.aload_n 0, 1) := by decide +kernel
theorem q0_1061 : z_m0.2.2.2.2.2.lookup 1061 = some (.iload_n 3, 1) := by decide +kernel
theorem q0_1062 : z_m0.2.2.2.2.2.lookup 1062 = some (.iconst 2, 1) := by decide +kernel
theorem q0_1063 : z_m0.2.2.2.2.2.lookup 1063 = some (.iadd, 1) := by decide +kernel
theorem q0_1064 : z_m0.2.2.2.2.2.lookup 1064 = some (.iaload, 1) := by decide +kernel
theorem q0_1065 : z_m0.2.2.2.2.2.lookup 1065 = some (.aload_n 0, 1) := by decide +kernel
theorem q0_1066 : z_m0.2.2.2.2.2.lookup 1066 = some (.iload_n 3, 1) := by decide +kernel
theorem q0_1067 : z_m0.2.2.2.2.2.lookup 1067 = some (.iconst 3, 1) := by decide +kernel
theorem q0_1068 : z_m0.2.2.2.2.2.lookup 1068 = some (.iadd, 1) := by decide +kernel
theorem q0_1069 : z_m0.2.2.2.2.2.lookup 1069 = some (.iaload, 1) := by decide +kernel
theorem q0_1070 : z_m0.2.2.2.2.2.lookup 1070 = some (.aload_n 0, 1) := by decide +kernel
theorem q0_1071 : z_m0.2.2.2.2.2.lookup 1071 = some (.iload_n 3, 1) := by decide +kernel
theorem q0_1072 : z_m0.2.2.2.2.2.lookup 1072 = some (.iconst 4, 1) := by decide +kernel
theorem q0_1073 : z_m0.2.2.2.2.2.lookup 1073 = some (.iadd, 1) := by decide +kernel
theorem q0_1074 : z_m0.2.2.2.2.2.lookup 1074 = some (.iaload, 1) := by decide +kernel
theorem q0_1075 : z_m0.2.2.2.2.2.lookup 1075 = some (.invokevirtual 121, 3) := by decide +kernel
theorem q0_1078 : z_m0.2.2.2.2.2.lookup 1078 = some (.lcmp, 1) := by decide +kernel
theorem q0_1079 : z_m0.2.2.2.2.2.lookup 1079 = some (.ifCond .eq 517, 3) := by decide +kernel
