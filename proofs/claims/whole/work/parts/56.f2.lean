theorem q169_560 : z_m169.2.2.2.2.2.lookup 560 = some (.castore, 1) := by decide +kernel
theorem q169_561 : z_m169.2.2.2.2.2.lookup 561 = some (.dup, 1) := by decide +kernel
theorem q169_562 : z_m169.2.2.2.2.2.lookup 562 = some (.bipush 40, 2) := by decide +kernel
theorem q169_564 : z_m169.2.2.2.2.2.lookup 564 = some (.bipush 97, 2) := by decide +kernel
theorem q169_566 : z_m169.2.2.2.2.2.lookup 566 = some (.castore, 1) := by decide +kernel
theorem q169_567 : z_m169.2.2.2.2.2.lookup 567 = some (.dup, 1) := by decide +kernel
theorem q169_568 : z_m169.2.2.2.2.2.lookup 568 = some (.bipush 41, 2) := by decide +kernel
theorem q169_570 : z_m169.2.2.2.2.2.lookup 570 = some (.bipush 110, 2) := by decide +kernel
theorem q169_572 : z_m169.2.2.2.2.2.lookup 572 = some (.castore, 1) := by decide +kernel
theorem q169_573 : z_m169.2.2.2.2.2.lookup 573 = some (.dup, 1) := by decide +kernel
theorem q169_574 : z_m169.2.2.2.2.2.lookup 574 = some (.bipush 42, 2) := by decide +kernel
theorem q169_576 : z_m169.2.2.2.2.2.lookup 576 = some (.bipush 100, 2) := by decide +kernel
theorem q169_578 : z_m169.2.2.2.2.2.lookup 578 = some (.castore, 1) := by decide +kernel
theorem q169_579 : z_m169.2.2.2.2.2.lookup 579 = some (.dup, 1) := by decide +kernel
theorem q169_580 : z_m169.2.2.2.2.2.lookup 580 = some (.bipush 43, 2) := by decide +kernel
theorem q169_582 : z_m169.2.2.2.2.2.lookup 582 = some (.bipush 110, 2) := by decide +kernel
theorem q169_584 : z_m169.2.2.2.2.2.lookup 584 = some (.castore, 1) := by decide +kernel
theorem q169_585 : z_m169.2.2.2.2.2.lookup 585 = some (.dup, 1) := by decide +kernel
theorem q169_586 : z_m169.2.2.2.2.2.lookup 586 = some (.bipush 44, 2) := by decide +kernel
theorem q169_588 : z_m169.2.2.2.2.2.lookup 588 = some (.bipush 111, 2) := by decide +kernel
theorem q169_590 : z_m169.2.2.2.2.2.lookup 590 = some (.castore, 1) := by decide +kernel
theorem q169_591 : z_m169.2.2.2.2.2.lookup 591 = some (.dup, 1) := by decide +kernel
theorem q169_592 : z_m169.2.2.2.2.2.lookup 592 = some (.bipush 45, 2) := by decide +kernel
theorem q169_594 : z_m169.2.2.2.2.2.lookup 594 = some (.bipush 116, 2) := by decide +kernel
theorem q169_596 : z_m169.2.2.2.2.2.lookup 596 = some (.castore, 1) := by decide +kernel
theorem q169_597 : z_m169.2.2.2.2.2.lookup 597 = some (.putfield 149, 3) := by decide +kernel
theorem q169_600 : z_m169.2.2.2.2.2.lookup 600 = some (.aload_n 0, 1) := by decide +kernel
theorem q169_601 : z_m169.2.2.2.2.2.lookup 601 = some (.bipush 13, 2) := by decide +kernel
theorem q169_603 : z_m169.2.2.2.2.2.lookup 603 = some (.newarray .int, 2) := by decide +kernel
theorem q169_605 : z_m169.2.2.2.2.2.lookup 605 = some (.dup, 1) := by decide +kernel
theorem q169_606 : z_m169.2.2.2.2.2.lookup 606 = some (.iconst 0, 1) := by decide +kernel
theorem q169_607 : z_m169.2.2.2.2.2.lookup 607 = some (.iconst 0, 1) := by decide +kernel
theorem q169_608 : z_m169.2.2.2.2.2.lookup 608 = some (.iastore, 1) := by decide +kernel
theorem q169_609 : z_m169.2.2.2.2.2.lookup 609 = some (.dup, 1) := by decide +kernel
theorem q169_610 : z_m169.2.2.2.2.2.lookup 610 = some (.iconst 1, 1) := by decide +kernel
theorem q169_611 : z_m169.2.2.2.2.2.lookup 611 = some (.bipush 6, 2) := by decide +kernel
theorem q169_613 : z_m169.2.2.2.2.2.lookup 613 = some (.iastore, 1) := by decide +kernel
theorem q169_614 : z_m169.2.2.2.2.2.lookup 614 = some (.dup, 1) := by decide +kernel
theorem q169_615 : z_m169.2.2.2.2.2.lookup 615 = some (.iconst 2, 1) := by decide +kernel
theorem q169_616 : z_m169.2.2.2.2.2.lookup 616 = some (.bipush 9, 2) := by decide +kernel
theorem q169_618 : z_m169.2.2.2.2.2.lookup 618 = some (.iastore, 1) := by decide +kernel
theorem q169_619 : z_m169.2.2.2.2.2.lookup 619 = some (.dup, 1) := by decide +kernel
theorem q169_620 : z_m169.2.2.2.2.2.lookup 620 = some (.iconst 3, 1) := by decide +kernel
theorem q169_621 : z_m169.2.2.2.2.2.lookup 621 = some (.bipush 12, 2) := by decide +kernel
theorem q169_623 : z_m169.2.2.2.2.2.lookup 623 = some (.iastore, 1) := by decide +kernel
theorem q169_624 : z_m169.2.2.2.2.2.lookup 624 = some (.dup, 1) := by decide +kernel
theorem q169_625 : z_m169.2.2.2.2.2.lookup 625 = some (.iconst 4, 1) := by decide +kernel
theorem q169_626 : z_m169.2.2.2.2.2.lookup 626 = some (.bipush 16, 2) := by decide +kernel
theorem q169_628 : z_m169.2.2.2.2.2.lookup 628 = some (.iastore, 1) := by decide +kernel
theorem q169_629 : z_m169.2.2.2.2.2.lookup 629 = some (.dup, 1) := by decide +kernel
theorem q169_630 : z_m169.2.2.2.2.2.lookup 630 = some (.iconst 5, 1) := by decide +kernel
theorem q169_631 : z_m169.2.2.2.2.2.lookup 631 = some (.bipush 22, 2) := by decide +kernel
theorem q169_633 : z_m169.2.2.2.2.2.lookup 633 = some (.iastore, 1) := by decide +kernel
theorem q169_634 : z_m169.2.2.2.2.2.lookup 634 = some (.dup, 1) := by decide +kernel
theorem q169_635 : z_m169.2.2.2.2.2.lookup 635 = some (.bipush 6, 2) := by decide +kernel
theorem q169_637 : z_m169.2.2.2.2.2.lookup 637 = some (.bipush 27, 2) := by decide +kernel
theorem q169_639 : z_m169.2.2.2.2.2.lookup 639 = some (.iastore, 1) := by decide +kernel
theorem q169_640 : z_m169.2.2.2.2.2.lookup 640 = some (.dup, 1) := by decide +kernel
theorem q169_641 : z_m169.2.2.2.2.2.lookup 641 = some (.bipush 7, 2) := by decide +kernel
theorem q169_643 : z_m169.2.2.2.2.2.lookup 643 = some (.bipush 30, 2) := by decide +kernel
theorem q169_645 : z_m169.2.2.2.2.2.lookup 645 = some (.iastore, 1) := by decide +kernel
theorem q169_646 : z_m169.2.2.2.2.2.lookup 646 = some (.dup, 1) := by decide +kernel
theorem q169_647 : z_m169.2.2.2.2.2.lookup 647 = some (.bipush 8, 2) := by decide +kernel
theorem q169_649 : z_m169.2.2.2.2.2.lookup 649 = some (.bipush 34, 2) := by decide +kernel
theorem q169_651 : z_m169.2.2.2.2.2.lookup 651 = some (.iastore, 1) := by decide +kernel
theorem q169_652 : z_m169.2.2.2.2.2.lookup 652 = some (.dup, 1) := by decide +kernel
theorem q169_653 : z_m169.2.2.2.2.2.lookup 653 = some (.bipush 9, 2) := by decide +kernel
theorem q169_655 : z_m169.2.2.2.2.2.lookup 655 = some (.bipush 38, 2) := by decide +kernel
theorem q169_657 : z_m169.2.2.2.2.2.lookup 657 = some (.iastore, 1) := by decide +kernel
theorem q169_658 : z_m169.2.2.2.2.2.lookup 658 = some (.dup, 1) := by decide +kernel
theorem q169_659 : z_m169.2.2.2.2.2.lookup 659 = some (.bipush 10, 2) := by decide +kernel
theorem q169_661 : z_m169.2.2.2.2.2.lookup 661 = some (.bipush 40, 2) := by decide +kernel
theorem q169_663 : z_m169.2.2.2.2.2.lookup 663 = some (.iastore, 1) := by decide +kernel
theorem q169_664 : z_m169.2.2.2.2.2.lookup 664 = some (.dup, 1) := by decide +kernel
theorem q169_665 : z_m169.2.2.2.2.2.lookup 665 = some (.bipush 11, 2) := by decide +kernel
theorem q169_667 : z_m169.2.2.2.2.2.lookup 667 = some (.bipush 43, 2) := by decide +kernel
theorem q169_669 : z_m169.2.2.2.2.2.lookup 669 = some (.iastore, 1) := by decide +kernel
theorem q169_670 : z_m169.2.2.2.2.2.lookup 670 = some (.dup, 1) := by decide +kernel
theorem q169_671 : z_m169.2.2.2.2.2.lookup 671 = some (.bipush 12, 2) := by decide +kernel
theorem q169_673 : z_m169.2.2.2.2.2.lookup 673 = some (.bipush 46, 2) := by decide +kernel
theorem q169_675 : z_m169.2.2.2.2.2.lookup 675 = some (.iastore, 1) := by decide +kernel
theorem q169_676 : z_m169.2.2.2.2.2.lookup 676 = some (.putfield 143, 3) := by decide +kernel
theorem q169_679 : z_m169.2.2.2.2.2.lookup 679 = some (.aload_n 0, 1) := by decide +kernel
theorem q169_680 : z_m169.2.2.2.2.2.lookup 680 = some (.sipush 170, 3) := by decide +kernel
theorem q169_683 : z_m169.2.2.2.2.2.lookup 683 = some (.newarray .int, 2) := by decide +kernel
theorem q169_685 : z_m169.2.2.2.2.2.lookup 685 = some (.putfield 178, 3) := by decide +kernel
theorem q169_688 : z_m169.2.2.2.2.2.lookup 688 = some (.aload_n 0, 1) := by decide +kernel
theorem q169_689 : z_m169.2.2.2.2.2.lookup 689 = some (.bipush 8, 2) := by decide +kernel
theorem q169_691 : z_m169.2.2.2.2.2.lookup 691 = some (.newarray .boolean, 2) := by decide +kernel
theorem q169_693 : z_m169.2.2.2.2.2.lookup 693 = some (.putfield 197, 3) := by decide +kernel
theorem q169_696 : z_m169.2.2.2.2.2.lookup 696 = some (.aload_n 0, 1) := by decide +kernel
theorem q169_697 : z_m169.2.2.2.2.2.lookup 697 = some (.sipush 170, 3) := by decide +kernel
theorem q169_700 : z_m169.2.2.2.2.2.lookup 700 = some (.newarray .int, 2) := by decide +kernel
theorem q169_702 : z_m169.2.2.2.2.2.lookup 702 = some (.putfield 242, 3) := by decide +kernel
theorem q169_705 : z_m169.2.2.2.2.2.lookup 705 = some (.aload_n 0, 1) := by decide +kernel
theorem q169_706 : z_m169.2.2.2.2.2.lookup 706 = some (.bipush 20, 2) := by decide +kernel
theorem q169_708 : z_m169.2.2.2.2.2.lookup 708 = some (.newarray .int, 2) := by decide +kernel
theorem q169_710 : z_m169.2.2.2.2.2.lookup 710 = some (.putfield 256, 3) := by decide +kernel
theorem q169_713 : z_m169.2.2.2.2.2.lookup 713 = some (.aload_n 0, 1) := by decide +kernel
theorem q169_714 : z_m169.2.2.2.2.2.lookup 714 = some (.bipush 20, 2) := by decide +kernel
theorem q169_716 : z_m169.2.2.2.2.2.lookup 716 = some (.newarray .int, 2) := by decide +kernel
theorem q169_718 : z_m169.2.2.2.2.2.lookup 718 = some (.putfield 259, 3) := by decide +kernel
theorem q169_721 : z_m169.2.2.2.2.2.lookup 721 = some (.aload_n 0, 1) := by decide +kernel
theorem q169_722 : z_m169.2.2.2.2.2.lookup 722 = some (.bipush 20, 2) := by decide +kernel
theorem q169_724 : z_m169.2.2.2.2.2.lookup 724 = some (.newarray .int, 2) := by decide +kernel
theorem q169_726 : z_m169.2.2.2.2.2.lookup 726 = some (.putfield 262, 3) := by decide +kernel
theorem q169_729 : z_m169.2.2.2.2.2.lookup 729 = some (.aload_n 0, 1) := by decide +kernel
theorem q169_730 : z_m169.2.2.2.2.2.lookup 730 = some (.bipush 20, 2) := by decide +kernel
theorem q169_732 : z_m169.2.2.2.2.2.lookup 732 = some (.newarray .int, 2) := by decide +kernel
theorem q169_734 : z_m169.2.2.2.2.2.lookup 734 = some (.putfield 265, 3) := by decide +kernel
theorem q169_737 : z_m169.2.2.2.2.2.lookup 737 = some (.aload_n 0, 1) := by decide +kernel
theorem q169_738 : z_m169.2.2.2.2.2.lookup 738 = some (.bipush 20, 2) := by decide +kernel
theorem q169_740 : z_m169.2.2.2.2.2.lookup 740 = some (.newarray .int, 2) := by decide +kernel
theorem q169_742 : z_m169.2.2.2.2.2.lookup 742 = some (.putfield 268, 3) := by decide +kernel
theorem q169_745 : z_m169.2.2.2.2.2.lookup 745 = some (.aload_n 0, 1) := by decide +kernel
theorem q169_746 : z_m169.2.2.2.2.2.lookup 746 = some (.bipush 20, 2) := by decide +kernel
theorem q169_748 : z_m169.2.2.2.2.2.lookup 748 = some (.newarray .int, 2) := by decide +kernel
theorem q169_750 : z_m169.2.2.2.2.2.lookup 750 = some (.putfield 271, 3) := by decide +kernel
theorem q169_753 : z_m169.2.2.2.2.2.lookup 753 = some (.aload_n 0, 1) := by decide +kernel
theorem q169_754 : z_m169.2.2.2.2.2.lookup 754 = some (.bipush 12, 2) := by decide +kernel
theorem q169_756 : z_m169.2.2.2.2.2.lookup 756 = some (.newarray .int, 2) := by decide +kernel
theorem q169_758 : z_m169.2.2.2.2.2.lookup 758 = some (.putfield 274, 3) := by decide +kernel
theorem q169_761 : z_m169.2.2.2.2.2.lookup 761 = some (.aload_n 0, 1) := by decide +kernel
theorem q169_762 : z_m169.2.2.2.2.2.lookup 762 = some (.bipush 12, 2) := by decide +kernel
theorem q169_764 : z_m169.2.2.2.2.2.lookup 764 = some (.newarray .int, 2) := by decide +kernel
theorem q169_766 : z_m169.2.2.2.2.2.lookup 766 = some (.putfield 277, 3) := by decide +kernel
theorem q169_769 : z_m169.2.2.2.2.2.lookup 769 = some (.aload_n 0, 1) := by decide +kernel
theorem q169_770 : z_m169.2.2.2.2.2.lookup 770 = some (.bipush 12, 2) := by decide +kernel
theorem q169_772 : z_m169.2.2.2.2.2.lookup 772 = some (.newarray .int, 2) := by decide +kernel
theorem q169_774 : z_m169.2.2.2.2.2.lookup 774 = some (.putfield 280, 3) := by decide +kernel
theorem q169_777 : z_m169.2.2.2.2.2.lookup 777 = some (.aload_n 0, 1) := by decide +kernel
theorem q169_778 : z_m169.2.2.2.2.2.lookup 778 = some (.bipush 12, 2) := by decide +kernel
theorem q169_780 : z_m169.2.2.2.2.2.lookup 780 = some (.newarray .int, 2) := by decide +kernel
theorem q169_782 : z_m169.2.2.2.2.2.lookup 782 = some (.putfield 283, 3) := by decide +kernel
theorem q169_785 : z_m169.2.2.2.2.2.lookup 785 = some (.aload_n 0, 1) := by decide +kernel
theorem q169_786 : z_m169.2.2.2.2.2.lookup 786 = some (.bipush 60, 2) := by decide +kernel
theorem q169_788 : z_m169.2.2.2.2.2.lookup 788 = some (.newarray .int, 2) := by decide +kernel
theorem q169_790 : z_m169.2.2.2.2.2.lookup 790 = some (.putfield 286, 3) := by decide +kernel
theorem q169_793 : z_m169.2.2.2.2.2.lookup 793 = some (.aload_n 0, 1) := by decide +kernel
theorem q169_794 : z_m169.2.2.2.2.2.lookup 794 = some (.bipush 60, 2) := by decide +kernel
theorem q169_796 : z_m169.2.2.2.2.2.lookup 796 = some (.newarray .int, 2) := by decide +kernel
theorem q169_798 : z_m169.2.2.2.2.2.lookup 798 = some (.putfield 289, 3) := by decide +kernel
theorem q169_801 : z_m169.2.2.2.2.2.lookup 801 = some (.aload_n 0, 1) := by decide +kernel
theorem q169_802 : z_m169.2.2.2.2.2.lookup 802 = some (.bipush 8, 2) := by decide +kernel
theorem q169_804 : z_m169.2.2.2.2.2.lookup 804 = some (.newarray .int, 2) := by decide +kernel
theorem q169_806 : z_m169.2.2.2.2.2.lookup 806 = some (.putfield 292, 3) := by decide +kernel
theorem q169_809 : z_m169.2.2.2.2.2.lookup 809 = some (.aload_n 0, 1) := by decide +kernel
theorem q169_810 : z_m169.2.2.2.2.2.lookup 810 = some (.sipush 256, 3) := by decide +kernel
theorem q169_813 : z_m169.2.2.2.2.2.lookup 813 = some (.newarray .int, 2) := by decide +kernel
theorem q169_815 : z_m169.2.2.2.2.2.lookup 815 = some (.putfield 295, 3) := by decide +kernel
theorem q169_818 : z_m169.2.2.2.2.2.lookup 818 = some (.aload_n 0, 1) := by decide +kernel
theorem q169_819 : z_m169.2.2.2.2.2.lookup 819 = some (.sipush 256, 3) := by decide +kernel
theorem q169_822 : z_m169.2.2.2.2.2.lookup 822 = some (.newarray .int, 2) := by decide +kernel
theorem q169_824 : z_m169.2.2.2.2.2.lookup 824 = some (.putfield 298, 3) := by decide +kernel
theorem q169_827 : z_m169.2.2.2.2.2.lookup 827 = some (.aload_n 0, 1) := by decide +kernel
theorem q169_828 : z_m169.2.2.2.2.2.lookup 828 = some (.iconst 5, 1) := by decide +kernel
theorem q169_829 : z_m169.2.2.2.2.2.lookup 829 = some (.newarray .int, 2) := by decide +kernel
theorem q169_831 : z_m169.2.2.2.2.2.lookup 831 = some (.putfield 301, 3) := by decide +kernel
theorem q169_834 : z_m169.2.2.2.2.2.lookup 834 = some (.aload_n 0, 1) := by decide +kernel
theorem q169_835 : z_m169.2.2.2.2.2.lookup 835 = some (.iconst 5, 1) := by decide +kernel
theorem q169_836 : z_m169.2.2.2.2.2.lookup 836 = some (.newarray .int, 2) := by decide +kernel
theorem q169_838 : z_m169.2.2.2.2.2.lookup 838 = some (.putfield 304, 3) := by decide +kernel
theorem q169_841 : z_m169.2.2.2.2.2.lookup 841 = some (.aload_n 0, 1) := by decide +kernel
theorem q169_842 : z_m169.2.2.2.2.2.lookup 842 = some (.bipush 50, 2) := by decide +kernel
theorem q169_844 : z_m169.2.2.2.2.2.lookup 844 = some (.newarray .int, 2) := by decide +kernel
theorem q169_846 : z_m169.2.2.2.2.2.lookup 846 = some (.putfield 307, 3) := by decide +kernel
theorem q169_849 : z_m169.2.2.2.2.2.lookup 849 = some (.aload_n 0, 1) := by decide +kernel
theorem q169_850 : z_m169.2.2.2.2.2.lookup 850 = some (.iconst 5, 1) := by decide +kernel
theorem q169_851 : z_m169.2.2.2.2.2.lookup 851 = some (.newarray .int, 2) := by decide +kernel
theorem q169_853 : z_m169.2.2.2.2.2.lookup 853 = some (.putfield 310, 3) := by decide +kernel
theorem q169_856 : z_m169.2.2.2.2.2.lookup 856 = some (.aload_n 0, 1) := by decide +kernel
theorem q169_857 : z_m169.2.2.2.2.2.lookup 857 = some (.iconst 5, 1) := by decide +kernel
theorem q169_858 : z_m169.2.2.2.2.2.lookup 858 = some (.newarray .int, 2) := by decide +kernel
theorem q169_860 : z_m169.2.2.2.2.2.lookup 860 = some (.putfield 313, 3) := by decide +kernel
theorem q169_863 : z_m169.2.2.2.2.2.lookup 863 = some (.aload_n 0, 1) := by decide +kernel
theorem q169_864 : z_m169.2.2.2.2.2.lookup 864 = some (.iconst 5, 1) := by decide +kernel
theorem q169_865 : z_m169.2.2.2.2.2.lookup 865 = some (.newarray .int, 2) := by decide +kernel
theorem q169_867 : z_m169.2.2.2.2.2.lookup 867 = some (.putfield 316, 3) := by decide +kernel
theorem q169_870 : z_m169.2.2.2.2.2.lookup 870 = some (.aload_n 0, 1) := by decide +kernel
theorem q169_871 : z_m169.2.2.2.2.2.lookup 871 = some (.bipush 8, 2) := by decide +kernel
theorem q169_873 : z_m169.2.2.2.2.2.lookup 873 = some (.newarray .int, 2) := by decide +kernel
theorem q169_875 : z_m169.2.2.2.2.2.lookup 875 = some (.putfield 319, 3) := by decide +kernel
theorem q169_878 : z_m169.2.2.2.2.2.lookup 878 = some (.aload_n 0, 1) := by decide +kernel
theorem q169_879 : z_m169.2.2.2.2.2.lookup 879 = some (.bipush 8, 2) := by decide +kernel
theorem q169_881 : z_m169.2.2.2.2.2.lookup 881 = some (.newarray .int, 2) := by decide +kernel
theorem q169_883 : z_m169.2.2.2.2.2.lookup 883 = some (.putfield 322, 3) := by decide +kernel
theorem q169_886 : z_m169.2.2.2.2.2.lookup 886 = some (.aload_n 0, 1) := by decide +kernel
theorem q169_887 : z_m169.2.2.2.2.2.lookup 887 = some (.sipush 256, 3) := by decide +kernel
theorem q169_890 : z_m169.2.2.2.2.2.lookup 890 = some (.newarray .int, 2) := by decide +kernel
theorem q169_892 : z_m169.2.2.2.2.2.lookup 892 = some (.putfield 325, 3) := by decide +kernel
theorem q169_895 : z_m169.2.2.2.2.2.lookup 895 = some (.aload_n 0, 1) := by decide +kernel
theorem q169_896 : z_m169.2.2.2.2.2.lookup 896 = some (.sipush 256, 3) := by decide +kernel
theorem q169_899 : z_m169.2.2.2.2.2.lookup 899 = some (.newarray .int, 2) := by decide +kernel
theorem q169_901 : z_m169.2.2.2.2.2.lookup 901 = some (.putfield 328, 3) := by decide +kernel
theorem q169_904 : z_m169.2.2.2.2.2.lookup 904 = some (.aload_n 0, 1) := by decide +kernel
theorem q169_905 : z_m169.2.2.2.2.2.lookup 905 = some (.bipush 6, 2) := by decide +kernel
theorem q169_907 : z_m169.2.2.2.2.2.lookup 907 = some (.newarray .int, 2) := by decide +kernel
theorem q169_909 : z_m169.2.2.2.2.2.lookup 909 = some (.putfield 331, 3) := by decide +kernel
theorem q169_912 : z_m169.2.2.2.2.2.lookup 912 = some (.aload_n 0, 1) := by decide +kernel
theorem q169_913 : z_m169.2.2.2.2.2.lookup 913 = some (.bipush 6, 2) := by decide +kernel
theorem q169_915 : z_m169.2.2.2.2.2.lookup 915 = some (.newarray .int, 2) := by decide +kernel
theorem q169_917 : z_m169.2.2.2.2.2.lookup 917 = some (.putfield 334, 3) := by decide +kernel
theorem q169_920 : z_m169.2.2.2.2.2.lookup 920 = some (.aload_n 0, 1) := by decide +kernel
theorem q169_921 : z_m169.2.2.2.2.2.lookup 921 = some (.bipush 6, 2) := by decide +kernel
theorem q169_923 : z_m169.2.2.2.2.2.lookup 923 = some (.newarray .int, 2) := by decide +kernel
theorem q169_925 : z_m169.2.2.2.2.2.lookup 925 = some (.putfield 337, 3) := by decide +kernel
theorem q169_928 : z_m169.2.2.2.2.2.lookup 928 = some (.aload_n 0, 1) := by decide +kernel
theorem q169_929 : z_m169.2.2.2.2.2.lookup 929 = some (.bipush 6, 2) := by decide +kernel
theorem q169_931 : z_m169.2.2.2.2.2.lookup 931 = some (.newarray .int, 2) := by decide +kernel
theorem q169_933 : z_m169.2.2.2.2.2.lookup 933 = some (.putfield 340, 3) := by decide +kernel
theorem q169_936 : z_m169.2.2.2.2.2.lookup 936 = some (.aload_n 0, 1) := by decide +kernel
theorem q169_937 : z_m169.2.2.2.2.2.lookup 937 = some (.iconst 4, 1) := by decide +kernel
theorem q169_938 : z_m169.2.2.2.2.2.lookup 938 = some (.newarray .int, 2) := by decide +kernel
theorem q169_940 : z_m169.2.2.2.2.2.lookup 940 = some (.dup, 1) := by decide +kernel
theorem q169_941 : z_m169.2.2.2.2.2.lookup 941 = some (.iconst 0, 1) := by decide +kernel
theorem q169_942 : z_m169.2.2.2.2.2.lookup 942 = some (.iconst (-1), 1) := by decide +kernel
theorem q169_943 : z_m169.2.2.2.2.2.lookup 943 = some (.iastore, 1) := by decide +kernel
theorem q169_944 : z_m169.2.2.2.2.2.lookup 944 = some (.dup, 1) := by decide +kernel
theorem q169_945 : z_m169.2.2.2.2.2.lookup 945 = some (.iconst 1, 1) := by decide +kernel
theorem q169_946 : z_m169.2.2.2.2.2.lookup 946 = some (.iconst (-1), 1) := by decide +kernel
theorem q169_947 : z_m169.2.2.2.2.2.lookup 947 = some (.iastore, 1) := by decide +kernel
theorem q169_948 : z_m169.2.2.2.2.2.lookup 948 = some (.dup, 1) := by decide +kernel
theorem q169_949 : z_m169.2.2.2.2.2.lookup 949 = some (.iconst 2, 1) := by decide +kernel
theorem q169_950 : z_m169.2.2.2.2.2.lookup 950 = some (.iconst (-1), 1) := by decide +kernel
theorem q169_951 : z_m169.2.2.2.2.2.lookup 951 = some (.iastore, 1) := by decide +kernel
theorem q169_952 : z_m169.2.2.2.2.2.lookup 952 = some (.dup, 1) := by decide +kernel
theorem q169_953 : z_m169.2.2.2.2.2.lookup 953 = some (.iconst 3, 1) := by decide +kernel
theorem q169_954 : z_m169.2.2.2.2.2.lookup 954 = some (.iconst (-1), 1) := by decide +kernel
theorem q169_955 : z_m169.2.2.2.2.2.lookup 955 = some (.iastore, 1) := by decide +kernel
theorem q169_956 : z_m169.2.2.2.2.2.lookup 956 = some (.putfield 343, 3) := by decide +kernel
theorem q169_959 : z_m169.2.2.2.2.2.lookup 959 = some (.aload_n 0, 1) := by decide +kernel
theorem q169_960 : z_m169.2.2.2.2.2.lookup 960 = some (.iconst 4, 1) := by decide +kernel
theorem q169_961 : z_m169.2.2.2.2.2.lookup 961 = some (.newarray .int, 2) := by decide +kernel
theorem q169_963 : z_m169.2.2.2.2.2.lookup 963 = some (.putfield 346, 3) := by decide +kernel
theorem q169_966 : z_m169.2.2.2.2.2.lookup 966 = some (.aload_n 0, 1) := by decide +kernel
theorem q169_967 : z_m169.2.2.2.2.2.lookup 967 = some (.sipush 160, 3) := by decide +kernel
theorem q169_970 : z_m169.2.2.2.2.2.lookup 970 = some (.newarray .int, 2) := by decide +kernel
theorem q169_972 : z_m169.2.2.2.2.2.lookup 972 = some (.putfield 349, 3) := by decide +kernel
theorem q169_975 : z_m169.2.2.2.2.2.lookup 975 = some (.aload_n 0, 1) := by decide +kernel
theorem q169_976 : z_m169.2.2.2.2.2.lookup 976 = some (.bipush 40, 2) := by decide +kernel
theorem q169_978 : z_m169.2.2.2.2.2.lookup 978 = some (.newarray .int, 2) := by decide +kernel
theorem q169_980 : z_m169.2.2.2.2.2.lookup 980 = some (.putfield 352, 3) := by decide +kernel
theorem q169_983 : z_m169.2.2.2.2.2.lookup 983 = some (.aload_n 0, 1) := by decide +kernel
theorem q169_984 : z_m169.2.2.2.2.2.lookup 984 = some (.getfield 166, 3) := by decide +kernel
theorem q169_987 : z_m169.2.2.2.2.2.lookup 987 = some (.iconst 0, 1) := by decide +kernel
theorem q169_988 : z_m169.2.2.2.2.2.lookup 988 = some (.bipush (-4), 2) := by decide +kernel
theorem q169_990 : z_m169.2.2.2.2.2.lookup 990 = some (.iastore, 1) := by decide +kernel
theorem q169_991 : z_m169.2.2.2.2.2.lookup 991 = some (.aload_n 0, 1) := by decide +kernel
theorem q169_992 : z_m169.2.2.2.2.2.lookup 992 = some (.getfield 166, 3) := by decide +kernel
theorem q169_995 : z_m169.2.2.2.2.2.lookup 995 = some (.iconst 1, 1) := by decide +kernel
theorem q169_996 : z_m169.2.2.2.2.2.lookup 996 = some (.iconst 0, 1) := by decide +kernel
theorem q169_997 : z_m169.2.2.2.2.2.lookup 997 = some (.iastore, 1) := by decide +kernel
theorem q169_998 : z_m169.2.2.2.2.2.lookup 998 = some (.aload_n 0, 1) := by decide +kernel
theorem q169_999 : z_m169.2.2.2.2.2.lookup 999 = some (.getfield 166, 3) := by decide +kernel
theorem q169_1002 : z_m169.2.2.2.2.2.lookup 1002 = some (.iconst 2, 1) := by decide +kernel
theorem q169_1003 : z_m169.2.2.2.2.2.lookup 1003 = some (.bipush 7, 2) := by decide +kernel
theorem q169_1005 : z_m169.2.2.2.2.2.lookup 1005 = some (.iastore, 1) := by decide +kernel
theorem q169_1006 : z_m169.2.2.2.2.2.lookup 1006 = some (.aload_n 0, 1) := by decide +kernel
theorem q169_1007 : z_m169.2.2.2.2.2.lookup 1007 = some (.getfield 213, 3) := by decide +kernel
theorem q169_1010 : z_m169.2.2.2.2.2.lookup 1010 = some (.iconst 0, 1) := by decide +kernel
theorem q169_1011 : z_m169.2.2.2.2.2.lookup 1011 = some (.iconst 3, 1) := by decide +kernel
theorem q169_1012 : z_m169.2.2.2.2.2.lookup 1012 = some (.iastore, 1) := by decide +kernel
theorem q169_1013 : z_m169.2.2.2.2.2.lookup 1013 = some (.aload_n 0, 1) := by decide +kernel
theorem q169_1014 : z_m169.2.2.2.2.2.lookup 1014 = some (.getfield 166, 3) := by decide +kernel
theorem q169_1017 : z_m169.2.2.2.2.2.lookup 1017 = some (.sipush 160, 3) := by decide +kernel
theorem q169_1020 : z_m169.2.2.2.2.2.lookup 1020 = some (.iconst 4, 1) := by decide +kernel
theorem q169_1021 : z_m169.2.2.2.2.2.lookup 1021 = some (.iastore, 1) := by decide +kernel
theorem q169_1022 : z_m169.2.2.2.2.2.lookup 1022 = some (.aload_n 0, 1) := by decide +kernel
theorem q169_1023 : z_m169.2.2.2.2.2.lookup 1023 = some (.getfield 166, 3) := by decide +kernel
theorem q169_1026 : z_m169.2.2.2.2.2.lookup 1026 = some (.sipush 161, 3) := by decide +kernel
theorem q169_1029 : z_m169.2.2.2.2.2.lookup 1029 = some (.bipush (-6), 2) := by decide +kernel
theorem q169_1031 : z_m169.2.2.2.2.2.lookup 1031 = some (.iastore, 1) := by decide +kernel
theorem q169_1032 : z_m169.2.2.2.2.2.lookup 1032 = some (.aload_n 0, 1) := by decide +kernel
theorem q169_1033 : z_m169.2.2.2.2.2.lookup 1033 = some (.getfield 166, 3) := by decide +kernel
theorem q169_1036 : z_m169.2.2.2.2.2.lookup 1036 = some (.sipush 162, 3) := by decide +kernel
theorem q169_1039 : z_m169.2.2.2.2.2.lookup 1039 = some (.bipush 8, 2) := by decide +kernel
theorem q169_1041 : z_m169.2.2.2.2.2.lookup 1041 = some (.iastore, 1) := by decide +kernel
theorem q169_1042 : z_m169.2.2.2.2.2.lookup 1042 = some (.aload_n 0, 1) := by decide +kernel
theorem q169_1043 : z_m169.2.2.2.2.2.lookup 1043 = some (.getfield 213, 3) := by decide +kernel
theorem q169_1046 : z_m169.2.2.2.2.2.lookup 1046 = some (.iconst 1, 1) := by decide +kernel
theorem q169_1047 : z_m169.2.2.2.2.2.lookup 1047 = some (.iconst 3, 1) := by decide +kernel
theorem q169_1048 : z_m169.2.2.2.2.2.lookup 1048 = some (.iastore, 1) := by decide +kernel
theorem q169_1049 : z_m169.2.2.2.2.2.lookup 1049 = some (.aload_n 0, 1) := by decide +kernel
theorem q169_1050 : z_m169.2.2.2.2.2.lookup 1050 = some (.getfield 166, 3) := by decide +kernel
theorem q169_1053 : z_m169.2.2.2.2.2.lookup 1053 = some (.sipush 320, 3) := by decide +kernel
theorem q169_1056 : z_m169.2.2.2.2.2.lookup 1056 = some (.bipush (-2), 2) := by decide +kernel
theorem q169_1058 : z_m169.2.2.2.2.2.lookup 1058 = some (.iastore, 1) := by decide +kernel
theorem q169_1059 : z_m169.2.2.2.2.2.lookup 1059 = some (.aload_n 0, 1) := by decide +kernel
theorem q169_1060 : z_m169.2.2.2.2.2.lookup 1060 = some (.getfield 213, 3) := by decide +kernel
theorem q169_1063 : z_m169.2.2.2.2.2.lookup 1063 = some (.iconst 2, 1) := by decide +kernel
theorem q169_1064 : z_m169.2.2.2.2.2.lookup 1064 = some (.iconst 1, 1) := by decide +kernel
theorem q169_1065 : z_m169.2.2.2.2.2.lookup 1065 = some (.iastore, 1) := by decide +kernel
theorem q169_1066 : z_m169.2.2.2.2.2.lookup 1066 = some (.aload_n 0, 1) := by decide +kernel
theorem q169_1067 : z_m169.2.2.2.2.2.lookup 1067 = some (.iconst 1, 1) := by decide +kernel
theorem q169_1068 : z_m169.2.2.2.2.2.lookup 1068 = some (.putfield 229, 3) := by decide +kernel
theorem q169_1071 : z_m169.2.2.2.2.2.lookup 1071 = some (.return_, 1) := by decide +kernel
