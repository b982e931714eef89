theorem dX11_init_524 : decode cX11_init 524 = .ok (.dup, 1) := by decide +kernel
theorem dX11_init_525 : decode cX11_init 525 = .ok (.iconst 3, 1) := by decide +kernel
theorem dX11_init_526 : decode cX11_init 526 = .ok (.bipush 117, 2) := by decide +kernel
theorem dX11_init_528 : decode cX11_init 528 = .ok (.castore, 1) := by decide +kernel
theorem dX11_init_529 : decode cX11_init 529 = .ok (.dup, 1) := by decide +kernel
theorem dX11_init_530 : decode cX11_init 530 = .ok (.iconst 4, 1) := by decide +kernel
theorem dX11_init_531 : decode cX11_init 531 = .ok (.bipush 109, 2) := by decide +kernel
theorem dX11_init_533 : decode cX11_init 533 = .ok (.castore, 1) := by decide +kernel
theorem dX11_init_534 : decode cX11_init 534 = .ok (.dup, 1) := by decide +kernel
theorem dX11_init_535 : decode cX11_init 535 = .ok (.iconst 5, 1) := by decide +kernel
theorem dX11_init_536 : decode cX11_init 536 = .ok (.bipush 110, 2) := by decide +kernel
theorem dX11_init_538 : decode cX11_init 538 = .ok (.castore, 1) := by decide +kernel
theorem dX11_init_539 : decode cX11_init 539 = .ok (.putfield 72, 3) := by decide +kernel
theorem dX11_init_542 : decode cX11_init 542 = .ok (.aload_n 0, 1) := by decide +kernel
theorem dX11_init_543 : decode cX11_init 543 = .ok (.iconst 3, 1) := by decide +kernel
theorem dX11_init_544 : decode cX11_init 544 = .ok (.newarray .char, 2) := by decide +kernel
theorem dX11_init_546 : decode cX11_init 546 = .ok (.dup, 1) := by decide +kernel
theorem dX11_init_547 : decode cX11_init 547 = .ok (.iconst 0, 1) := by decide +kernel
theorem dX11_init_548 : decode cX11_init 548 = .ok (.bipush 109, 2) := by decide +kernel
theorem dX11_init_550 : decode cX11_init 550 = .ok (.castore, 1) := by decide +kernel
theorem dX11_init_551 : decode cX11_init 551 = .ok (.dup, 1) := by decide +kernel
theorem dX11_init_552 : decode cX11_init 552 = .ok (.iconst 1, 1) := by decide +kernel
theorem dX11_init_553 : decode cX11_init 553 = .ok (.bipush 105, 2) := by decide +kernel
theorem dX11_init_555 : decode cX11_init 555 = .ok (.castore, 1) := by decide +kernel
theorem dX11_init_556 : decode cX11_init 556 = .ok (.dup, 1) := by decide +kernel
theorem dX11_init_557 : decode cX11_init 557 = .ok (.iconst 2, 1) := by decide +kernel
theorem dX11_init_558 : decode cX11_init 558 = .ok (.bipush 110, 2) := by decide +kernel
theorem dX11_init_560 : decode cX11_init 560 = .ok (.castore, 1) := by decide +kernel
theorem dX11_init_561 : decode cX11_init 561 = .ok (.putfield 75, 3) := by decide +kernel
theorem dX11_init_564 : decode cX11_init 564 = .ok (.aload_n 0, 1) := by decide +kernel
theorem dX11_init_565 : decode cX11_init 565 = .ok (.iconst 3, 1) := by decide +kernel
theorem dX11_init_566 : decode cX11_init 566 = .ok (.newarray .char, 2) := by decide +kernel
theorem dX11_init_568 : decode cX11_init 568 = .ok (.dup, 1) := by decide +kernel
theorem dX11_init_569 : decode cX11_init 569 = .ok (.iconst 0, 1) := by decide +kernel
theorem dX11_init_570 : decode cX11_init 570 = .ok (.bipush 109, 2) := by decide +kernel
theorem dX11_init_572 : decode cX11_init 572 = .ok (.castore, 1) := by decide +kernel
theorem dX11_init_573 : decode cX11_init 573 = .ok (.dup, 1) := by decide +kernel
theorem dX11_init_574 : decode cX11_init 574 = .ok (.iconst 1, 1) := by decide +kernel
theorem dX11_init_575 : decode cX11_init 575 = .ok (.bipush 97, 2) := by decide +kernel
theorem dX11_init_577 : decode cX11_init 577 = .ok (.castore, 1) := by decide +kernel
theorem dX11_init_578 : decode cX11_init 578 = .ok (.dup, 1) := by decide +kernel
theorem dX11_init_579 : decode cX11_init 579 = .ok (.iconst 2, 1) := by decide +kernel
theorem dX11_init_580 : decode cX11_init 580 = .ok (.bipush 120, 2) := by decide +kernel
theorem dX11_init_582 : decode cX11_init 582 = .ok (.castore, 1) := by decide +kernel
theorem dX11_init_583 : decode cX11_init 583 = .ok (.putfield 78, 3) := by decide +kernel
theorem dX11_init_586 : decode cX11_init 586 = .ok (.aload_n 0, 1) := by decide +kernel
theorem dX11_init_587 : decode cX11_init 587 = .ok (.iconst 2, 1) := by decide +kernel
theorem dX11_init_588 : decode cX11_init 588 = .ok (.newarray .int, 2) := by decide +kernel
theorem dX11_init_590 : decode cX11_init 590 = .ok (.putfield 81, 3) := by decide +kernel
theorem dX11_init_593 : decode cX11_init 593 = .ok (.aload_n 0, 1) := by decide +kernel
theorem dX11_init_594 : decode cX11_init 594 = .ok (.bipush 8, 2) := by decide +kernel
theorem dX11_init_596 : decode cX11_init 596 = .ok (.newarray .long, 2) := by decide +kernel
theorem dX11_init_598 : decode cX11_init 598 = .ok (.putfield 84, 3) := by decide +kernel
theorem dX11_init_601 : decode cX11_init 601 = .ok (.aload_n 0, 1) := by decide +kernel
theorem dX11_init_602 : decode cX11_init 602 = .ok (.bipush 16, 2) := by decide +kernel
theorem dX11_init_604 : decode cX11_init 604 = .ok (.newarray .int, 2) := by decide +kernel
theorem dX11_init_606 : decode cX11_init 606 = .ok (.putfield 88, 3) := by decide +kernel
theorem dX11_init_609 : decode cX11_init 609 = .ok (.aload_n 0, 1) := by decide +kernel
theorem dX11_init_610 : decode cX11_init 610 = .ok (.bipush 16, 2) := by decide +kernel
theorem dX11_init_612 : decode cX11_init 612 = .ok (.newarray .int, 2) := by decide +kernel
theorem dX11_init_614 : decode cX11_init 614 = .ok (.putfield 91, 3) := by decide +kernel
theorem dX11_init_617 : decode cX11_init 617 = .ok (.aload_n 0, 1) := by decide +kernel
theorem dX11_init_618 : decode cX11_init 618 = .ok (.bipush 16, 2) := by decide +kernel
theorem dX11_init_620 : decode cX11_init 620 = .ok (.newarray .int, 2) := by decide +kernel
theorem dX11_init_622 : decode cX11_init 622 = .ok (.putfield 94, 3) := by decide +kernel
theorem dX11_init_625 : decode cX11_init 625 = .ok (.aload_n 0, 1) := by decide +kernel
theorem dX11_init_626 : decode cX11_init 626 = .ok (.bipush 16, 2) := by decide +kernel
theorem dX11_init_628 : decode cX11_init 628 = .ok (.newarray .int, 2) := by decide +kernel
theorem dX11_init_630 : decode cX11_init 630 = .ok (.putfield 97, 3) := by decide +kernel
theorem dX11_init_633 : decode cX11_init 633 = .ok (.aload_n 0, 1) := by decide +kernel
theorem dX11_init_634 : decode cX11_init 634 = .ok (.iconst 2, 1) := by decide +kernel
theorem dX11_init_635 : decode cX11_init 635 = .ok (.newarray .int, 2) := by decide +kernel
theorem dX11_init_637 : decode cX11_init 637 = .ok (.putfield 100, 3) := by decide +kernel
theorem dX11_init_640 : decode cX11_init 640 = .ok (.aload_n 0, 1) := by decide +kernel
theorem dX11_init_641 : decode cX11_init 641 = .ok (.bipush 48, 2) := by decide +kernel
theorem dX11_init_643 : decode cX11_init 643 = .ok (.newarray .int, 2) := by decide +kernel
theorem dX11_init_645 : decode cX11_init 645 = .ok (.putfield 103, 3) := by decide +kernel
theorem dX11_init_648 : decode cX11_init 648 = .ok (.aload_n 0, 1) := by decide +kernel
theorem dX11_init_649 : decode cX11_init 649 = .ok (.bipush 48, 2) := by decide +kernel
theorem dX11_init_651 : decode cX11_init 651 = .ok (.newarray .int, 2) := by decide +kernel
theorem dX11_init_653 : decode cX11_init 653 = .ok (.putfield 106, 3) := by decide +kernel
theorem dX11_init_656 : decode cX11_init 656 = .ok (.aload_n 0, 1) := by decide +kernel
theorem dX11_init_657 : decode cX11_init 657 = .ok (.bipush 48, 2) := by decide +kernel
theorem dX11_init_659 : decode cX11_init 659 = .ok (.newarray .int, 2) := by decide +kernel
theorem dX11_init_661 : decode cX11_init 661 = .ok (.putfield 109, 3) := by decide +kernel
theorem dX11_init_664 : decode cX11_init 664 = .ok (.aload_n 0, 1) := by decide +kernel
theorem dX11_init_665 : decode cX11_init 665 = .ok (.bipush 48, 2) := by decide +kernel
theorem dX11_init_667 : decode cX11_init 667 = .ok (.newarray .int, 2) := by decide +kernel
theorem dX11_init_669 : decode cX11_init 669 = .ok (.putfield 112, 3) := by decide +kernel
theorem dX11_init_672 : decode cX11_init 672 = .ok (.aload_n 0, 1) := by decide +kernel
theorem dX11_init_673 : decode cX11_init 673 = .ok (.sipush 1400, 3) := by decide +kernel
theorem dX11_init_676 : decode cX11_init 676 = .ok (.newarray .int, 2) := by decide +kernel
theorem dX11_init_678 : decode cX11_init 678 = .ok (.putfield 115, 3) := by decide +kernel
theorem dX11_init_681 : decode cX11_init 681 = .ok (.aload_n 0, 1) := by decide +kernel
theorem dX11_init_682 : decode cX11_init 682 = .ok (.sipush 800, 3) := by decide +kernel
theorem dX11_init_685 : decode cX11_init 685 = .ok (.newarray .int, 2) := by decide +kernel
theorem dX11_init_687 : decode cX11_init 687 = .ok (.putfield 118, 3) := by decide +kernel
theorem dX11_init_690 : decode cX11_init 690 = .ok (.aload_n 0, 1) := by decide +kernel
theorem dX11_init_691 : decode cX11_init 691 = .ok (.iconst 1, 1) := by decide +kernel
theorem dX11_init_692 : decode cX11_init 692 = .ok (.putfield 121, 3) := by decide +kernel
theorem dX11_init_695 : decode cX11_init 695 = .ok (.aload_n 0, 1) := by decide +kernel
theorem dX11_init_696 : decode cX11_init 696 = .ok (.iconst 1, 1) := by decide +kernel
theorem dX11_init_697 : decode cX11_init 697 = .ok (.putfield 124, 3) := by decide +kernel
theorem dX11_init_700 : decode cX11_init 700 = .ok (.aload_n 0, 1) := by decide +kernel
theorem dX11_init_701 : decode cX11_init 701 = .ok (.bipush 121, 2) := by decide +kernel
theorem dX11_init_703 : decode cX11_init 703 = .ok (.newarray .int, 2) := by decide +kernel
theorem dX11_init_705 : decode cX11_init 705 = .ok (.putfield 127, 3) := by decide +kernel
theorem dX11_init_708 : decode cX11_init 708 = .ok (.aload_n 0, 1) := by decide +kernel
theorem dX11_init_709 : decode cX11_init 709 = .ok (.bipush 121, 2) := by decide +kernel
theorem dX11_init_711 : decode cX11_init 711 = .ok (.newarray .int, 2) := by decide +kernel
theorem dX11_init_713 : decode cX11_init 713 = .ok (.putfield 130, 3) := by decide +kernel
theorem dX11_init_716 : decode cX11_init 716 = .ok (.aload_n 0, 1) := by decide +kernel
theorem dX11_init_717 : decode cX11_init 717 = .ok (.bipush 121, 2) := by decide +kernel
theorem dX11_init_719 : decode cX11_init 719 = .ok (.newarray .int, 2) := by decide +kernel
theorem dX11_init_721 : decode cX11_init 721 = .ok (.putfield 133, 3) := by decide +kernel
theorem dX11_init_724 : decode cX11_init 724 = .ok (.aload_n 0, 1) := by decide +kernel
theorem dX11_init_725 : decode cX11_init 725 = .ok (.bipush 121, 2) := by decide +kernel
theorem dX11_init_727 : decode cX11_init 727 = .ok (.newarray .int, 2) := by decide +kernel
theorem dX11_init_729 : decode cX11_init 729 = .ok (.putfield 136, 3) := by decide +kernel
theorem dX11_init_732 : decode cX11_init 732 = .ok (.aload_n 0, 1) := by decide +kernel
theorem dX11_init_733 : decode cX11_init 733 = .ok (.bipush 121, 2) := by decide +kernel
theorem dX11_init_735 : decode cX11_init 735 = .ok (.newarray .int, 2) := by decide +kernel
theorem dX11_init_737 : decode cX11_init 737 = .ok (.putfield 139, 3) := by decide +kernel
theorem dX11_init_740 : decode cX11_init 740 = .ok (.aload_n 0, 1) := by decide +kernel
theorem dX11_init_741 : decode cX11_init 741 = .ok (.bipush 121, 2) := by decide +kernel
theorem dX11_init_743 : decode cX11_init 743 = .ok (.newarray .int, 2) := by decide +kernel
theorem dX11_init_745 : decode cX11_init 745 = .ok (.putfield 142, 3) := by decide +kernel
theorem dX11_init_748 : decode cX11_init 748 = .ok (.aload_n 0, 1) := by decide +kernel
theorem dX11_init_749 : decode cX11_init 749 = .ok (.iconst (-1), 1) := by decide +kernel
theorem dX11_init_750 : decode cX11_init 750 = .ok (.putfield 145, 3) := by decide +kernel
theorem dX11_init_753 : decode cX11_init 753 = .ok (.aload_n 0, 1) := by decide +kernel
theorem dX11_init_754 : decode cX11_init 754 = .ok (.iconst (-1), 1) := by decide +kernel
theorem dX11_init_755 : decode cX11_init 755 = .ok (.putfield 148, 3) := by decide +kernel
theorem dX11_init_758 : decode cX11_init 758 = .ok (.aload_n 0, 1) := by decide +kernel
theorem dX11_init_759 : decode cX11_init 759 = .ok (.bipush 64, 2) := by decide +kernel
theorem dX11_init_761 : decode cX11_init 761 = .ok (.newarray .int, 2) := by decide +kernel
theorem dX11_init_763 : decode cX11_init 763 = .ok (.putfield 151, 3) := by decide +kernel
theorem dX11_init_766 : decode cX11_init 766 = .ok (.aload_n 0, 1) := by decide +kernel
theorem dX11_init_767 : decode cX11_init 767 = .ok (.bipush 64, 2) := by decide +kernel
theorem dX11_init_769 : decode cX11_init 769 = .ok (.newarray .int, 2) := by decide +kernel
theorem dX11_init_771 : decode cX11_init 771 = .ok (.putfield 154, 3) := by decide +kernel
theorem dX11_init_774 : decode cX11_init 774 = .ok (.aload_n 0, 1) := by decide +kernel
theorem dX11_init_775 : decode cX11_init 775 = .ok (.bipush 64, 2) := by decide +kernel
theorem dX11_init_777 : decode cX11_init 777 = .ok (.newarray .int, 2) := by decide +kernel
theorem dX11_init_779 : decode cX11_init 779 = .ok (.putfield 157, 3) := by decide +kernel
theorem dX11_init_782 : decode cX11_init 782 = .ok (.aload_n 0, 1) := by decide +kernel
theorem dX11_init_783 : decode cX11_init 783 = .ok (.bipush 64, 2) := by decide +kernel
theorem dX11_init_785 : decode cX11_init 785 = .ok (.newarray .int, 2) := by decide +kernel
theorem dX11_init_787 : decode cX11_init 787 = .ok (.putfield 160, 3) := by decide +kernel
theorem dX11_init_790 : decode cX11_init 790 = .ok (.aload_n 0, 1) := by decide +kernel
theorem dX11_init_791 : decode cX11_init 791 = .ok (.bipush 64, 2) := by decide +kernel
theorem dX11_init_793 : decode cX11_init 793 = .ok (.newarray .int, 2) := by decide +kernel
theorem dX11_init_795 : decode cX11_init 795 = .ok (.putfield 163, 3) := by decide +kernel
theorem dX11_init_798 : decode cX11_init 798 = .ok (.aload_n 0, 1) := by decide +kernel
theorem dX11_init_799 : decode cX11_init 799 = .ok (.sipush 1200, 3) := by decide +kernel
theorem dX11_init_802 : decode cX11_init 802 = .ok (.newarray .long, 2) := by decide +kernel
theorem dX11_init_804 : decode cX11_init 804 = .ok (.putfield 166, 3) := by decide +kernel
theorem dX11_init_807 : decode cX11_init 807 = .ok (.aload_n 0, 1) := by decide +kernel
theorem dX11_init_808 : decode cX11_init 808 = .ok (.sipush 800, 3) := by decide +kernel
theorem dX11_init_811 : decode cX11_init 811 = .ok (.newarray .long, 2) := by decide +kernel
theorem dX11_init_813 : decode cX11_init 813 = .ok (.putfield 169, 3) := by decide +kernel
theorem dX11_init_816 : decode cX11_init 816 = .ok (.aload_n 0, 1) := by decide +kernel
theorem dX11_init_817 : decode cX11_init 817 = .ok (.iconst (-1), 1) := by decide +kernel
theorem dX11_init_818 : decode cX11_init 818 = .ok (.putfield 172, 3) := by decide +kernel
theorem dX11_init_821 : decode cX11_init 821 = .ok (.aload_n 0, 1) := by decide +kernel
theorem dX11_init_822 : decode cX11_init 822 = .ok (.bipush 66, 2) := by decide +kernel
theorem dX11_init_824 : decode cX11_init 824 = .ok (.newarray .long, 2) := by decide +kernel
theorem dX11_init_826 : decode cX11_init 826 = .ok (.putfield 175, 3) := by decide +kernel
theorem dX11_init_829 : decode cX11_init 829 = .ok (.aload_n 0, 1) := by decide +kernel
theorem dX11_init_830 : decode cX11_init 830 = .ok (.bipush 64, 2) := by decide +kernel
theorem dX11_init_832 : decode cX11_init 832 = .ok (.newarray .boolean, 2) := by decide +kernel
theorem dX11_init_834 : decode cX11_init 834 = .ok (.putfield 178, 3) := by decide +kernel
theorem dX11_init_837 : decode cX11_init 837 = .ok (.aload_n 0, 1) := by decide +kernel
theorem dX11_init_838 : decode cX11_init 838 = .ok (.bipush 64, 2) := by decide +kernel
theorem dX11_init_840 : decode cX11_init 840 = .ok (.newarray .int, 2) := by decide +kernel
theorem dX11_init_842 : decode cX11_init 842 = .ok (.putfield 182, 3) := by decide +kernel
theorem dX11_init_845 : decode cX11_init 845 = .ok (.aload_n 0, 1) := by decide +kernel
theorem dX11_init_846 : decode cX11_init 846 = .ok (.bipush 64, 2) := by decide +kernel
theorem dX11_init_848 : decode cX11_init 848 = .ok (.newarray .int, 2) := by decide +kernel
theorem dX11_init_850 : decode cX11_init 850 = .ok (.putfield 185, 3) := by decide +kernel
theorem dX11_init_853 : decode cX11_init 853 = .ok (.aload_n 0, 1) := by decide +kernel
theorem dX11_init_854 : decode cX11_init 854 = .ok (.bipush 64, 2) := by decide +kernel
theorem dX11_init_856 : decode cX11_init 856 = .ok (.newarray .int, 2) := by decide +kernel
theorem dX11_init_858 : decode cX11_init 858 = .ok (.putfield 188, 3) := by decide +kernel
theorem dX11_init_861 : decode cX11_init 861 = .ok (.aload_n 0, 1) := by decide +kernel
theorem dX11_init_862 : decode cX11_init 862 = .ok (.bipush 64, 2) := by decide +kernel
theorem dX11_init_864 : decode cX11_init 864 = .ok (.newarray .int, 2) := by decide +kernel
theorem dX11_init_866 : decode cX11_init 866 = .ok (.putfield 191, 3) := by decide +kernel
theorem dX11_init_869 : decode cX11_init 869 = .ok (.aload_n 0, 1) := by decide +kernel
theorem dX11_init_870 : decode cX11_init 870 = .ok (.bipush 64, 2) := by decide +kernel
theorem dX11_init_872 : decode cX11_init 872 = .ok (.newarray .int, 2) := by decide +kernel
theorem dX11_init_874 : decode cX11_init 874 = .ok (.putfield 194, 3) := by decide +kernel
theorem dX11_init_877 : decode cX11_init 877 = .ok (.aload_n 0, 1) := by decide +kernel
theorem dX11_init_878 : decode cX11_init 878 = .ok (.bipush 64, 2) := by decide +kernel
theorem dX11_init_880 : decode cX11_init 880 = .ok (.newarray .int, 2) := by decide +kernel
theorem dX11_init_882 : decode cX11_init 882 = .ok (.putfield 197, 3) := by decide +kernel
theorem dX11_init_885 : decode cX11_init 885 = .ok (.aload_n 0, 1) := by decide +kernel
theorem dX11_init_886 : decode cX11_init 886 = .ok (.bipush 64, 2) := by decide +kernel
theorem dX11_init_888 : decode cX11_init 888 = .ok (.newarray .int, 2) := by decide +kernel
theorem dX11_init_890 : decode cX11_init 890 = .ok (.putfield 200, 3) := by decide +kernel
theorem dX11_init_893 : decode cX11_init 893 = .ok (.aload_n 0, 1) := by decide +kernel
theorem dX11_init_894 : decode cX11_init 894 = .ok (.bipush 64, 2) := by decide +kernel
theorem dX11_init_896 : decode cX11_init 896 = .ok (.newarray .int, 2) := by decide +kernel
theorem dX11_init_898 : decode cX11_init 898 = .ok (.putfield 203, 3) := by decide +kernel
theorem dX11_init_901 : decode cX11_init 901 = .ok (.aload_n 0, 1) := by decide +kernel
theorem dX11_init_902 : decode cX11_init 902 = .ok (.bipush 64, 2) := by decide +kernel
theorem dX11_init_904 : decode cX11_init 904 = .ok (.newarray .int, 2) := by decide +kernel
theorem dX11_init_906 : decode cX11_init 906 = .ok (.putfield 206, 3) := by decide +kernel
theorem dX11_init_909 : decode cX11_init 909 = .ok (.aload_n 0, 1) := by decide +kernel
theorem dX11_init_910 : decode cX11_init 910 = .ok (.bipush 64, 2) := by decide +kernel
theorem dX11_init_912 : decode cX11_init 912 = .ok (.newarray .int, 2) := by decide +kernel
theorem dX11_init_914 : decode cX11_init 914 = .ok (.putfield 209, 3) := by decide +kernel
theorem dX11_init_917 : decode cX11_init 917 = .ok (.aload_n 0, 1) := by decide +kernel
theorem dX11_init_918 : decode cX11_init 918 = .ok (.iconst (-1), 1) := by decide +kernel
theorem dX11_init_919 : decode cX11_init 919 = .ok (.putfield 212, 3) := by decide +kernel
theorem dX11_init_922 : decode cX11_init 922 = .ok (.aload_n 0, 1) := by decide +kernel
theorem dX11_init_923 : decode cX11_init 923 = .ok (.bipush 64, 2) := by decide +kernel
theorem dX11_init_925 : decode cX11_init 925 = .ok (.newarray .int, 2) := by decide +kernel
theorem dX11_init_927 : decode cX11_init 927 = .ok (.putfield 215, 3) := by decide +kernel
theorem dX11_init_930 : decode cX11_init 930 = .ok (.aload_n 0, 1) := by decide +kernel
theorem dX11_init_931 : decode cX11_init 931 = .ok (.bipush 64, 2) := by decide +kernel
theorem dX11_init_933 : decode cX11_init 933 = .ok (.newarray .long, 2) := by decide +kernel
theorem dX11_init_935 : decode cX11_init 935 = .ok (.putfield 218, 3) := by decide +kernel
theorem dX11_init_938 : decode cX11_init 938 = .ok (.aload_n 0, 1) := by decide +kernel
theorem dX11_init_939 : decode cX11_init 939 = .ok (.bipush 64, 2) := by decide +kernel
theorem dX11_init_941 : decode cX11_init 941 = .ok (.newarray .int, 2) := by decide +kernel
theorem dX11_init_943 : decode cX11_init 943 = .ok (.putfield 221, 3) := by decide +kernel
theorem dX11_init_946 : decode cX11_init 946 = .ok (.aload_n 0, 1) := by decide +kernel
theorem dX11_init_947 : decode cX11_init 947 = .ok (.bipush 64, 2) := by decide +kernel
theorem dX11_init_949 : decode cX11_init 949 = .ok (.newarray .int, 2) := by decide +kernel
theorem dX11_init_951 : decode cX11_init 951 = .ok (.putfield 224, 3) := by decide +kernel
theorem dX11_init_954 : decode cX11_init 954 = .ok (.aload_n 0, 1) := by decide +kernel
theorem dX11_init_955 : decode cX11_init 955 = .ok (.iconst (-1), 1) := by decide +kernel
theorem dX11_init_956 : decode cX11_init 956 = .ok (.putfield 227, 3) := by decide +kernel
theorem dX11_init_959 : decode cX11_init 959 = .ok (.aload_n 0, 1) := by decide +kernel
theorem dX11_init_960 : decode cX11_init 960 = .ok (.bipush 8, 2) := by decide +kernel
theorem dX11_init_962 : decode cX11_init 962 = .ok (.newarray .int, 2) := by decide +kernel
theorem dX11_init_964 : decode cX11_init 964 = .ok (.putfield 230, 3) := by decide +kernel
theorem dX11_init_967 : decode cX11_init 967 = .ok (.aload_n 0, 1) := by decide +kernel
theorem dX11_init_968 : decode cX11_init 968 = .ok (.bipush 8, 2) := by decide +kernel
theorem dX11_init_970 : decode cX11_init 970 = .ok (.newarray .int, 2) := by decide +kernel
theorem dX11_init_972 : decode cX11_init 972 = .ok (.putfield 233, 3) := by decide +kernel
theorem dX11_init_975 : decode cX11_init 975 = .ok (.aload_n 0, 1) := by decide +kernel
theorem dX11_init_976 : decode cX11_init 976 = .ok (.bipush 8, 2) := by decide +kernel
theorem dX11_init_978 : decode cX11_init 978 = .ok (.newarray .int, 2) := by decide +kernel
theorem dX11_init_980 : decode cX11_init 980 = .ok (.putfield 236, 3) := by decide +kernel
theorem dX11_init_983 : decode cX11_init 983 = .ok (.aload_n 0, 1) := by decide +kernel
theorem dX11_init_984 : decode cX11_init 984 = .ok (.bipush 12, 2) := by decide +kernel
theorem dX11_init_986 : decode cX11_init 986 = .ok (.newarray .int, 2) := by decide +kernel
theorem dX11_init_988 : decode cX11_init 988 = .ok (.putfield 239, 3) := by decide +kernel
theorem dX11_init_991 : decode cX11_init 991 = .ok (.aload_n 0, 1) := by decide +kernel
theorem dX11_init_992 : decode cX11_init 992 = .ok (.bipush 12, 2) := by decide +kernel
theorem dX11_init_994 : decode cX11_init 994 = .ok (.newarray .int, 2) := by decide +kernel
theorem dX11_init_996 : decode cX11_init 996 = .ok (.putfield 242, 3) := by decide +kernel
theorem dX11_init_999 : decode cX11_init 999 = .ok (.aload_n 0, 1) := by decide +kernel
theorem dX11_init_1000 : decode cX11_init 1000 = .ok (.bipush 12, 2) := by decide +kernel
theorem dX11_init_1002 : decode cX11_init 1002 = .ok (.newarray .int, 2) := by decide +kernel
theorem dX11_init_1004 : decode cX11_init 1004 = .ok (.putfield 245, 3) := by decide +kernel
theorem dX11_init_1007 : decode cX11_init 1007 = .ok (.aload_n 0, 1) := by decide +kernel
theorem dX11_init_1008 : decode cX11_init 1008 = .ok (.bipush 8, 2) := by decide +kernel
theorem dX11_init_1010 : decode cX11_init 1010 = .ok (.newarray .int, 2) := by decide +kernel
theorem dX11_init_1012 : decode cX11_init 1012 = .ok (.putfield 248, 3) := by decide +kernel
theorem dX11_init_1015 : decode cX11_init 1015 = .ok (.aload_n 0, 1) := by decide +kernel
theorem dX11_init_1016 : decode cX11_init 1016 = .ok (.bipush 8, 2) := by decide +kernel
theorem dX11_init_1018 : decode cX11_init 1018 = .ok (.newarray .int, 2) := by decide +kernel
theorem dX11_init_1020 : decode cX11_init 1020 = .ok (.putfield 251, 3) := by decide +kernel
theorem dX11_init_1023 : decode cX11_init 1023 = .ok (.aload_n 0, 1) := by decide +kernel
theorem dX11_init_1024 : decode cX11_init 1024 = .ok (.iconst (-1), 1) := by decide +kernel
theorem dX11_init_1025 : decode cX11_init 1025 = .ok (.putfield 254, 3) := by decide +kernel
theorem dX11_init_1028 : decode cX11_init 1028 = .ok (.return_, 1) := by decide +kernel
theorem dX11_isIn_0 : decode cX11_isIn 0 = .ok (.lload_n 0, 1) := by decide +kernel
theorem dX11_isIn_1 : decode cX11_isIn 1 = .ok (.lload_n 2, 1) := by decide +kernel
theorem dX11_isIn_2 : decode cX11_isIn 2 = .ok (.lcmp, 1) := by decide +kernel
theorem dX11_isIn_3 : decode cX11_isIn 3 = .ok (.ifCond .lt 14, 3) := by decide +kernel
theorem dX11_isIn_6 : decode cX11_isIn 6 = .ok (.lload_n 0, 1) := by decide +kernel
theorem dX11_isIn_7 : decode cX11_isIn 7 = .ok (.lload 4, 2) := by decide +kernel
theorem dX11_isIn_9 : decode cX11_isIn 9 = .ok (.lcmp, 1) := by decide +kernel
theorem dX11_isIn_10 : decode cX11_isIn 10 = .ok (.ifCond .gt 7, 3) := by decide +kernel
theorem dX11_isIn_13 : decode cX11_isIn 13 = .ok (.iconst 1, 1) := by decide +kernel
theorem dX11_isIn_14 : decode cX11_isIn 14 = .ok (.goto 4, 3) := by decide +kernel
theorem dX11_isIn_17 : decode cX11_isIn 17 = .ok (.iconst 0, 1) := by decide +kernel
theorem dX11_isIn_18 : decode cX11_isIn 18 = .ok (.ireturn, 1) := by decide +kernel
theorem dX11_feed_0 : decode cX11_feed 0 = .ok (.aload_n 0, 1) := by decide +kernel
theorem dX11_feed_1 : decode cX11_feed 1 = .ok (.getfield 257, 3) := by decide +kernel
theorem dX11_feed_4 : decode cX11_feed 4 = .ok (.bipush 20, 2) := by decide +kernel
theorem dX11_feed_6 : decode cX11_feed 6 = .ok (.iadd, 1) := by decide +kernel
theorem dX11_feed_7 : decode cX11_feed 7 = .ok (.sipush 700, 3) := by decide +kernel
theorem dX11_feed_10 : decode cX11_feed 10 = .ok (.if_icmp .le 5, 3) := by decide +kernel
theorem dX11_feed_13 : decode cX11_feed 13 = .ok (.iconst (-1), 1) := by decide +kernel
theorem dX11_feed_14 : decode cX11_feed 14 = .ok (.ireturn, 1) := by decide +kernel
theorem dX11_feed_15 : decode cX11_feed 15 = .ok (.iconst 0, 1) := by decide +kernel
theorem dX11_feed_16 : decode cX11_feed 16 = .ok (.istore 6, 2) := by decide +kernel
theorem dX11_feed_18 : decode cX11_feed 18 = .ok (.iload 6, 2) := by decide +kernel
theorem dX11_feed_20 : decode cX11_feed 20 = .ok (.bipush 20, 2) := by decide +kernel
theorem dX11_feed_22 : decode cX11_feed 22 = .ok (.if_icmp .ge 92, 3) := by decide +kernel
theorem dX11_feed_25 : decode cX11_feed 25 = .ok (.iload 6, 2) := by decide +kernel
theorem dX11_feed_27 : decode cX11_feed 27 = .ok (.iconst 4, 1) := by decide +kernel
theorem dX11_feed_28 : decode cX11_feed 28 = .ok (.if_icmp .ge 7, 3) := by decide +kernel
theorem dX11_feed_31 : decode cX11_feed 31 = .ok (.iload_n 1, 1) := by decide +kernel
theorem dX11_feed_32 : decode cX11_feed 32 = .ok (.goto 39, 3) := by decide +kernel
theorem dX11_feed_35 : decode cX11_feed 35 = .ok (.iload 6, 2) := by decide +kernel
theorem dX11_feed_37 : decode cX11_feed 37 = .ok (.bipush 8, 2) := by decide +kernel
theorem dX11_feed_39 : decode cX11_feed 39 = .ok (.if_icmp .ge 7, 3) := by decide +kernel
theorem dX11_feed_42 : decode cX11_feed 42 = .ok (.iload_n 2, 1) := by decide +kernel
theorem dX11_feed_43 : decode cX11_feed 43 = .ok (.goto 28, 3) := by decide +kernel
theorem dX11_feed_46 : decode cX11_feed 46 = .ok (.iload 6, 2) := by decide +kernel
theorem dX11_feed_48 : decode cX11_feed 48 = .ok (.bipush 12, 2) := by decide +kernel
theorem dX11_feed_50 : decode cX11_feed 50 = .ok (.if_icmp .ge 7, 3) := by decide +kernel
theorem dX11_feed_53 : decode cX11_feed 53 = .ok (.iload_n 3, 1) := by decide +kernel
theorem dX11_feed_54 : decode cX11_feed 54 = .ok (.goto 17, 3) := by decide +kernel
theorem dX11_feed_57 : decode cX11_feed 57 = .ok (.iload 6, 2) := by decide +kernel
theorem dX11_feed_59 : decode cX11_feed 59 = .ok (.bipush 16, 2) := by decide +kernel
theorem dX11_feed_61 : decode cX11_feed 61 = .ok (.if_icmp .ge 8, 3) := by decide +kernel
theorem dX11_feed_64 : decode cX11_feed 64 = .ok (.iload 4, 2) := by decide +kernel
theorem dX11_feed_66 : decode cX11_feed 66 = .ok (.goto 5, 3) := by decide +kernel
theorem dX11_feed_69 : decode cX11_feed 69 = .ok (.iload 5, 2) := by decide +kernel
theorem dX11_feed_71 : decode cX11_feed 71 = .ok (.istore 7, 2) := by decide +kernel
theorem dX11_feed_73 : decode cX11_feed 73 = .ok (.aload_n 0, 1) := by decide +kernel
theorem dX11_feed_74 : decode cX11_feed 74 = .ok (.getfield 7, 3) := by decide +kernel
theorem dX11_feed_77 : decode cX11_feed 77 = .ok (.aload_n 0, 1) := by decide +kernel
theorem dX11_feed_78 : decode cX11_feed 78 = .ok (.getfield 257, 3) := by decide +kernel
theorem dX11_feed_81 : decode cX11_feed 81 = .ok (.iload 7, 2) := by decide +kernel
theorem dX11_feed_83 : decode cX11_feed 83 = .ok (.bipush 8, 2) := by decide +kernel
theorem dX11_feed_85 : decode cX11_feed 85 = .ok (.iconst 3, 1) := by decide +kernel
theorem dX11_feed_86 : decode cX11_feed 86 = .ok (.iload 6, 2) := by decide +kernel
theorem dX11_feed_88 : decode cX11_feed 88 = .ok (.iconst 4, 1) := by decide +kernel
theorem dX11_feed_89 : decode cX11_feed 89 = .ok (.irem, 1) := by decide +kernel
theorem dX11_feed_90 : decode cX11_feed 90 = .ok (.isub, 1) := by decide +kernel
theorem dX11_feed_91 : decode cX11_feed 91 = .ok (.imul, 1) := by decide +kernel
theorem dX11_feed_92 : decode cX11_feed 92 = .ok (.ishr, 1) := by decide +kernel
theorem dX11_feed_93 : decode cX11_feed 93 = .ok (.sipush 255, 3) := by decide +kernel
theorem dX11_feed_96 : decode cX11_feed 96 = .ok (.iand, 1) := by decide +kernel
theorem dX11_feed_97 : decode cX11_feed 97 = .ok (.iastore, 1) := by decide +kernel
theorem dX11_feed_98 : decode cX11_feed 98 = .ok (.aload_n 0, 1) := by decide +kernel
theorem dX11_feed_99 : decode cX11_feed 99 = .ok (.dup, 1) := by decide +kernel
theorem dX11_feed_100 : decode cX11_feed 100 = .ok (.getfield 257, 3) := by decide +kernel
theorem dX11_feed_103 : decode cX11_feed 103 = .ok (.iconst 1, 1) := by decide +kernel
theorem dX11_feed_104 : decode cX11_feed 104 = .ok (.iadd, 1) := by decide +kernel
theorem dX11_feed_105 : decode cX11_feed 105 = .ok (.putfield 257, 3) := by decide +kernel
theorem dX11_feed_108 : decode cX11_feed 108 = .ok (.iinc 6 1, 3) := by decide +kernel
theorem dX11_feed_111 : decode cX11_feed 111 = .ok (.goto (-93), 3) := by decide +kernel
theorem dX11_feed_114 : decode cX11_feed 114 = .ok (.aload_n 0, 1) := by decide +kernel
theorem dX11_feed_115 : decode cX11_feed 115 = .ok (.getfield 257, 3) := by decide +kernel
theorem dX11_feed_118 : decode cX11_feed 118 = .ok (.ireturn, 1) := by decide +kernel
theorem dX11_end_0 : decode cX11_end 0 = .ok (.iload_n 1, 1) := by decide +kernel
theorem dX11_end_1 : decode cX11_end 1 = .ok (.ifCond .lt 11, 3) := by decide +kernel
theorem dX11_end_4 : decode cX11_end 4 = .ok (.iload_n 1, 1) := by decide +kernel
theorem dX11_end_5 : decode cX11_end 5 = .ok (.aload_n 0, 1) := by decide +kernel
theorem dX11_end_6 : decode cX11_end 6 = .ok (.getfield 257, 3) := by decide +kernel
theorem dX11_end_9 : decode cX11_end 9 = .ok (.if_icmp .le 5, 3) := by decide +kernel
theorem dX11_end_12 : decode cX11_end 12 = .ok (.iconst 0, 1) := by decide +kernel
theorem dX11_end_13 : decode cX11_end 13 = .ok (.ireturn, 1) := by decide +kernel
theorem dX11_end_14 : decode cX11_end 14 = .ok (.aload_n 0, 1) := by decide +kernel
theorem dX11_end_15 : decode cX11_end 15 = .ok (.iload_n 1, 1) := by decide +kernel
theorem dX11_end_16 : decode cX11_end 16 = .ok (.putfield 257, 3) := by decide +kernel
theorem dX11_end_19 : decode cX11_end 19 = .ok (.iconst 1, 1) := by decide +kernel
theorem dX11_end_20 : decode cX11_end 20 = .ok (.ireturn, 1) := by decide +kernel
theorem dX11_fail_0 : decode cX11_fail 0 = .ok (.aload_n 0, 1) := by decide +kernel
theorem dX11_fail_1 : decode cX11_fail 1 = .ok (.getfield 260, 3) := by decide +kernel
theorem dX11_fail_4 : decode cX11_fail 4 = .ok (.ifCond .eq 4, 3) := by decide +kernel
theorem dX11_fail_7 : decode cX11_fail 7 = .ok (.return_, 1) := by decide +kernel
theorem dX11_fail_8 : decode cX11_fail 8 = .ok (.aload_n 0, 1) := by decide +kernel
theorem dX11_fail_9 : decode cX11_fail 9 = .ok (.iload_n 1, 1) := by decide +kernel
theorem dX11_fail_10 : decode cX11_fail 10 = .ok (.putfield 260, 3) := by decide +kernel
theorem dX11_fail_13 : decode cX11_fail 13 = .ok (.aload_n 0, 1) := by decide +kernel
theorem dX11_fail_14 : decode cX11_fail 14 = .ok (.iload_n 2, 1) := by decide +kernel
theorem dX11_fail_15 : decode cX11_fail 15 = .ok (.putfield 263, 3) := by decide +kernel
theorem dX11_fail_18 : decode cX11_fail 18 = .ok (.return_, 1) := by decide +kernel
theorem dX11_isLetter_0 : decode cX11_isLetter 0 = .ok (.iload_n 0, 1) := by decide +kernel
theorem dX11_isLetter_1 : decode cX11_isLetter 1 = .ok (.bipush 97, 2) := by decide +kernel
theorem dX11_isLetter_3 : decode cX11_isLetter 3 = .ok (.if_icmp .lt 13, 3) := by decide +kernel
theorem dX11_isLetter_6 : decode cX11_isLetter 6 = .ok (.iload_n 0, 1) := by decide +kernel
theorem dX11_isLetter_7 : decode cX11_isLetter 7 = .ok (.bipush 122, 2) := by decide +kernel
theorem dX11_isLetter_9 : decode cX11_isLetter 9 = .ok (.if_icmp .gt 7, 3) := by decide +kernel
theorem dX11_isLetter_12 : decode cX11_isLetter 12 = .ok (.iconst 1, 1) := by decide +kernel
theorem dX11_isLetter_13 : decode cX11_isLetter 13 = .ok (.goto 4, 3) := by decide +kernel
theorem dX11_isLetter_16 : decode cX11_isLetter 16 = .ok (.iconst 0, 1) := by decide +kernel
theorem dX11_isLetter_17 : decode cX11_isLetter 17 = .ok (.ireturn, 1) := by decide +kernel
theorem dX11_isDigit_0 : decode cX11_isDigit 0 = .ok (.iload_n 0, 1) := by decide +kernel
theorem dX11_isDigit_1 : decode cX11_isDigit 1 = .ok (.bipush 48, 2) := by decide +kernel
theorem dX11_isDigit_3 : decode cX11_isDigit 3 = .ok (.if_icmp .lt 13, 3) := by decide +kernel
theorem dX11_isDigit_6 : decode cX11_isDigit 6 = .ok (.iload_n 0, 1) := by decide +kernel
theorem dX11_isDigit_7 : decode cX11_isDigit 7 = .ok (.bipush 57, 2) := by decide +kernel
theorem dX11_isDigit_9 : decode cX11_isDigit 9 = .ok (.if_icmp .gt 7, 3) := by decide +kernel
theorem dX11_isDigit_12 : decode cX11_isDigit 12 = .ok (.iconst 1, 1) := by decide +kernel
theorem dX11_isDigit_13 : decode cX11_isDigit 13 = .ok (.goto 4, 3) := by decide +kernel
theorem dX11_isDigit_16 : decode cX11_isDigit 16 = .ok (.iconst 0, 1) := by decide +kernel
theorem dX11_isDigit_17 : decode cX11_isDigit 17 = .ok (.ireturn, 1) := by decide +kernel
theorem dX11_look_0 : decode cX11_look 0 = .ok (.aload_n 0, 1) := by decide +kernel
theorem dX11_look_1 : decode cX11_look 1 = .ok (.getfield 266, 3) := by decide +kernel
theorem dX11_look_4 : decode cX11_look 4 = .ok (.aload_n 0, 1) := by decide +kernel
theorem dX11_look_5 : decode cX11_look 5 = .ok (.getfield 269, 3) := by decide +kernel
theorem dX11_look_8 : decode cX11_look 8 = .ok (.if_icmp .ge 44, 3) := by decide +kernel
theorem dX11_look_11 : decode cX11_look 11 = .ok (.aload_n 0, 1) := by decide +kernel
theorem dX11_look_12 : decode cX11_look 12 = .ok (.getfield 7, 3) := by decide +kernel
theorem dX11_look_15 : decode cX11_look 15 = .ok (.aload_n 0, 1) := by decide +kernel
theorem dX11_look_16 : decode cX11_look 16 = .ok (.getfield 266, 3) := by decide +kernel
theorem dX11_look_19 : decode cX11_look 19 = .ok (.iaload, 1) := by decide +kernel
theorem dX11_look_20 : decode cX11_look 20 = .ok (.bipush 10, 2) := by decide +kernel
theorem dX11_look_22 : decode cX11_look 22 = .ok (.if_icmp .eq 17, 3) := by decide +kernel
theorem dX11_look_25 : decode cX11_look 25 = .ok (.aload_n 0, 1) := by decide +kernel
theorem dX11_look_26 : decode cX11_look 26 = .ok (.getfield 7, 3) := by decide +kernel
theorem dX11_look_29 : decode cX11_look 29 = .ok (.aload_n 0, 1) := by decide +kernel
theorem dX11_look_30 : decode cX11_look 30 = .ok (.getfield 266, 3) := by decide +kernel
theorem dX11_look_33 : decode cX11_look 33 = .ok (.iaload, 1) := by decide +kernel
theorem dX11_look_34 : decode cX11_look 34 = .ok (.bipush 32, 2) := by decide +kernel
theorem dX11_look_36 : decode cX11_look 36 = .ok (.if_icmp .ne 16, 3) := by decide +kernel
theorem dX11_look_39 : decode cX11_look 39 = .ok (.aload_n 0, 1) := by decide +kernel
theorem dX11_look_40 : decode cX11_look 40 = .ok (.dup, 1) := by decide +kernel
theorem dX11_look_41 : decode cX11_look 41 = .ok (.getfield 266, 3) := by decide +kernel
theorem dX11_look_44 : decode cX11_look 44 = .ok (.iconst 1, 1) := by decide +kernel
theorem dX11_look_45 : decode cX11_look 45 = .ok (.iadd, 1) := by decide +kernel
theorem dX11_look_46 : decode cX11_look 46 = .ok (.putfield 266, 3) := by decide +kernel
theorem dX11_look_49 : decode cX11_look 49 = .ok (.goto (-49), 3) := by decide +kernel
theorem dX11_look_52 : decode cX11_look 52 = .ok (.aload_n 0, 1) := by decide +kernel
theorem dX11_look_53 : decode cX11_look 53 = .ok (.getfield 266, 3) := by decide +kernel
theorem dX11_look_56 : decode cX11_look 56 = .ok (.aload_n 0, 1) := by decide +kernel
theorem dX11_look_57 : decode cX11_look 57 = .ok (.getfield 269, 3) := by decide +kernel
theorem dX11_look_60 : decode cX11_look 60 = .ok (.if_icmp .ge 15, 3) := by decide +kernel
theorem dX11_look_63 : decode cX11_look 63 = .ok (.aload_n 0, 1) := by decide +kernel
theorem dX11_look_64 : decode cX11_look 64 = .ok (.getfield 7, 3) := by decide +kernel
theorem dX11_look_67 : decode cX11_look 67 = .ok (.aload_n 0, 1) := by decide +kernel
theorem dX11_look_68 : decode cX11_look 68 = .ok (.getfield 266, 3) := by decide +kernel
theorem dX11_look_71 : decode cX11_look 71 = .ok (.iaload, 1) := by decide +kernel
theorem dX11_look_72 : decode cX11_look 72 = .ok (.goto 4, 3) := by decide +kernel
theorem dX11_look_75 : decode cX11_look 75 = .ok (.iconst (-1), 1) := by decide +kernel
theorem dX11_look_76 : decode cX11_look 76 = .ok (.ireturn, 1) := by decide +kernel
theorem dX11_isHere_0 : decode cX11_isHere 0 = .ok (.aload_n 0, 1) := by decide +kernel
theorem dX11_isHere_1 : decode cX11_isHere 1 = .ok (.getfield 260, 3) := by decide +kernel
theorem dX11_isHere_4 : decode cX11_isHere 4 = .ok (.ifCond .ne 24, 3) := by decide +kernel
theorem dX11_isHere_7 : decode cX11_isHere 7 = .ok (.aload_n 0, 1) := by decide +kernel
theorem dX11_isHere_8 : decode cX11_isHere 8 = .ok (.invokevirtual 272, 3) := by decide +kernel
theorem dX11_isHere_11 : decode cX11_isHere 11 = .ok (.invokestatic 276, 3) := by decide +kernel
theorem dX11_isHere_14 : decode cX11_isHere 14 = .ok (.ifCond .eq 14, 3) := by decide +kernel
theorem dX11_isHere_17 : decode cX11_isHere 17 = .ok (.aload_n 0, 1) := by decide +kernel
theorem dX11_isHere_18 : decode cX11_isHere 18 = .ok (.getfield 266, 3) := by decide +kernel
theorem dX11_isHere_21 : decode cX11_isHere 21 = .ok (.aload_n 0, 1) := by decide +kernel
theorem dX11_isHere_22 : decode cX11_isHere 22 = .ok (.getfield 280, 3) := by decide +kernel
theorem dX11_isHere_25 : decode cX11_isHere 25 = .ok (.if_icmp .ne 5, 3) := by decide +kernel
theorem dX11_isHere_28 : decode cX11_isHere 28 = .ok (.iconst 0, 1) := by decide +kernel
theorem dX11_isHere_29 : decode cX11_isHere 29 = .ok (.ireturn, 1) := by decide +kernel
theorem dX11_isHere_30 : decode cX11_isHere 30 = .ok (.aload_n 0, 1) := by decide +kernel
theorem dX11_isHere_31 : decode cX11_isHere 31 = .ok (.getfield 266, 3) := by decide +kernel
theorem dX11_isHere_34 : decode cX11_isHere 34 = .ok (.istore_n 2, 1) := by decide +kernel
theorem dX11_isHere_35 : decode cX11_isHere 35 = .ok (.iload_n 2, 1) := by decide +kernel
theorem dX11_isHere_36 : decode cX11_isHere 36 = .ok (.aload_n 0, 1) := by decide +kernel
theorem dX11_isHere_37 : decode cX11_isHere 37 = .ok (.getfield 269, 3) := by decide +kernel
theorem dX11_isHere_40 : decode cX11_isHere 40 = .ok (.if_icmp .ge 21, 3) := by decide +kernel
theorem dX11_isHere_43 : decode cX11_isHere 43 = .ok (.aload_n 0, 1) := by decide +kernel
theorem dX11_isHere_44 : decode cX11_isHere 44 = .ok (.getfield 7, 3) := by decide +kernel
theorem dX11_isHere_47 : decode cX11_isHere 47 = .ok (.iload_n 2, 1) := by decide +kernel
theorem dX11_isHere_48 : decode cX11_isHere 48 = .ok (.iaload, 1) := by decide +kernel
theorem dX11_isHere_49 : decode cX11_isHere 49 = .ok (.invokestatic 276, 3) := by decide +kernel
theorem dX11_isHere_52 : decode cX11_isHere 52 = .ok (.ifCond .eq 9, 3) := by decide +kernel
theorem dX11_isHere_55 : decode cX11_isHere 55 = .ok (.iinc 2 1, 3) := by decide +kernel
theorem dX11_isHere_58 : decode cX11_isHere 58 = .ok (.goto (-23), 3) := by decide +kernel
theorem dX11_isHere_61 : decode cX11_isHere 61 = .ok (.iload_n 2, 1) := by decide +kernel
theorem dX11_isHere_62 : decode cX11_isHere 62 = .ok (.aload_n 0, 1) := by decide +kernel
theorem dX11_isHere_63 : decode cX11_isHere 63 = .ok (.getfield 266, 3) := by decide +kernel
theorem dX11_isHere_66 : decode cX11_isHere 66 = .ok (.isub, 1) := by decide +kernel
theorem dX11_isHere_67 : decode cX11_isHere 67 = .ok (.aload_n 1, 1) := by decide +kernel
theorem dX11_isHere_68 : decode cX11_isHere 68 = .ok (.arraylength, 1) := by decide +kernel
theorem dX11_isHere_69 : decode cX11_isHere 69 = .ok (.if_icmp .eq 5, 3) := by decide +kernel
theorem dX11_isHere_72 : decode cX11_isHere 72 = .ok (.iconst 0, 1) := by decide +kernel
theorem dX11_isHere_73 : decode cX11_isHere 73 = .ok (.ireturn, 1) := by decide +kernel
theorem dX11_isHere_74 : decode cX11_isHere 74 = .ok (.iconst 0, 1) := by decide +kernel
theorem dX11_isHere_75 : decode cX11_isHere 75 = .ok (.istore_n 3, 1) := by decide +kernel
theorem dX11_isHere_76 : decode cX11_isHere 76 = .ok (.iload_n 3, 1) := by decide +kernel
theorem dX11_isHere_77 : decode cX11_isHere 77 = .ok (.aload_n 1, 1) := by decide +kernel
theorem dX11_isHere_78 : decode cX11_isHere 78 = .ok (.arraylength, 1) := by decide +kernel
theorem dX11_isHere_79 : decode cX11_isHere 79 = .ok (.if_icmp .ge 28, 3) := by decide +kernel
theorem dX11_isHere_82 : decode cX11_isHere 82 = .ok (.aload_n 0, 1) := by decide +kernel
theorem dX11_isHere_83 : decode cX11_isHere 83 = .ok (.getfield 7, 3) := by decide +kernel
theorem dX11_isHere_86 : decode cX11_isHere 86 = .ok (.aload_n 0, 1) := by decide +kernel
theorem dX11_isHere_87 : decode cX11_isHere 87 = .ok (.getfield 266, 3) := by decide +kernel
theorem dX11_isHere_90 : decode cX11_isHere 90 = .ok (.iload_n 3, 1) := by decide +kernel
theorem dX11_isHere_91 : decode cX11_isHere 91 = .ok (.iadd, 1) := by decide +kernel
theorem dX11_isHere_92 : decode cX11_isHere 92 = .ok (.iaload, 1) := by decide +kernel
theorem dX11_isHere_93 : decode cX11_isHere 93 = .ok (.aload_n 1, 1) := by decide +kernel
theorem dX11_isHere_94 : decode cX11_isHere 94 = .ok (.iload_n 3, 1) := by decide +kernel
theorem dX11_isHere_95 : decode cX11_isHere 95 = .ok (.caload, 1) := by decide +kernel
theorem dX11_isHere_96 : decode cX11_isHere 96 = .ok (.if_icmp .eq 5, 3) := by decide +kernel
theorem dX11_isHere_99 : decode cX11_isHere 99 = .ok (.iconst 0, 1) := by decide +kernel
theorem dX11_isHere_100 : decode cX11_isHere 100 = .ok (.ireturn, 1) := by decide +kernel
theorem dX11_isHere_101 : decode cX11_isHere 101 = .ok (.iinc 3 1, 3) := by decide +kernel
theorem dX11_isHere_104 : decode cX11_isHere 104 = .ok (.goto (-28), 3) := by decide +kernel
theorem dX11_isHere_107 : decode cX11_isHere 107 = .ok (.iconst 1, 1) := by decide +kernel
theorem dX11_isHere_108 : decode cX11_isHere 108 = .ok (.ireturn, 1) := by decide +kernel
theorem dX11_takes_0 : decode cX11_takes 0 = .ok (.aload_n 0, 1) := by decide +kernel
theorem dX11_takes_1 : decode cX11_takes 1 = .ok (.aload_n 1, 1) := by decide +kernel
theorem dX11_takes_2 : decode cX11_takes 2 = .ok (.invokevirtual 283, 3) := by decide +kernel
theorem dX11_takes_5 : decode cX11_takes 5 = .ok (.ifCond .ne 5, 3) := by decide +kernel
theorem dX11_takes_8 : decode cX11_takes 8 = .ok (.iconst 0, 1) := by decide +kernel
theorem dX11_takes_9 : decode cX11_takes 9 = .ok (.ireturn, 1) := by decide +kernel
theorem dX11_takes_10 : decode cX11_takes 10 = .ok (.aload_n 0, 1) := by decide +kernel
theorem dX11_takes_11 : decode cX11_takes 11 = .ok (.dup, 1) := by decide +kernel
theorem dX11_takes_12 : decode cX11_takes 12 = .ok (.getfield 266, 3) := by decide +kernel
theorem dX11_takes_15 : decode cX11_takes 15 = .ok (.aload_n 1, 1) := by decide +kernel
theorem dX11_takes_16 : decode cX11_takes 16 = .ok (.arraylength, 1) := by decide +kernel
theorem dX11_takes_17 : decode cX11_takes 17 = .ok (.iadd, 1) := by decide +kernel
theorem dX11_takes_18 : decode cX11_takes 18 = .ok (.putfield 266, 3) := by decide +kernel
theorem dX11_takes_21 : decode cX11_takes 21 = .ok (.aload_n 0, 1) := by decide +kernel
theorem dX11_takes_22 : decode cX11_takes 22 = .ok (.aload_n 0, 1) := by decide +kernel
theorem dX11_takes_23 : decode cX11_takes 23 = .ok (.getfield 266, 3) := by decide +kernel
theorem dX11_takes_26 : decode cX11_takes 26 = .ok (.putfield 280, 3) := by decide +kernel
theorem dX11_takes_29 : decode cX11_takes 29 = .ok (.iconst 1, 1) := by decide +kernel
theorem dX11_takes_30 : decode cX11_takes 30 = .ok (.ireturn, 1) := by decide +kernel
theorem dX11_asks_0 : decode cX11_asks 0 = .ok (.aload_n 0, 1) := by decide +kernel
theorem dX11_asks_1 : decode cX11_asks 1 = .ok (.getfield 260, 3) := by decide +kernel
theorem dX11_asks_4 : decode cX11_asks 4 = .ok (.ifCond .ne 20, 3) := by decide +kernel
theorem dX11_asks_7 : decode cX11_asks 7 = .ok (.aload_n 0, 1) := by decide +kernel
theorem dX11_asks_8 : decode cX11_asks 8 = .ok (.aload_n 1, 1) := by decide +kernel
theorem dX11_asks_9 : decode cX11_asks 9 = .ok (.invokevirtual 287, 3) := by decide +kernel
theorem dX11_asks_12 : decode cX11_asks 12 = .ok (.ifCond .ne 12, 3) := by decide +kernel
theorem dX11_asks_15 : decode cX11_asks 15 = .ok (.aload_n 0, 1) := by decide +kernel
theorem dX11_asks_16 : decode cX11_asks 16 = .ok (.iconst 1, 1) := by decide +kernel
theorem dX11_asks_17 : decode cX11_asks 17 = .ok (.aload_n 0, 1) := by decide +kernel
theorem dX11_asks_18 : decode cX11_asks 18 = .ok (.getfield 266, 3) := by decide +kernel
theorem dX11_asks_21 : decode cX11_asks 21 = .ok (.invokevirtual 290, 3) := by decide +kernel
theorem dX11_asks_24 : decode cX11_asks 24 = .ok (.return_, 1) := by decide +kernel
theorem dX11_takesSign_0 : decode cX11_takesSign 0 = .ok (.aload_n 0, 1) := by decide +kernel
theorem dX11_takesSign_1 : decode cX11_takesSign 1 = .ok (.getfield 260, 3) := by decide +kernel
theorem dX11_takesSign_4 : decode cX11_takesSign 4 = .ok (.ifCond .ne 11, 3) := by decide +kernel
theorem dX11_takesSign_7 : decode cX11_takesSign 7 = .ok (.aload_n 0, 1) := by decide +kernel
theorem dX11_takesSign_8 : decode cX11_takesSign 8 = .ok (.invokevirtual 272, 3) := by decide +kernel
theorem dX11_takesSign_11 : decode cX11_takesSign 11 = .ok (.iload_n 1, 1) := by decide +kernel
theorem dX11_takesSign_12 : decode cX11_takesSign 12 = .ok (.if_icmp .eq 5, 3) := by decide +kernel
theorem dX11_takesSign_15 : decode cX11_takesSign 15 = .ok (.iconst 0, 1) := by decide +kernel
theorem dX11_takesSign_16 : decode cX11_takesSign 16 = .ok (.ireturn, 1) := by decide +kernel
theorem dX11_takesSign_17 : decode cX11_takesSign 17 = .ok (.aload_n 0, 1) := by decide +kernel
theorem dX11_takesSign_18 : decode cX11_takesSign 18 = .ok (.dup, 1) := by decide +kernel
theorem dX11_takesSign_19 : decode cX11_takesSign 19 = .ok (.getfield 266, 3) := by decide +kernel
theorem dX11_takesSign_22 : decode cX11_takesSign 22 = .ok (.iconst 1, 1) := by decide +kernel
theorem dX11_takesSign_23 : decode cX11_takesSign 23 = .ok (.iadd, 1) := by decide +kernel
theorem dX11_takesSign_24 : decode cX11_takesSign 24 = .ok (.putfield 266, 3) := by decide +kernel
theorem dX11_takesSign_27 : decode cX11_takesSign 27 = .ok (.iconst 1, 1) := by decide +kernel
theorem dX11_takesSign_28 : decode cX11_takesSign 28 = .ok (.ireturn, 1) := by decide +kernel
theorem dX11_asksSign_0 : decode cX11_asksSign 0 = .ok (.aload_n 0, 1) := by decide +kernel
theorem dX11_asksSign_1 : decode cX11_asksSign 1 = .ok (.getfield 260, 3) := by decide +kernel
theorem dX11_asksSign_4 : decode cX11_asksSign 4 = .ok (.ifCond .ne 20, 3) := by decide +kernel
theorem dX11_asksSign_7 : decode cX11_asksSign 7 = .ok (.aload_n 0, 1) := by decide +kernel
theorem dX11_asksSign_8 : decode cX11_asksSign 8 = .ok (.iload_n 1, 1) := by decide +kernel
theorem dX11_asksSign_9 : decode cX11_asksSign 9 = .ok (.invokevirtual 294, 3) := by decide +kernel
theorem dX11_asksSign_12 : decode cX11_asksSign 12 = .ok (.ifCond .ne 12, 3) := by decide +kernel
theorem dX11_asksSign_15 : decode cX11_asksSign 15 = .ok (.aload_n 0, 1) := by decide +kernel
theorem dX11_asksSign_16 : decode cX11_asksSign 16 = .ok (.iconst 1, 1) := by decide +kernel
theorem dX11_asksSign_17 : decode cX11_asksSign 17 = .ok (.aload_n 0, 1) := by decide +kernel
theorem dX11_asksSign_18 : decode cX11_asksSign 18 = .ok (.getfield 266, 3) := by decide +kernel
theorem dX11_asksSign_21 : decode cX11_asksSign 21 = .ok (.invokevirtual 290, 3) := by decide +kernel
theorem dX11_asksSign_24 : decode cX11_asksSign 24 = .ok (.return_, 1) := by decide +kernel
theorem dX11_number_0 : decode cX11_number 0 = .ok (.aload_n 0, 1) := by decide +kernel
theorem dX11_number_1 : decode cX11_number 1 = .ok (.getfield 260, 3) := by decide +kernel
theorem dX11_number_4 : decode cX11_number 4 = .ok (.ifCond .eq 5, 3) := by decide +kernel
theorem dX11_number_7 : decode cX11_number 7 = .ok (.iconst 0, 1) := by decide +kernel
theorem dX11_number_8 : decode cX11_number 8 = .ok (.ireturn, 1) := by decide +kernel
theorem dX11_number_9 : decode cX11_number 9 = .ok (.aload_n 0, 1) := by decide +kernel
theorem dX11_number_10 : decode cX11_number 10 = .ok (.invokevirtual 272, 3) := by decide +kernel
theorem dX11_number_13 : decode cX11_number 13 = .ok (.invokestatic 297, 3) := by decide +kernel
theorem dX11_number_16 : decode cX11_number 16 = .ok (.ifCond .eq 14, 3) := by decide +kernel
theorem dX11_number_19 : decode cX11_number 19 = .ok (.aload_n 0, 1) := by decide +kernel
theorem dX11_number_20 : decode cX11_number 20 = .ok (.getfield 266, 3) := by decide +kernel
theorem dX11_number_23 : decode cX11_number 23 = .ok (.aload_n 0, 1) := by decide +kernel
theorem dX11_number_24 : decode cX11_number 24 = .ok (.getfield 280, 3) := by decide +kernel
theorem dX11_number_27 : decode cX11_number 27 = .ok (.if_icmp .ne 14, 3) := by decide +kernel
theorem dX11_number_30 : decode cX11_number 30 = .ok (.aload_n 0, 1) := by decide +kernel
theorem dX11_number_31 : decode cX11_number 31 = .ok (.iconst 1, 1) := by decide +kernel
theorem dX11_number_32 : decode cX11_number 32 = .ok (.aload_n 0, 1) := by decide +kernel
theorem dX11_number_33 : decode cX11_number 33 = .ok (.getfield 266, 3) := by decide +kernel
theorem dX11_number_36 : decode cX11_number 36 = .ok (.invokevirtual 290, 3) := by decide +kernel
theorem dX11_number_39 : decode cX11_number 39 = .ok (.iconst 0, 1) := by decide +kernel
theorem dX11_number_40 : decode cX11_number 40 = .ok (.ireturn, 1) := by decide +kernel
theorem dX11_number_41 : decode cX11_number 41 = .ok (.aload_n 0, 1) := by decide +kernel
theorem dX11_number_42 : decode cX11_number 42 = .ok (.getfield 266, 3) := by decide +kernel
theorem dX11_number_45 : decode cX11_number 45 = .ok (.istore_n 3, 1) := by decide +kernel
theorem dX11_number_46 : decode cX11_number 46 = .ok (.iconst 0, 1) := by decide +kernel
theorem dX11_number_47 : decode cX11_number 47 = .ok (.istore 4, 2) := by decide +kernel
theorem dX11_number_49 : decode cX11_number 49 = .ok (.aload_n 0, 1) := by decide +kernel
theorem dX11_number_50 : decode cX11_number 50 = .ok (.getfield 266, 3) := by decide +kernel
theorem dX11_number_53 : decode cX11_number 53 = .ok (.aload_n 0, 1) := by decide +kernel
theorem dX11_number_54 : decode cX11_number 54 = .ok (.getfield 269, 3) := by decide +kernel
theorem dX11_number_57 : decode cX11_number 57 = .ok (.if_icmp .ge 72, 3) := by decide +kernel
theorem dX11_number_60 : decode cX11_number 60 = .ok (.aload_n 0, 1) := by decide +kernel
theorem dX11_number_61 : decode cX11_number 61 = .ok (.getfield 7, 3) := by decide +kernel
theorem dX11_number_64 : decode cX11_number 64 = .ok (.aload_n 0, 1) := by decide +kernel
theorem dX11_number_65 : decode cX11_number 65 = .ok (.getfield 266, 3) := by decide +kernel
theorem dX11_number_68 : decode cX11_number 68 = .ok (.iaload, 1) := by decide +kernel
theorem dX11_number_69 : decode cX11_number 69 = .ok (.invokestatic 297, 3) := by decide +kernel
theorem dX11_number_72 : decode cX11_number 72 = .ok (.ifCond .eq 57, 3) := by decide +kernel
theorem dX11_number_75 : decode cX11_number 75 = .ok (.aload_n 0, 1) := by decide +kernel
theorem dX11_number_76 : decode cX11_number 76 = .ok (.getfield 266, 3) := by decide +kernel
theorem dX11_number_79 : decode cX11_number 79 = .ok (.iload_n 3, 1) := by decide +kernel
theorem dX11_number_80 : decode cX11_number 80 = .ok (.isub, 1) := by decide +kernel
theorem dX11_number_81 : decode cX11_number 81 = .ok (.iconst 4, 1) := by decide +kernel
theorem dX11_number_82 : decode cX11_number 82 = .ok (.if_icmp .ne 14, 3) := by decide +kernel
theorem dX11_number_85 : decode cX11_number 85 = .ok (.aload_n 0, 1) := by decide +kernel
theorem dX11_number_86 : decode cX11_number 86 = .ok (.iconst 1, 1) := by decide +kernel
theorem dX11_number_87 : decode cX11_number 87 = .ok (.aload_n 0, 1) := by decide +kernel
theorem dX11_number_88 : decode cX11_number 88 = .ok (.getfield 266, 3) := by decide +kernel
theorem dX11_number_91 : decode cX11_number 91 = .ok (.invokevirtual 290, 3) := by decide +kernel
theorem dX11_number_94 : decode cX11_number 94 = .ok (.iconst 0, 1) := by decide +kernel
theorem dX11_number_95 : decode cX11_number 95 = .ok (.ireturn, 1) := by decide +kernel
theorem dX11_number_96 : decode cX11_number 96 = .ok (.bipush 10, 2) := by decide +kernel
theorem dX11_number_98 : decode cX11_number 98 = .ok (.iload 4, 2) := by decide +kernel
theorem dX11_number_100 : decode cX11_number 100 = .ok (.imul, 1) := by decide +kernel
theorem dX11_number_101 : decode cX11_number 101 = .ok (.aload_n 0, 1) := by decide +kernel
theorem dX11_number_102 : decode cX11_number 102 = .ok (.getfield 7, 3) := by decide +kernel
theorem dX11_number_105 : decode cX11_number 105 = .ok (.aload_n 0, 1) := by decide +kernel
theorem dX11_number_106 : decode cX11_number 106 = .ok (.getfield 266, 3) := by decide +kernel
theorem dX11_number_109 : decode cX11_number 109 = .ok (.iaload, 1) := by decide +kernel
theorem dX11_number_110 : decode cX11_number 110 = .ok (.iadd, 1) := by decide +kernel
theorem dX11_number_111 : decode cX11_number 111 = .ok (.bipush 48, 2) := by decide +kernel
theorem dX11_number_113 : decode cX11_number 113 = .ok (.isub, 1) := by decide +kernel
theorem dX11_number_114 : decode cX11_number 114 = .ok (.istore 4, 2) := by decide +kernel
theorem dX11_number_116 : decode cX11_number 116 = .ok (.aload_n 0, 1) := by decide +kernel
theorem dX11_number_117 : decode cX11_number 117 = .ok (.dup, 1) := by decide +kernel
theorem dX11_number_118 : decode cX11_number 118 = .ok (.getfield 266, 3) := by decide +kernel
theorem dX11_number_121 : decode cX11_number 121 = .ok (.iconst 1, 1) := by decide +kernel
theorem dX11_number_122 : decode cX11_number 122 = .ok (.iadd, 1) := by decide +kernel
theorem dX11_number_123 : decode cX11_number 123 = .ok (.putfield 266, 3) := by decide +kernel
theorem dX11_number_126 : decode cX11_number 126 = .ok (.goto (-77), 3) := by decide +kernel
theorem dX11_number_129 : decode cX11_number 129 = .ok (.aload_n 0, 1) := by decide +kernel
theorem dX11_number_130 : decode cX11_number 130 = .ok (.aload_n 0, 1) := by decide +kernel
theorem dX11_number_131 : decode cX11_number 131 = .ok (.getfield 266, 3) := by decide +kernel
theorem dX11_number_134 : decode cX11_number 134 = .ok (.putfield 280, 3) := by decide +kernel
theorem dX11_number_137 : decode cX11_number 137 = .ok (.iload 4, 2) := by decide +kernel
theorem dX11_number_139 : decode cX11_number 139 = .ok (.i2l, 1) := by decide +kernel
theorem dX11_number_140 : decode cX11_number 140 = .ok (.iload_n 1, 1) := by decide +kernel
theorem dX11_number_141 : decode cX11_number 141 = .ok (.i2l, 1) := by decide +kernel
theorem dX11_number_142 : decode cX11_number 142 = .ok (.iload_n 2, 1) := by decide +kernel
theorem dX11_number_143 : decode cX11_number 143 = .ok (.i2l, 1) := by decide +kernel
theorem dX11_number_144 : decode cX11_number 144 = .ok (.invokestatic 300, 3) := by decide +kernel
theorem dX11_number_147 : decode cX11_number 147 = .ok (.ifCond .ne 9, 3) := by decide +kernel
theorem dX11_number_150 : decode cX11_number 150 = .ok (.aload_n 0, 1) := by decide +kernel
theorem dX11_number_151 : decode cX11_number 151 = .ok (.iconst 2, 1) := by decide +kernel
theorem dX11_number_152 : decode cX11_number 152 = .ok (.iload_n 3, 1) := by decide +kernel
theorem dX11_number_153 : decode cX11_number 153 = .ok (.invokevirtual 290, 3) := by decide +kernel
theorem dX11_number_156 : decode cX11_number 156 = .ok (.iload 4, 2) := by decide +kernel
theorem dX11_number_158 : decode cX11_number 158 = .ok (.ireturn, 1) := by decide +kernel
theorem dX11_isOwnHere_0 : decode cX11_isOwnHere 0 = .ok (.aload_n 0, 1) := by decide +kernel
theorem dX11_isOwnHere_1 : decode cX11_isOwnHere 1 = .ok (.aload_n 0, 1) := by decide +kernel
theorem dX11_isOwnHere_2 : decode cX11_isOwnHere 2 = .ok (.getfield 17, 3) := by decide +kernel
theorem dX11_isOwnHere_5 : decode cX11_isOwnHere 5 = .ok (.invokevirtual 283, 3) := by decide +kernel
theorem dX11_isOwnHere_8 : decode cX11_isOwnHere 8 = .ok (.ifCond .ne 113, 3) := by decide +kernel
theorem dX11_isOwnHere_11 : decode cX11_isOwnHere 11 = .ok (.aload_n 0, 1) := by decide +kernel
theorem dX11_isOwnHere_12 : decode cX11_isOwnHere 12 = .ok (.aload_n 0, 1) := by decide +kernel
theorem dX11_isOwnHere_13 : decode cX11_isOwnHere 13 = .ok (.getfield 21, 3) := by decide +kernel
theorem dX11_isOwnHere_16 : decode cX11_isOwnHere 16 = .ok (.invokevirtual 283, 3) := by decide +kernel
theorem dX11_isOwnHere_19 : decode cX11_isOwnHere 19 = .ok (.ifCond .ne 102, 3) := by decide +kernel
theorem dX11_isOwnHere_22 : decode cX11_isOwnHere 22 = .ok (.aload_n 0, 1) := by decide +kernel
theorem dX11_isOwnHere_23 : decode cX11_isOwnHere 23 = .ok (.aload_n 0, 1) := by decide +kernel
theorem dX11_isOwnHere_24 : decode cX11_isOwnHere 24 = .ok (.getfield 24, 3) := by decide +kernel
theorem dX11_isOwnHere_27 : decode cX11_isOwnHere 27 = .ok (.invokevirtual 283, 3) := by decide +kernel
theorem dX11_isOwnHere_30 : decode cX11_isOwnHere 30 = .ok (.ifCond .ne 91, 3) := by decide +kernel
theorem dX11_isOwnHere_33 : decode cX11_isOwnHere 33 = .ok (.aload_n 0, 1) := by decide +kernel
theorem dX11_isOwnHere_34 : decode cX11_isOwnHere 34 = .ok (.aload_n 0, 1) := by decide +kernel
theorem dX11_isOwnHere_35 : decode cX11_isOwnHere 35 = .ok (.getfield 27, 3) := by decide +kernel
theorem dX11_isOwnHere_38 : decode cX11_isOwnHere 38 = .ok (.invokevirtual 283, 3) := by decide +kernel
theorem dX11_isOwnHere_41 : decode cX11_isOwnHere 41 = .ok (.ifCond .ne 80, 3) := by decide +kernel
theorem dX11_isOwnHere_44 : decode cX11_isOwnHere 44 = .ok (.aload_n 0, 1) := by decide +kernel
theorem dX11_isOwnHere_45 : decode cX11_isOwnHere 45 = .ok (.aload_n 0, 1) := by decide +kernel
theorem dX11_isOwnHere_46 : decode cX11_isOwnHere 46 = .ok (.getfield 30, 3) := by decide +kernel
theorem dX11_isOwnHere_49 : decode cX11_isOwnHere 49 = .ok (.invokevirtual 283, 3) := by decide +kernel
theorem dX11_isOwnHere_52 : decode cX11_isOwnHere 52 = .ok (.ifCond .ne 69, 3) := by decide +kernel
theorem dX11_isOwnHere_55 : decode cX11_isOwnHere 55 = .ok (.aload_n 0, 1) := by decide +kernel
theorem dX11_isOwnHere_56 : decode cX11_isOwnHere 56 = .ok (.aload_n 0, 1) := by decide +kernel
theorem dX11_isOwnHere_57 : decode cX11_isOwnHere 57 = .ok (.getfield 33, 3) := by decide +kernel
theorem dX11_isOwnHere_60 : decode cX11_isOwnHere 60 = .ok (.invokevirtual 283, 3) := by decide +kernel
theorem dX11_isOwnHere_63 : decode cX11_isOwnHere 63 = .ok (.ifCond .ne 58, 3) := by decide +kernel
theorem dX11_isOwnHere_66 : decode cX11_isOwnHere 66 = .ok (.aload_n 0, 1) := by decide +kernel
theorem dX11_isOwnHere_67 : decode cX11_isOwnHere 67 = .ok (.aload_n 0, 1) := by decide +kernel
theorem dX11_isOwnHere_68 : decode cX11_isOwnHere 68 = .ok (.getfield 36, 3) := by decide +kernel
theorem dX11_isOwnHere_71 : decode cX11_isOwnHere 71 = .ok (.invokevirtual 283, 3) := by decide +kernel
theorem dX11_isOwnHere_74 : decode cX11_isOwnHere 74 = .ok (.ifCond .ne 47, 3) := by decide +kernel
theorem dX11_isOwnHere_77 : decode cX11_isOwnHere 77 = .ok (.aload_n 0, 1) := by decide +kernel
theorem dX11_isOwnHere_78 : decode cX11_isOwnHere 78 = .ok (.aload_n 0, 1) := by decide +kernel
theorem dX11_isOwnHere_79 : decode cX11_isOwnHere 79 = .ok (.getfield 39, 3) := by decide +kernel
theorem dX11_isOwnHere_82 : decode cX11_isOwnHere 82 = .ok (.invokevirtual 283, 3) := by decide +kernel
theorem dX11_isOwnHere_85 : decode cX11_isOwnHere 85 = .ok (.ifCond .ne 36, 3) := by decide +kernel
theorem dX11_isOwnHere_88 : decode cX11_isOwnHere 88 = .ok (.aload_n 0, 1) := by decide +kernel
theorem dX11_isOwnHere_89 : decode cX11_isOwnHere 89 = .ok (.aload_n 0, 1) := by decide +kernel
theorem dX11_isOwnHere_90 : decode cX11_isOwnHere 90 = .ok (.getfield 42, 3) := by decide +kernel
theorem dX11_isOwnHere_93 : decode cX11_isOwnHere 93 = .ok (.invokevirtual 283, 3) := by decide +kernel
theorem dX11_isOwnHere_96 : decode cX11_isOwnHere 96 = .ok (.ifCond .ne 25, 3) := by decide +kernel
theorem dX11_isOwnHere_99 : decode cX11_isOwnHere 99 = .ok (.aload_n 0, 1) := by decide +kernel
theorem dX11_isOwnHere_100 : decode cX11_isOwnHere 100 = .ok (.aload_n 0, 1) := by decide +kernel
theorem dX11_isOwnHere_101 : decode cX11_isOwnHere 101 = .ok (.getfield 45, 3) := by decide +kernel
theorem dX11_isOwnHere_104 : decode cX11_isOwnHere 104 = .ok (.invokevirtual 283, 3) := by decide +kernel
theorem dX11_isOwnHere_107 : decode cX11_isOwnHere 107 = .ok (.ifCond .ne 14, 3) := by decide +kernel
theorem dX11_isOwnHere_110 : decode cX11_isOwnHere 110 = .ok (.aload_n 0, 1) := by decide +kernel
theorem dX11_isOwnHere_111 : decode cX11_isOwnHere 111 = .ok (.aload_n 0, 1) := by decide +kernel
theorem dX11_isOwnHere_112 : decode cX11_isOwnHere 112 = .ok (.getfield 48, 3) := by decide +kernel
theorem dX11_isOwnHere_115 : decode cX11_isOwnHere 115 = .ok (.invokevirtual 283, 3) := by decide +kernel
theorem dX11_isOwnHere_118 : decode cX11_isOwnHere 118 = .ok (.ifCond .eq 7, 3) := by decide +kernel
theorem dX11_isOwnHere_121 : decode cX11_isOwnHere 121 = .ok (.iconst 1, 1) := by decide +kernel
theorem dX11_isOwnHere_122 : decode cX11_isOwnHere 122 = .ok (.goto 4, 3) := by decide +kernel
theorem dX11_isOwnHere_125 : decode cX11_isOwnHere 125 = .ok (.iconst 0, 1) := by decide +kernel
theorem dX11_isOwnHere_126 : decode cX11_isOwnHere 126 = .ok (.istore_n 1, 1) := by decide +kernel
theorem dX11_isOwnHere_127 : decode cX11_isOwnHere 127 = .ok (.iload_n 1, 1) := by decide +kernel
theorem dX11_isOwnHere_128 : decode cX11_isOwnHere 128 = .ok (.ifCond .ne 113, 3) := by decide +kernel
theorem dX11_isOwnHere_131 : decode cX11_isOwnHere 131 = .ok (.aload_n 0, 1) := by decide +kernel
theorem dX11_isOwnHere_132 : decode cX11_isOwnHere 132 = .ok (.aload_n 0, 1) := by decide +kernel
theorem dX11_isOwnHere_133 : decode cX11_isOwnHere 133 = .ok (.getfield 51, 3) := by decide +kernel
theorem dX11_isOwnHere_136 : decode cX11_isOwnHere 136 = .ok (.invokevirtual 283, 3) := by decide +kernel
theorem dX11_isOwnHere_139 : decode cX11_isOwnHere 139 = .ok (.ifCond .ne 102, 3) := by decide +kernel
theorem dX11_isOwnHere_142 : decode cX11_isOwnHere 142 = .ok (.aload_n 0, 1) := by decide +kernel
theorem dX11_isOwnHere_143 : decode cX11_isOwnHere 143 = .ok (.aload_n 0, 1) := by decide +kernel
theorem dX11_isOwnHere_144 : decode cX11_isOwnHere 144 = .ok (.getfield 54, 3) := by decide +kernel
theorem dX11_isOwnHere_147 : decode cX11_isOwnHere 147 = .ok (.invokevirtual 283, 3) := by decide +kernel
theorem dX11_isOwnHere_150 : decode cX11_isOwnHere 150 = .ok (.ifCond .ne 91, 3) := by decide +kernel
theorem dX11_isOwnHere_153 : decode cX11_isOwnHere 153 = .ok (.aload_n 0, 1) := by decide +kernel
theorem dX11_isOwnHere_154 : decode cX11_isOwnHere 154 = .ok (.aload_n 0, 1) := by decide +kernel
theorem dX11_isOwnHere_155 : decode cX11_isOwnHere 155 = .ok (.getfield 57, 3) := by decide +kernel
theorem dX11_isOwnHere_158 : decode cX11_isOwnHere 158 = .ok (.invokevirtual 283, 3) := by decide +kernel
theorem dX11_isOwnHere_161 : decode cX11_isOwnHere 161 = .ok (.ifCond .ne 80, 3) := by decide +kernel
theorem dX11_isOwnHere_164 : decode cX11_isOwnHere 164 = .ok (.aload_n 0, 1) := by decide +kernel
theorem dX11_isOwnHere_165 : decode cX11_isOwnHere 165 = .ok (.aload_n 0, 1) := by decide +kernel
theorem dX11_isOwnHere_166 : decode cX11_isOwnHere 166 = .ok (.getfield 60, 3) := by decide +kernel
theorem dX11_isOwnHere_169 : decode cX11_isOwnHere 169 = .ok (.invokevirtual 283, 3) := by decide +kernel
theorem dX11_isOwnHere_172 : decode cX11_isOwnHere 172 = .ok (.ifCond .ne 69, 3) := by decide +kernel
theorem dX11_isOwnHere_175 : decode cX11_isOwnHere 175 = .ok (.aload_n 0, 1) := by decide +kernel
theorem dX11_isOwnHere_176 : decode cX11_isOwnHere 176 = .ok (.aload_n 0, 1) := by decide +kernel
theorem dX11_isOwnHere_177 : decode cX11_isOwnHere 177 = .ok (.getfield 63, 3) := by decide +kernel
theorem dX11_isOwnHere_180 : decode cX11_isOwnHere 180 = .ok (.invokevirtual 283, 3) := by decide +kernel
theorem dX11_isOwnHere_183 : decode cX11_isOwnHere 183 = .ok (.ifCond .ne 58, 3) := by decide +kernel
theorem dX11_isOwnHere_186 : decode cX11_isOwnHere 186 = .ok (.aload_n 0, 1) := by decide +kernel
theorem dX11_isOwnHere_187 : decode cX11_isOwnHere 187 = .ok (.aload_n 0, 1) := by decide +kernel
theorem dX11_isOwnHere_188 : decode cX11_isOwnHere 188 = .ok (.getfield 66, 3) := by decide +kernel
theorem dX11_isOwnHere_191 : decode cX11_isOwnHere 191 = .ok (.invokevirtual 283, 3) := by decide +kernel
theorem dX11_isOwnHere_194 : decode cX11_isOwnHere 194 = .ok (.ifCond .ne 47, 3) := by decide +kernel
theorem dX11_isOwnHere_197 : decode cX11_isOwnHere 197 = .ok (.aload_n 0, 1) := by decide +kernel
theorem dX11_isOwnHere_198 : decode cX11_isOwnHere 198 = .ok (.aload_n 0, 1) := by decide +kernel
theorem dX11_isOwnHere_199 : decode cX11_isOwnHere 199 = .ok (.getfield 69, 3) := by decide +kernel
theorem dX11_isOwnHere_202 : decode cX11_isOwnHere 202 = .ok (.invokevirtual 283, 3) := by decide +kernel
theorem dX11_isOwnHere_205 : decode cX11_isOwnHere 205 = .ok (.ifCond .ne 36, 3) := by decide +kernel
theorem dX11_isOwnHere_208 : decode cX11_isOwnHere 208 = .ok (.aload_n 0, 1) := by decide +kernel
theorem dX11_isOwnHere_209 : decode cX11_isOwnHere 209 = .ok (.aload_n 0, 1) := by decide +kernel
theorem dX11_isOwnHere_210 : decode cX11_isOwnHere 210 = .ok (.getfield 72, 3) := by decide +kernel
theorem dX11_isOwnHere_213 : decode cX11_isOwnHere 213 = .ok (.invokevirtual 283, 3) := by decide +kernel
theorem dX11_isOwnHere_216 : decode cX11_isOwnHere 216 = .ok (.ifCond .ne 25, 3) := by decide +kernel
theorem dX11_isOwnHere_219 : decode cX11_isOwnHere 219 = .ok (.aload_n 0, 1) := by decide +kernel
theorem dX11_isOwnHere_220 : decode cX11_isOwnHere 220 = .ok (.aload_n 0, 1) := by decide +kernel
theorem dX11_isOwnHere_221 : decode cX11_isOwnHere 221 = .ok (.getfield 75, 3) := by decide +kernel
theorem dX11_isOwnHere_224 : decode cX11_isOwnHere 224 = .ok (.invokevirtual 283, 3) := by decide +kernel
theorem dX11_isOwnHere_227 : decode cX11_isOwnHere 227 = .ok (.ifCond .ne 14, 3) := by decide +kernel
theorem dX11_isOwnHere_230 : decode cX11_isOwnHere 230 = .ok (.aload_n 0, 1) := by decide +kernel
theorem dX11_isOwnHere_231 : decode cX11_isOwnHere 231 = .ok (.aload_n 0, 1) := by decide +kernel
theorem dX11_isOwnHere_232 : decode cX11_isOwnHere 232 = .ok (.getfield 78, 3) := by decide +kernel
theorem dX11_isOwnHere_235 : decode cX11_isOwnHere 235 = .ok (.invokevirtual 283, 3) := by decide +kernel
theorem dX11_isOwnHere_238 : decode cX11_isOwnHere 238 = .ok (.ifCond .eq 7, 3) := by decide +kernel
theorem dX11_isOwnHere_241 : decode cX11_isOwnHere 241 = .ok (.iconst 1, 1) := by decide +kernel
theorem dX11_isOwnHere_242 : decode cX11_isOwnHere 242 = .ok (.goto 4, 3) := by decide +kernel
theorem dX11_isOwnHere_245 : decode cX11_isOwnHere 245 = .ok (.iconst 0, 1) := by decide +kernel
theorem dX11_isOwnHere_246 : decode cX11_isOwnHere 246 = .ok (.ireturn, 1) := by decide +kernel
theorem dX11_name_0 : decode cX11_name 0 = .ok (.aload_n 0, 1) := by decide +kernel
theorem dX11_name_1 : decode cX11_name 1 = .ok (.getfield 260, 3) := by decide +kernel
theorem dX11_name_4 : decode cX11_name 4 = .ok (.ifCond .eq 5, 3) := by decide +kernel
theorem dX11_name_7 : decode cX11_name 7 = .ok (.lconst 0, 1) := by decide +kernel
theorem dX11_name_8 : decode cX11_name 8 = .ok (.lreturn, 1) := by decide +kernel
theorem dX11_name_9 : decode cX11_name 9 = .ok (.aload_n 0, 1) := by decide +kernel
theorem dX11_name_10 : decode cX11_name 10 = .ok (.invokevirtual 272, 3) := by decide +kernel
theorem dX11_name_13 : decode cX11_name 13 = .ok (.invokestatic 276, 3) := by decide +kernel
theorem dX11_name_16 : decode cX11_name 16 = .ok (.ifCond .eq 21, 3) := by decide +kernel
theorem dX11_name_19 : decode cX11_name 19 = .ok (.aload_n 0, 1) := by decide +kernel
theorem dX11_name_20 : decode cX11_name 20 = .ok (.getfield 266, 3) := by decide +kernel
theorem dX11_name_23 : decode cX11_name 23 = .ok (.aload_n 0, 1) := by decide +kernel
theorem dX11_name_24 : decode cX11_name 24 = .ok (.getfield 280, 3) := by decide +kernel
theorem dX11_name_27 : decode cX11_name 27 = .ok (.if_icmp .eq 10, 3) := by decide +kernel
theorem dX11_name_30 : decode cX11_name 30 = .ok (.aload_n 0, 1) := by decide +kernel
theorem dX11_name_31 : decode cX11_name 31 = .ok (.invokevirtual 304, 3) := by decide +kernel
theorem dX11_name_34 : decode cX11_name 34 = .ok (.ifCond .eq 14, 3) := by decide +kernel
theorem dX11_name_37 : decode cX11_name 37 = .ok (.aload_n 0, 1) := by decide +kernel
theorem dX11_name_38 : decode cX11_name 38 = .ok (.iconst 1, 1) := by decide +kernel
theorem dX11_name_39 : decode cX11_name 39 = .ok (.aload_n 0, 1) := by decide +kernel
theorem dX11_name_40 : decode cX11_name 40 = .ok (.getfield 266, 3) := by decide +kernel
theorem dX11_name_43 : decode cX11_name 43 = .ok (.invokevirtual 290, 3) := by decide +kernel
theorem dX11_name_46 : decode cX11_name 46 = .ok (.lconst 0, 1) := by decide +kernel
theorem dX11_name_47 : decode cX11_name 47 = .ok (.lreturn, 1) := by decide +kernel
theorem dX11_name_48 : decode cX11_name 48 = .ok (.aload_n 0, 1) := by decide +kernel
theorem dX11_name_49 : decode cX11_name 49 = .ok (.aload_n 0, 1) := by decide +kernel
theorem dX11_name_50 : decode cX11_name 50 = .ok (.getfield 266, 3) := by decide +kernel
theorem dX11_name_53 : decode cX11_name 53 = .ok (.putfield 308, 3) := by decide +kernel
theorem dX11_name_56 : decode cX11_name 56 = .ok (.lconst 0, 1) := by decide +kernel
theorem dX11_name_57 : decode cX11_name 57 = .ok (.lstore_n 1, 1) := by decide +kernel
theorem dX11_name_58 : decode cX11_name 58 = .ok (.aload_n 0, 1) := by decide +kernel
theorem dX11_name_59 : decode cX11_name 59 = .ok (.getfield 266, 3) := by decide +kernel
theorem dX11_name_62 : decode cX11_name 62 = .ok (.aload_n 0, 1) := by decide +kernel
theorem dX11_name_63 : decode cX11_name 63 = .ok (.getfield 269, 3) := by decide +kernel
theorem dX11_name_66 : decode cX11_name 66 = .ok (.if_icmp .ge 79, 3) := by decide +kernel
theorem dX11_name_69 : decode cX11_name 69 = .ok (.aload_n 0, 1) := by decide +kernel
theorem dX11_name_70 : decode cX11_name 70 = .ok (.getfield 7, 3) := by decide +kernel
theorem dX11_name_73 : decode cX11_name 73 = .ok (.aload_n 0, 1) := by decide +kernel
theorem dX11_name_74 : decode cX11_name 74 = .ok (.getfield 266, 3) := by decide +kernel
theorem dX11_name_77 : decode cX11_name 77 = .ok (.iaload, 1) := by decide +kernel
theorem dX11_name_78 : decode cX11_name 78 = .ok (.invokestatic 276, 3) := by decide +kernel
theorem dX11_name_81 : decode cX11_name 81 = .ok (.ifCond .eq 64, 3) := by decide +kernel
theorem dX11_name_84 : decode cX11_name 84 = .ok (.aload_n 0, 1) := by decide +kernel
theorem dX11_name_85 : decode cX11_name 85 = .ok (.getfield 266, 3) := by decide +kernel
theorem dX11_name_88 : decode cX11_name 88 = .ok (.aload_n 0, 1) := by decide +kernel
theorem dX11_name_89 : decode cX11_name 89 = .ok (.getfield 308, 3) := by decide +kernel
theorem dX11_name_92 : decode cX11_name 92 = .ok (.isub, 1) := by decide +kernel
theorem dX11_name_93 : decode cX11_name 93 = .ok (.bipush 6, 2) := by decide +kernel
theorem dX11_name_95 : decode cX11_name 95 = .ok (.if_icmp .ne 14, 3) := by decide +kernel
theorem dX11_name_98 : decode cX11_name 98 = .ok (.aload_n 0, 1) := by decide +kernel
theorem dX11_name_99 : decode cX11_name 99 = .ok (.iconst 1, 1) := by decide +kernel
theorem dX11_name_100 : decode cX11_name 100 = .ok (.aload_n 0, 1) := by decide +kernel
theorem dX11_name_101 : decode cX11_name 101 = .ok (.getfield 266, 3) := by decide +kernel
theorem dX11_name_104 : decode cX11_name 104 = .ok (.invokevirtual 290, 3) := by decide +kernel
theorem dX11_name_107 : decode cX11_name 107 = .ok (.lconst 0, 1) := by decide +kernel
theorem dX11_name_108 : decode cX11_name 108 = .ok (.lreturn, 1) := by decide +kernel
theorem dX11_name_109 : decode cX11_name 109 = .ok (.ldc2_w 311, 3) := by decide +kernel
theorem dX11_name_112 : decode cX11_name 112 = .ok (.lload_n 1, 1) := by decide +kernel
theorem dX11_name_113 : decode cX11_name 113 = .ok (.lmul, 1) := by decide +kernel
theorem dX11_name_114 : decode cX11_name 114 = .ok (.aload_n 0, 1) := by decide +kernel
theorem dX11_name_115 : decode cX11_name 115 = .ok (.getfield 7, 3) := by decide +kernel
theorem dX11_name_118 : decode cX11_name 118 = .ok (.aload_n 0, 1) := by decide +kernel
theorem dX11_name_119 : decode cX11_name 119 = .ok (.getfield 266, 3) := by decide +kernel
theorem dX11_name_122 : decode cX11_name 122 = .ok (.iaload, 1) := by decide +kernel
theorem dX11_name_123 : decode cX11_name 123 = .ok (.i2l, 1) := by decide +kernel
theorem dX11_name_124 : decode cX11_name 124 = .ok (.ladd, 1) := by decide +kernel
theorem dX11_name_125 : decode cX11_name 125 = .ok (.ldc2_w 313, 3) := by decide +kernel
theorem dX11_name_128 : decode cX11_name 128 = .ok (.lsub, 1) := by decide +kernel
theorem dX11_name_129 : decode cX11_name 129 = .ok (.lconst 1, 1) := by decide +kernel
theorem dX11_name_130 : decode cX11_name 130 = .ok (.ladd, 1) := by decide +kernel
theorem dX11_name_131 : decode cX11_name 131 = .ok (.lstore_n 1, 1) := by decide +kernel
theorem dX11_name_132 : decode cX11_name 132 = .ok (.aload_n 0, 1) := by decide +kernel
theorem dX11_name_133 : decode cX11_name 133 = .ok (.dup, 1) := by decide +kernel
theorem dX11_name_134 : decode cX11_name 134 = .ok (.getfield 266, 3) := by decide +kernel
theorem dX11_name_137 : decode cX11_name 137 = .ok (.iconst 1, 1) := by decide +kernel
theorem dX11_name_138 : decode cX11_name 138 = .ok (.iadd, 1) := by decide +kernel
theorem dX11_name_139 : decode cX11_name 139 = .ok (.putfield 266, 3) := by decide +kernel
theorem dX11_name_142 : decode cX11_name 142 = .ok (.goto (-84), 3) := by decide +kernel
theorem dX11_name_145 : decode cX11_name 145 = .ok (.aload_n 0, 1) := by decide +kernel
theorem dX11_name_146 : decode cX11_name 146 = .ok (.aload_n 0, 1) := by decide +kernel
theorem dX11_name_147 : decode cX11_name 147 = .ok (.getfield 266, 3) := by decide +kernel
theorem dX11_name_150 : decode cX11_name 150 = .ok (.putfield 280, 3) := by decide +kernel
theorem dX11_name_153 : decode cX11_name 153 = .ok (.lload_n 1, 1) := by decide +kernel
theorem dX11_name_154 : decode cX11_name 154 = .ok (.lreturn, 1) := by decide +kernel
theorem dX11_kindOf_0 : decode cX11_kindOf 0 = .ok (.iconst 0, 1) := by decide +kernel
theorem dX11_kindOf_1 : decode cX11_kindOf 1 = .ok (.istore_n 3, 1) := by decide +kernel
theorem dX11_kindOf_2 : decode cX11_kindOf 2 = .ok (.iload_n 3, 1) := by decide +kernel
theorem dX11_kindOf_3 : decode cX11_kindOf 3 = .ok (.aload_n 0, 1) := by decide +kernel
theorem dX11_kindOf_4 : decode cX11_kindOf 4 = .ok (.getfield 81, 3) := by decide +kernel
theorem dX11_kindOf_7 : decode cX11_kindOf 7 = .ok (.iconst 0, 1) := by decide +kernel
theorem dX11_kindOf_8 : decode cX11_kindOf 8 = .ok (.iaload, 1) := by decide +kernel
theorem dX11_kindOf_9 : decode cX11_kindOf 9 = .ok (.if_icmp .ge 22, 3) := by decide +kernel
theorem dX11_kindOf_12 : decode cX11_kindOf 12 = .ok (.aload_n 0, 1) := by decide +kernel
theorem dX11_kindOf_13 : decode cX11_kindOf 13 = .ok (.getfield 84, 3) := by decide +kernel
theorem dX11_kindOf_16 : decode cX11_kindOf 16 = .ok (.iload_n 3, 1) := by decide +kernel
theorem dX11_kindOf_17 : decode cX11_kindOf 17 = .ok (.laload, 1) := by decide +kernel
theorem dX11_kindOf_18 : decode cX11_kindOf 18 = .ok (.lload_n 1, 1) := by decide +kernel
theorem dX11_kindOf_19 : decode cX11_kindOf 19 = .ok (.lcmp, 1) := by decide +kernel
theorem dX11_kindOf_20 : decode cX11_kindOf 20 = .ok (.ifCond .ne 5, 3) := by decide +kernel
theorem dX11_kindOf_23 : decode cX11_kindOf 23 = .ok (.iload_n 3, 1) := by decide +kernel
theorem dX11_kindOf_24 : decode cX11_kindOf 24 = .ok (.ireturn, 1) := by decide +kernel
theorem dX11_kindOf_25 : decode cX11_kindOf 25 = .ok (.iinc 3 1, 3) := by decide +kernel
theorem dX11_kindOf_28 : decode cX11_kindOf 28 = .ok (.goto (-26), 3) := by decide +kernel
theorem dX11_kindOf_31 : decode cX11_kindOf 31 = .ok (.iconst (-1), 1) := by decide +kernel
theorem dX11_kindOf_32 : decode cX11_kindOf 32 = .ok (.ireturn, 1) := by decide +kernel
theorem dX11_kindTold_0 : decode cX11_kindTold 0 = .ok (.aload_n 0, 1) := by decide +kernel
theorem dX11_kindTold_1 : decode cX11_kindTold 1 = .ok (.invokevirtual 315, 3) := by decide +kernel
theorem dX11_kindTold_4 : decode cX11_kindTold 4 = .ok (.lstore_n 1, 1) := by decide +kernel
theorem dX11_kindTold_5 : decode cX11_kindTold 5 = .ok (.aload_n 0, 1) := by decide +kernel
theorem dX11_kindTold_6 : decode cX11_kindTold 6 = .ok (.getfield 260, 3) := by decide +kernel
theorem dX11_kindTold_9 : decode cX11_kindTold 9 = .ok (.ifCond .eq 5, 3) := by decide +kernel
theorem dX11_kindTold_12 : decode cX11_kindTold 12 = .ok (.iconst 0, 1) := by decide +kernel
theorem dX11_kindTold_13 : decode cX11_kindTold 13 = .ok (.ireturn, 1) := by decide +kernel
theorem dX11_kindTold_14 : decode cX11_kindTold 14 = .ok (.aload_n 0, 1) := by decide +kernel
theorem dX11_kindTold_15 : decode cX11_kindTold 15 = .ok (.lload_n 1, 1) := by decide +kernel
theorem dX11_kindTold_16 : decode cX11_kindTold 16 = .ok (.invokevirtual 319, 3) := by decide +kernel
theorem dX11_kindTold_19 : decode cX11_kindTold 19 = .ok (.istore_n 3, 1) := by decide +kernel
theorem dX11_kindTold_20 : decode cX11_kindTold 20 = .ok (.iload_n 3, 1) := by decide +kernel
theorem dX11_kindTold_21 : decode cX11_kindTold 21 = .ok (.iconst (-1), 1) := by decide +kernel
theorem dX11_kindTold_22 : decode cX11_kindTold 22 = .ok (.if_icmp .ne 12, 3) := by decide +kernel
theorem dX11_kindTold_25 : decode cX11_kindTold 25 = .ok (.aload_n 0, 1) := by decide +kernel
theorem dX11_kindTold_26 : decode cX11_kindTold 26 = .ok (.iconst 3, 1) := by decide +kernel
theorem dX11_kindTold_27 : decode cX11_kindTold 27 = .ok (.aload_n 0, 1) := by decide +kernel
theorem dX11_kindTold_28 : decode cX11_kindTold 28 = .ok (.getfield 308, 3) := by decide +kernel
theorem dX11_kindTold_31 : decode cX11_kindTold 31 = .ok (.invokevirtual 290, 3) := by decide +kernel
theorem dX11_kindTold_34 : decode cX11_kindTold 34 = .ok (.iload_n 3, 1) := by decide +kernel
theorem dX11_kindTold_35 : decode cX11_kindTold 35 = .ok (.iconst (-1), 1) := by decide +kernel
theorem dX11_kindTold_36 : decode cX11_kindTold 36 = .ok (.if_icmp .ne 7, 3) := by decide +kernel
theorem dX11_kindTold_39 : decode cX11_kindTold 39 = .ok (.iconst 0, 1) := by decide +kernel
theorem dX11_kindTold_40 : decode cX11_kindTold 40 = .ok (.goto 4, 3) := by decide +kernel
theorem dX11_kindTold_43 : decode cX11_kindTold 43 = .ok (.iload_n 3, 1) := by decide +kernel
theorem dX11_kindTold_44 : decode cX11_kindTold 44 = .ok (.ireturn, 1) := by decide +kernel
theorem dX11_code_0 : decode cX11_code 0 = .ok (.aload_n 0, 1) := by decide +kernel
theorem dX11_code_1 : decode cX11_code 1 = .ok (.getfield 115, 3) := by decide +kernel
theorem dX11_code_4 : decode cX11_code 4 = .ok (.iconst 0, 1) := by decide +kernel
theorem dX11_code_5 : decode cX11_code 5 = .ok (.aload_n 0, 1) := by decide +kernel
theorem dX11_code_6 : decode cX11_code 6 = .ok (.getfield 323, 3) := by decide +kernel
theorem dX11_code_9 : decode cX11_code 9 = .ok (.iadd, 1) := by decide +kernel
theorem dX11_code_10 : decode cX11_code 10 = .ok (.iload_n 1, 1) := by decide +kernel
theorem dX11_code_11 : decode cX11_code 11 = .ok (.iastore, 1) := by decide +kernel
theorem dX11_code_12 : decode cX11_code 12 = .ok (.aload_n 0, 1) := by decide +kernel
theorem dX11_code_13 : decode cX11_code 13 = .ok (.dup, 1) := by decide +kernel
theorem dX11_code_14 : decode cX11_code 14 = .ok (.getfield 323, 3) := by decide +kernel
theorem dX11_code_17 : decode cX11_code 17 = .ok (.iconst 1, 1) := by decide +kernel
theorem dX11_code_18 : decode cX11_code 18 = .ok (.iadd, 1) := by decide +kernel
theorem dX11_code_19 : decode cX11_code 19 = .ok (.putfield 323, 3) := by decide +kernel
theorem dX11_code_22 : decode cX11_code 22 = .ok (.return_, 1) := by decide +kernel
theorem dX11_opensOne_0 : decode cX11_opensOne 0 = .ok (.aload_n 0, 1) := by decide +kernel
theorem dX11_opensOne_1 : decode cX11_opensOne 1 = .ok (.getfield 326, 3) := by decide +kernel
theorem dX11_opensOne_4 : decode cX11_opensOne 4 = .ok (.bipush 6, 2) := by decide +kernel
theorem dX11_opensOne_6 : decode cX11_opensOne 6 = .ok (.if_icmp .ne 10, 3) := by decide +kernel
theorem dX11_opensOne_9 : decode cX11_opensOne 9 = .ok (.aload_n 0, 1) := by decide +kernel
theorem dX11_opensOne_10 : decode cX11_opensOne 10 = .ok (.iconst 4, 1) := by decide +kernel
theorem dX11_opensOne_11 : decode cX11_opensOne 11 = .ok (.iload_n 2, 1) := by decide +kernel
theorem dX11_opensOne_12 : decode cX11_opensOne 12 = .ok (.invokevirtual 290, 3) := by decide +kernel
theorem dX11_opensOne_15 : decode cX11_opensOne 15 = .ok (.return_, 1) := by decide +kernel
theorem dX11_opensOne_16 : decode cX11_opensOne 16 = .ok (.aload_n 0, 1) := by decide +kernel
theorem dX11_opensOne_17 : decode cX11_opensOne 17 = .ok (.dup, 1) := by decide +kernel
theorem dX11_opensOne_18 : decode cX11_opensOne 18 = .ok (.getfield 326, 3) := by decide +kernel
theorem dX11_opensOne_21 : decode cX11_opensOne 21 = .ok (.iconst 1, 1) := by decide +kernel
theorem dX11_opensOne_22 : decode cX11_opensOne 22 = .ok (.iadd, 1) := by decide +kernel
theorem dX11_opensOne_23 : decode cX11_opensOne 23 = .ok (.putfield 326, 3) := by decide +kernel
theorem dX11_opensOne_26 : decode cX11_opensOne 26 = .ok (.aload_n 0, 1) := by decide +kernel
theorem dX11_opensOne_27 : decode cX11_opensOne 27 = .ok (.getfield 118, 3) := by decide +kernel
theorem dX11_opensOne_30 : decode cX11_opensOne 30 = .ok (.aload_n 0, 1) := by decide +kernel
theorem dX11_opensOne_31 : decode cX11_opensOne 31 = .ok (.getfield 329, 3) := by decide +kernel
theorem dX11_opensOne_34 : decode cX11_opensOne 34 = .ok (.iload_n 1, 1) := by decide +kernel
theorem dX11_opensOne_35 : decode cX11_opensOne 35 = .ok (.iastore, 1) := by decide +kernel
theorem dX11_opensOne_36 : decode cX11_opensOne 36 = .ok (.aload_n 0, 1) := by decide +kernel
theorem dX11_opensOne_37 : decode cX11_opensOne 37 = .ok (.dup, 1) := by decide +kernel
theorem dX11_opensOne_38 : decode cX11_opensOne 38 = .ok (.getfield 329, 3) := by decide +kernel
theorem dX11_opensOne_41 : decode cX11_opensOne 41 = .ok (.iconst 1, 1) := by decide +kernel
theorem dX11_opensOne_42 : decode cX11_opensOne 42 = .ok (.iadd, 1) := by decide +kernel
theorem dX11_opensOne_43 : decode cX11_opensOne 43 = .ok (.putfield 329, 3) := by decide +kernel
theorem dX11_opensOne_46 : decode cX11_opensOne 46 = .ok (.return_, 1) := by decide +kernel
theorem dX11_isOn_0 : decode cX11_isOn 0 = .ok (.aload_n 0, 1) := by decide +kernel
theorem dX11_isOn_1 : decode cX11_isOn 1 = .ok (.getfield 329, 3) := by decide +kernel
theorem dX11_isOn_4 : decode cX11_isOn 4 = .ok (.ifCond .le 22, 3) := by decide +kernel
theorem dX11_isOn_7 : decode cX11_isOn 7 = .ok (.aload_n 0, 1) := by decide +kernel
theorem dX11_isOn_8 : decode cX11_isOn 8 = .ok (.getfield 118, 3) := by decide +kernel
theorem dX11_isOn_11 : decode cX11_isOn 11 = .ok (.aload_n 0, 1) := by decide +kernel
theorem dX11_isOn_12 : decode cX11_isOn 12 = .ok (.getfield 329, 3) := by decide +kernel
theorem dX11_isOn_15 : decode cX11_isOn 15 = .ok (.iconst 1, 1) := by decide +kernel
theorem dX11_isOn_16 : decode cX11_isOn 16 = .ok (.isub, 1) := by decide +kernel
theorem dX11_isOn_17 : decode cX11_isOn 17 = .ok (.iaload, 1) := by decide +kernel
theorem dX11_isOn_18 : decode cX11_isOn 18 = .ok (.iload_n 1, 1) := by decide +kernel
theorem dX11_isOn_19 : decode cX11_isOn 19 = .ok (.if_icmp .ne 7, 3) := by decide +kernel
theorem dX11_isOn_22 : decode cX11_isOn 22 = .ok (.iconst 1, 1) := by decide +kernel
theorem dX11_isOn_23 : decode cX11_isOn 23 = .ok (.goto 4, 3) := by decide +kernel
theorem dX11_isOn_26 : decode cX11_isOn 26 = .ok (.iconst 0, 1) := by decide +kernel
theorem dX11_isOn_27 : decode cX11_isOn 27 = .ok (.ireturn, 1) := by decide +kernel
theorem dX11_drops_0 : decode cX11_drops 0 = .ok (.aload_n 0, 1) := by decide +kernel
theorem dX11_drops_1 : decode cX11_drops 1 = .ok (.dup, 1) := by decide +kernel
theorem dX11_drops_2 : decode cX11_drops 2 = .ok (.getfield 329, 3) := by decide +kernel
theorem dX11_drops_5 : decode cX11_drops 5 = .ok (.iconst 1, 1) := by decide +kernel
theorem dX11_drops_6 : decode cX11_drops 6 = .ok (.isub, 1) := by decide +kernel
theorem dX11_drops_7 : decode cX11_drops 7 = .ok (.putfield 329, 3) := by decide +kernel
theorem dX11_drops_10 : decode cX11_drops 10 = .ok (.aload_n 0, 1) := by decide +kernel
theorem dX11_drops_11 : decode cX11_drops 11 = .ok (.aload_n 0, 1) := by decide +kernel
theorem dX11_drops_12 : decode cX11_drops 12 = .ok (.getfield 118, 3) := by decide +kernel
theorem dX11_drops_15 : decode cX11_drops 15 = .ok (.aload_n 0, 1) := by decide +kernel
theorem dX11_drops_16 : decode cX11_drops 16 = .ok (.getfield 329, 3) := by decide +kernel
theorem dX11_drops_19 : decode cX11_drops 19 = .ok (.iaload, 1) := by decide +kernel
theorem dX11_drops_20 : decode cX11_drops 20 = .ok (.invokevirtual 332, 3) := by decide +kernel
theorem dX11_drops_23 : decode cX11_drops 23 = .ok (.return_, 1) := by decide +kernel
theorem dX11_isMark_0 : decode cX11_isMark 0 = .ok (.iload_n 1, 1) := by decide +kernel
theorem dX11_isMark_1 : decode cX11_isMark 1 = .ok (.bipush 20, 2) := by decide +kernel
theorem dX11_isMark_3 : decode cX11_isMark 3 = .ok (.if_icmp .lt 13, 3) := by decide +kernel
theorem dX11_isMark_6 : decode cX11_isMark 6 = .ok (.iload_n 1, 1) := by decide +kernel
theorem dX11_isMark_7 : decode cX11_isMark 7 = .ok (.bipush 24, 2) := by decide +kernel
theorem dX11_isMark_9 : decode cX11_isMark 9 = .ok (.if_icmp .gt 7, 3) := by decide +kernel
theorem dX11_isMark_12 : decode cX11_isMark 12 = .ok (.iconst 1, 1) := by decide +kernel
theorem dX11_isMark_13 : decode cX11_isMark 13 = .ok (.goto 4, 3) := by decide +kernel
theorem dX11_isMark_16 : decode cX11_isMark 16 = .ok (.iconst 0, 1) := by decide +kernel
theorem dX11_isMark_17 : decode cX11_isMark 17 = .ok (.ireturn, 1) := by decide +kernel
theorem dX11_mark_0 : decode cX11_mark 0 = .ok (.aload_n 0, 1) := by decide +kernel
theorem dX11_mark_1 : decode cX11_mark 1 = .ok (.getfield 329, 3) := by decide +kernel
theorem dX11_mark_4 : decode cX11_mark 4 = .ok (.iconst 1, 1) := by decide +kernel
theorem dX11_mark_5 : decode cX11_mark 5 = .ok (.isub, 1) := by decide +kernel
theorem dX11_mark_6 : decode cX11_mark 6 = .ok (.istore_n 1, 1) := by decide +kernel
theorem dX11_mark_7 : decode cX11_mark 7 = .ok (.iload_n 1, 1) := by decide +kernel
theorem dX11_mark_8 : decode cX11_mark 8 = .ok (.aload_n 0, 1) := by decide +kernel
theorem dX11_mark_9 : decode cX11_mark 9 = .ok (.getfield 336, 3) := by decide +kernel
theorem dX11_mark_12 : decode cX11_mark 12 = .ok (.if_icmp .lt 22, 3) := by decide +kernel
theorem dX11_mark_15 : decode cX11_mark 15 = .ok (.aload_n 0, 1) := by decide +kernel
theorem dX11_mark_16 : decode cX11_mark 16 = .ok (.aload_n 0, 1) := by decide +kernel
theorem dX11_mark_17 : decode cX11_mark 17 = .ok (.getfield 118, 3) := by decide +kernel
theorem dX11_mark_20 : decode cX11_mark 20 = .ok (.iload_n 1, 1) := by decide +kernel
theorem dX11_mark_21 : decode cX11_mark 21 = .ok (.iaload, 1) := by decide +kernel
theorem dX11_mark_22 : decode cX11_mark 22 = .ok (.invokevirtual 339, 3) := by decide +kernel
theorem dX11_mark_25 : decode cX11_mark 25 = .ok (.ifCond .ne 9, 3) := by decide +kernel
theorem dX11_mark_28 : decode cX11_mark 28 = .ok (.iinc 1 (-1), 3) := by decide +kernel
theorem dX11_mark_31 : decode cX11_mark 31 = .ok (.goto (-24), 3) := by decide +kernel
theorem dX11_mark_34 : decode cX11_mark 34 = .ok (.iload_n 1, 1) := by decide +kernel
theorem dX11_mark_35 : decode cX11_mark 35 = .ok (.aload_n 0, 1) := by decide +kernel
theorem dX11_mark_36 : decode cX11_mark 36 = .ok (.getfield 336, 3) := by decide +kernel
theorem dX11_mark_39 : decode cX11_mark 39 = .ok (.if_icmp .lt 12, 3) := by decide +kernel
theorem dX11_mark_42 : decode cX11_mark 42 = .ok (.aload_n 0, 1) := by decide +kernel
theorem dX11_mark_43 : decode cX11_mark 43 = .ok (.getfield 118, 3) := by decide +kernel
theorem dX11_mark_46 : decode cX11_mark 46 = .ok (.iload_n 1, 1) := by decide +kernel
theorem dX11_mark_47 : decode cX11_mark 47 = .ok (.iaload, 1) := by decide +kernel
theorem dX11_mark_48 : decode cX11_mark 48 = .ok (.goto 4, 3) := by decide +kernel
theorem dX11_mark_51 : decode cX11_mark 51 = .ok (.iconst (-1), 1) := by decide +kernel
theorem dX11_mark_52 : decode cX11_mark 52 = .ok (.ireturn, 1) := by decide +kernel
theorem dX11_dropsToMark_0 : decode cX11_dropsToMark 0 = .ok (.aload_n 0, 1) := by decide +kernel
theorem dX11_dropsToMark_1 : decode cX11_dropsToMark 1 = .ok (.getfield 329, 3) := by decide +kernel
theorem dX11_dropsToMark_4 : decode cX11_dropsToMark 4 = .ok (.aload_n 0, 1) := by decide +kernel
theorem dX11_dropsToMark_5 : decode cX11_dropsToMark 5 = .ok (.getfield 336, 3) := by decide +kernel
theorem dX11_dropsToMark_8 : decode cX11_dropsToMark 8 = .ok (.if_icmp .le 28, 3) := by decide +kernel
theorem dX11_dropsToMark_11 : decode cX11_dropsToMark 11 = .ok (.aload_n 0, 1) := by decide +kernel
theorem dX11_dropsToMark_12 : decode cX11_dropsToMark 12 = .ok (.aload_n 0, 1) := by decide +kernel
theorem dX11_dropsToMark_13 : decode cX11_dropsToMark 13 = .ok (.getfield 118, 3) := by decide +kernel
theorem dX11_dropsToMark_16 : decode cX11_dropsToMark 16 = .ok (.aload_n 0, 1) := by decide +kernel
theorem dX11_dropsToMark_17 : decode cX11_dropsToMark 17 = .ok (.getfield 329, 3) := by decide +kernel
theorem dX11_dropsToMark_20 : decode cX11_dropsToMark 20 = .ok (.iconst 1, 1) := by decide +kernel
theorem dX11_dropsToMark_21 : decode cX11_dropsToMark 21 = .ok (.isub, 1) := by decide +kernel
theorem dX11_dropsToMark_22 : decode cX11_dropsToMark 22 = .ok (.iaload, 1) := by decide +kernel
theorem dX11_dropsToMark_23 : decode cX11_dropsToMark 23 = .ok (.invokevirtual 339, 3) := by decide +kernel
theorem dX11_dropsToMark_26 : decode cX11_dropsToMark 26 = .ok (.ifCond .ne 10, 3) := by decide +kernel
theorem dX11_dropsToMark_29 : decode cX11_dropsToMark 29 = .ok (.aload_n 0, 1) := by decide +kernel
theorem dX11_dropsToMark_30 : decode cX11_dropsToMark 30 = .ok (.invokevirtual 342, 3) := by decide +kernel
theorem dX11_dropsToMark_33 : decode cX11_dropsToMark 33 = .ok (.goto (-33), 3) := by decide +kernel
theorem dX11_dropsToMark_36 : decode cX11_dropsToMark 36 = .ok (.return_, 1) := by decide +kernel
theorem dX11_onePart_0 : decode cX11_onePart 0 = .ok (.iconst 1, 1) := by decide +kernel
theorem dX11_onePart_1 : decode cX11_onePart 1 = .ok (.istore_n 1, 1) := by decide +kernel
theorem dX11_onePart_2 : decode cX11_onePart 2 = .ok (.iload_n 1, 1) := by decide +kernel
theorem dX11_onePart_3 : decode cX11_onePart 3 = .ok (.ifCond .eq 143, 3) := by decide +kernel
theorem dX11_onePart_6 : decode cX11_onePart 6 = .ok (.aload_n 0, 1) := by decide +kernel
theorem dX11_onePart_7 : decode cX11_onePart 7 = .ok (.getfield 260, 3) := by decide +kernel
theorem dX11_onePart_10 : decode cX11_onePart 10 = .ok (.ifCond .ne 136, 3) := by decide +kernel
theorem dX11_onePart_13 : decode cX11_onePart 13 = .ok (.aload_n 0, 1) := by decide +kernel
theorem dX11_onePart_14 : decode cX11_onePart 14 = .ok (.invokevirtual 272, 3) := by decide +kernel
theorem dX11_onePart_17 : decode cX11_onePart 17 = .ok (.istore_n 2, 1) := by decide +kernel
theorem dX11_onePart_18 : decode cX11_onePart 18 = .ok (.iload_n 2, 1) := by decide +kernel
theorem dX11_onePart_19 : decode cX11_onePart 19 = .ok (.bipush 40, 2) := by decide +kernel
theorem dX11_onePart_21 : decode cX11_onePart 21 = .ok (.if_icmp .ne 26, 3) := by decide +kernel
theorem dX11_onePart_24 : decode cX11_onePart 24 = .ok (.aload_n 0, 1) := by decide +kernel
theorem dX11_onePart_25 : decode cX11_onePart 25 = .ok (.bipush 20, 2) := by decide +kernel
theorem dX11_onePart_27 : decode cX11_onePart 27 = .ok (.aload_n 0, 1) := by decide +kernel
theorem dX11_onePart_28 : decode cX11_onePart 28 = .ok (.getfield 266, 3) := by decide +kernel
theorem dX11_onePart_31 : decode cX11_onePart 31 = .ok (.invokevirtual 345, 3) := by decide +kernel
theorem dX11_onePart_34 : decode cX11_onePart 34 = .ok (.aload_n 0, 1) := by decide +kernel
theorem dX11_onePart_35 : decode cX11_onePart 35 = .ok (.dup, 1) := by decide +kernel
theorem dX11_onePart_36 : decode cX11_onePart 36 = .ok (.getfield 266, 3) := by decide +kernel
theorem dX11_onePart_39 : decode cX11_onePart 39 = .ok (.iconst 1, 1) := by decide +kernel
theorem dX11_onePart_40 : decode cX11_onePart 40 = .ok (.iadd, 1) := by decide +kernel
theorem dX11_onePart_41 : decode cX11_onePart 41 = .ok (.putfield 266, 3) := by decide +kernel
theorem dX11_onePart_44 : decode cX11_onePart 44 = .ok (.goto 99, 3) := by decide +kernel
theorem dX11_onePart_47 : decode cX11_onePart 47 = .ok (.aload_n 0, 1) := by decide +kernel
theorem dX11_onePart_48 : decode cX11_onePart 48 = .ok (.aload_n 0, 1) := by decide +kernel
theorem dX11_onePart_49 : decode cX11_onePart 49 = .ok (.getfield 75, 3) := by decide +kernel
theorem dX11_onePart_52 : decode cX11_onePart 52 = .ok (.invokevirtual 283, 3) := by decide +kernel
theorem dX11_onePart_55 : decode cX11_onePart 55 = .ok (.ifCond .ne 14, 3) := by decide +kernel
theorem dX11_onePart_58 : decode cX11_onePart 58 = .ok (.aload_n 0, 1) := by decide +kernel
theorem dX11_onePart_59 : decode cX11_onePart 59 = .ok (.aload_n 0, 1) := by decide +kernel
theorem dX11_onePart_60 : decode cX11_onePart 60 = .ok (.getfield 78, 3) := by decide +kernel
theorem dX11_onePart_63 : decode cX11_onePart 63 = .ok (.invokevirtual 283, 3) := by decide +kernel
theorem dX11_onePart_66 : decode cX11_onePart 66 = .ok (.ifCond .eq 75, 3) := by decide +kernel
theorem dX11_onePart_69 : decode cX11_onePart 69 = .ok (.aload_n 0, 1) := by decide +kernel
theorem dX11_onePart_70 : decode cX11_onePart 70 = .ok (.aload_n 0, 1) := by decide +kernel
theorem dX11_onePart_71 : decode cX11_onePart 71 = .ok (.getfield 75, 3) := by decide +kernel
theorem dX11_onePart_74 : decode cX11_onePart 74 = .ok (.invokevirtual 287, 3) := by decide +kernel
theorem dX11_onePart_77 : decode cX11_onePart 77 = .ok (.istore_n 3, 1) := by decide +kernel
theorem dX11_onePart_78 : decode cX11_onePart 78 = .ok (.iload_n 3, 1) := by decide +kernel
theorem dX11_onePart_79 : decode cX11_onePart 79 = .ok (.ifCond .ne 11, 3) := by decide +kernel
theorem dX11_onePart_82 : decode cX11_onePart 82 = .ok (.aload_n 0, 1) := by decide +kernel
theorem dX11_onePart_83 : decode cX11_onePart 83 = .ok (.aload_n 0, 1) := by decide +kernel
theorem dX11_onePart_84 : decode cX11_onePart 84 = .ok (.getfield 78, 3) := by decide +kernel
theorem dX11_onePart_87 : decode cX11_onePart 87 = .ok (.invokevirtual 348, 3) := by decide +kernel
theorem dX11_onePart_90 : decode cX11_onePart 90 = .ok (.aload_n 0, 1) := by decide +kernel
theorem dX11_onePart_91 : decode cX11_onePart 91 = .ok (.invokevirtual 272, 3) := by decide +kernel
theorem dX11_onePart_94 : decode cX11_onePart 94 = .ok (.bipush 40, 2) := by decide +kernel
theorem dX11_onePart_96 : decode cX11_onePart 96 = .ok (.if_icmp .ne 10, 3) := by decide +kernel
theorem dX11_onePart_99 : decode cX11_onePart 99 = .ok (.aload_n 0, 1) := by decide +kernel
theorem dX11_onePart_100 : decode cX11_onePart 100 = .ok (.getfield 266, 3) := by decide +kernel
theorem dX11_onePart_103 : decode cX11_onePart 103 = .ok (.goto 4, 3) := by decide +kernel
theorem dX11_onePart_106 : decode cX11_onePart 106 = .ok (.iconst (-1), 1) := by decide +kernel
theorem dX11_onePart_107 : decode cX11_onePart 107 = .ok (.istore 4, 2) := by decide +kernel
theorem dX11_onePart_109 : decode cX11_onePart 109 = .ok (.iload 4, 2) := by decide +kernel
theorem dX11_onePart_111 : decode cX11_onePart 111 = .ok (.iconst (-1), 1) := by decide +kernel
theorem dX11_onePart_112 : decode cX11_onePart 112 = .ok (.if_icmp .eq 20, 3) := by decide +kernel
theorem dX11_onePart_115 : decode cX11_onePart 115 = .ok (.aload_n 0, 1) := by decide +kernel
theorem dX11_onePart_116 : decode cX11_onePart 116 = .ok (.iload_n 3, 1) := by decide +kernel
theorem dX11_onePart_117 : decode cX11_onePart 117 = .ok (.ifCond .eq 8, 3) := by decide +kernel
theorem dX11_onePart_120 : decode cX11_onePart 120 = .ok (.bipush 21, 2) := by decide +kernel
theorem dX11_onePart_122 : decode cX11_onePart 122 = .ok (.goto 5, 3) := by decide +kernel
theorem dX11_onePart_125 : decode cX11_onePart 125 = .ok (.bipush 22, 2) := by decide +kernel
theorem dX11_onePart_127 : decode cX11_onePart 127 = .ok (.iload 4, 2) := by decide +kernel
theorem dX11_onePart_129 : decode cX11_onePart 129 = .ok (.invokevirtual 345, 3) := by decide +kernel
theorem dX11_onePart_132 : decode cX11_onePart 132 = .ok (.aload_n 0, 1) := by decide +kernel
theorem dX11_onePart_133 : decode cX11_onePart 133 = .ok (.bipush 40, 2) := by decide +kernel
theorem dX11_onePart_135 : decode cX11_onePart 135 = .ok (.invokevirtual 352, 3) := by decide +kernel
theorem dX11_onePart_138 : decode cX11_onePart 138 = .ok (.goto 5, 3) := by decide +kernel
theorem dX11_onePart_141 : decode cX11_onePart 141 = .ok (.iconst 0, 1) := by decide +kernel
theorem dX11_onePart_142 : decode cX11_onePart 142 = .ok (.istore_n 1, 1) := by decide +kernel
theorem dX11_onePart_143 : decode cX11_onePart 143 = .ok (.goto (-141), 3) := by decide +kernel
theorem dX11_onePart_146 : decode cX11_onePart 146 = .ok (.aload_n 0, 1) := by decide +kernel
theorem dX11_onePart_147 : decode cX11_onePart 147 = .ok (.getfield 260, 3) := by decide +kernel
theorem dX11_onePart_150 : decode cX11_onePart 150 = .ok (.ifCond .eq 4, 3) := by decide +kernel
theorem dX11_onePart_153 : decode cX11_onePart 153 = .ok (.return_, 1) := by decide +kernel
theorem dX11_onePart_154 : decode cX11_onePart 154 = .ok (.aload_n 0, 1) := by decide +kernel
theorem dX11_onePart_155 : decode cX11_onePart 155 = .ok (.aload_n 0, 1) := by decide +kernel
theorem dX11_onePart_156 : decode cX11_onePart 156 = .ok (.getfield 57, 3) := by decide +kernel
theorem dX11_onePart_159 : decode cX11_onePart 159 = .ok (.invokevirtual 287, 3) := by decide +kernel
theorem dX11_onePart_162 : decode cX11_onePart 162 = .ok (.ifCond .eq 8, 3) := by decide +kernel
theorem dX11_onePart_165 : decode cX11_onePart 165 = .ok (.bipush 7, 2) := by decide +kernel
theorem dX11_onePart_167 : decode cX11_onePart 167 = .ok (.goto 100, 3) := by decide +kernel
theorem dX11_onePart_170 : decode cX11_onePart 170 = .ok (.aload_n 0, 1) := by decide +kernel
theorem dX11_onePart_171 : decode cX11_onePart 171 = .ok (.aload_n 0, 1) := by decide +kernel
theorem dX11_onePart_172 : decode cX11_onePart 172 = .ok (.getfield 60, 3) := by decide +kernel
theorem dX11_onePart_175 : decode cX11_onePart 175 = .ok (.invokevirtual 287, 3) := by decide +kernel
theorem dX11_onePart_178 : decode cX11_onePart 178 = .ok (.ifCond .eq 8, 3) := by decide +kernel
theorem dX11_onePart_181 : decode cX11_onePart 181 = .ok (.bipush 8, 2) := by decide +kernel
theorem dX11_onePart_183 : decode cX11_onePart 183 = .ok (.goto 84, 3) := by decide +kernel
theorem dX11_onePart_186 : decode cX11_onePart 186 = .ok (.aload_n 0, 1) := by decide +kernel
theorem dX11_onePart_187 : decode cX11_onePart 187 = .ok (.aload_n 0, 1) := by decide +kernel
theorem dX11_onePart_188 : decode cX11_onePart 188 = .ok (.getfield 63, 3) := by decide +kernel
theorem dX11_onePart_191 : decode cX11_onePart 191 = .ok (.invokevirtual 287, 3) := by decide +kernel
theorem dX11_onePart_194 : decode cX11_onePart 194 = .ok (.ifCond .eq 8, 3) := by decide +kernel
theorem dX11_onePart_197 : decode cX11_onePart 197 = .ok (.bipush 9, 2) := by decide +kernel
theorem dX11_onePart_199 : decode cX11_onePart 199 = .ok (.goto 68, 3) := by decide +kernel
theorem dX11_onePart_202 : decode cX11_onePart 202 = .ok (.aload_n 0, 1) := by decide +kernel
theorem dX11_onePart_203 : decode cX11_onePart 203 = .ok (.aload_n 0, 1) := by decide +kernel
theorem dX11_onePart_204 : decode cX11_onePart 204 = .ok (.getfield 39, 3) := by decide +kernel
theorem dX11_onePart_207 : decode cX11_onePart 207 = .ok (.invokevirtual 287, 3) := by decide +kernel
theorem dX11_onePart_210 : decode cX11_onePart 210 = .ok (.ifCond .eq 8, 3) := by decide +kernel
theorem dX11_onePart_213 : decode cX11_onePart 213 = .ok (.bipush 10, 2) := by decide +kernel
theorem dX11_onePart_215 : decode cX11_onePart 215 = .ok (.goto 52, 3) := by decide +kernel
theorem dX11_onePart_218 : decode cX11_onePart 218 = .ok (.aload_n 0, 1) := by decide +kernel
theorem dX11_onePart_219 : decode cX11_onePart 219 = .ok (.aload_n 0, 1) := by decide +kernel
theorem dX11_onePart_220 : decode cX11_onePart 220 = .ok (.getfield 66, 3) := by decide +kernel
theorem dX11_onePart_223 : decode cX11_onePart 223 = .ok (.invokevirtual 287, 3) := by decide +kernel
theorem dX11_onePart_226 : decode cX11_onePart 226 = .ok (.ifCond .eq 8, 3) := by decide +kernel
theorem dX11_onePart_229 : decode cX11_onePart 229 = .ok (.bipush 18, 2) := by decide +kernel
theorem dX11_onePart_231 : decode cX11_onePart 231 = .ok (.goto 36, 3) := by decide +kernel
theorem dX11_onePart_234 : decode cX11_onePart 234 = .ok (.aload_n 0, 1) := by decide +kernel
theorem dX11_onePart_235 : decode cX11_onePart 235 = .ok (.aload_n 0, 1) := by decide +kernel
theorem dX11_onePart_236 : decode cX11_onePart 236 = .ok (.getfield 69, 3) := by decide +kernel
theorem dX11_onePart_239 : decode cX11_onePart 239 = .ok (.invokevirtual 287, 3) := by decide +kernel
theorem dX11_onePart_242 : decode cX11_onePart 242 = .ok (.ifCond .eq 8, 3) := by decide +kernel
theorem dX11_onePart_245 : decode cX11_onePart 245 = .ok (.bipush 30, 2) := by decide +kernel
theorem dX11_onePart_247 : decode cX11_onePart 247 = .ok (.goto 20, 3) := by decide +kernel
theorem dX11_onePart_250 : decode cX11_onePart 250 = .ok (.aload_n 0, 1) := by decide +kernel
theorem dX11_onePart_251 : decode cX11_onePart 251 = .ok (.aload_n 0, 1) := by decide +kernel
theorem dX11_onePart_252 : decode cX11_onePart 252 = .ok (.getfield 72, 3) := by decide +kernel
theorem dX11_onePart_255 : decode cX11_onePart 255 = .ok (.invokevirtual 287, 3) := by decide +kernel
theorem dX11_onePart_258 : decode cX11_onePart 258 = .ok (.ifCond .eq 8, 3) := by decide +kernel
theorem dX11_onePart_261 : decode cX11_onePart 261 = .ok (.bipush 31, 2) := by decide +kernel
theorem dX11_onePart_263 : decode cX11_onePart 263 = .ok (.goto 4, 3) := by decide +kernel
theorem dX11_onePart_266 : decode cX11_onePart 266 = .ok (.iconst (-1), 1) := by decide +kernel
theorem dX11_onePart_267 : decode cX11_onePart 267 = .ok (.istore_n 2, 1) := by decide +kernel
theorem dX11_onePart_268 : decode cX11_onePart 268 = .ok (.aload_n 0, 1) := by decide +kernel
theorem dX11_onePart_269 : decode cX11_onePart 269 = .ok (.iload_n 2, 1) := by decide +kernel
theorem dX11_onePart_270 : decode cX11_onePart 270 = .ok (.iconst (-1), 1) := by decide +kernel
theorem dX11_onePart_271 : decode cX11_onePart 271 = .ok (.if_icmp .eq 7, 3) := by decide +kernel
theorem dX11_onePart_274 : decode cX11_onePart 274 = .ok (.iload_n 2, 1) := by decide +kernel
theorem dX11_onePart_275 : decode cX11_onePart 275 = .ok (.goto 15, 3) := by decide +kernel
theorem dX11_onePart_278 : decode cX11_onePart 278 = .ok (.sipush 1000, 3) := by decide +kernel
theorem dX11_onePart_281 : decode cX11_onePart 281 = .ok (.aload_n 0, 1) := by decide +kernel
theorem dX11_onePart_282 : decode cX11_onePart 282 = .ok (.iconst 0, 1) := by decide +kernel
theorem dX11_onePart_283 : decode cX11_onePart 283 = .ok (.sipush 9999, 3) := by decide +kernel
theorem dX11_onePart_286 : decode cX11_onePart 286 = .ok (.invokevirtual 355, 3) := by decide +kernel
theorem dX11_onePart_289 : decode cX11_onePart 289 = .ok (.iadd, 1) := by decide +kernel
theorem dX11_onePart_290 : decode cX11_onePart 290 = .ok (.invokevirtual 332, 3) := by decide +kernel
theorem dX11_onePart_293 : decode cX11_onePart 293 = .ok (.return_, 1) := by decide +kernel
theorem dX11_goesOn_0 : decode cX11_goesOn 0 = .ok (.aload_n 0, 1) := by decide +kernel
theorem dX11_goesOn_1 : decode cX11_goesOn 1 = .ok (.getfield 260, 3) := by decide +kernel
theorem dX11_goesOn_4 : decode cX11_goesOn 4 = .ok (.ifCond .ne 114, 3) := by decide +kernel
theorem dX11_goesOn_7 : decode cX11_goesOn 7 = .ok (.aload_n 0, 1) := by decide +kernel
theorem dX11_goesOn_8 : decode cX11_goesOn 8 = .ok (.invokevirtual 272, 3) := by decide +kernel
theorem dX11_goesOn_11 : decode cX11_goesOn 11 = .ok (.bipush 41, 2) := by decide +kernel
theorem dX11_goesOn_13 : decode cX11_goesOn 13 = .ok (.if_icmp .ne 105, 3) := by decide +kernel
theorem dX11_goesOn_16 : decode cX11_goesOn 16 = .ok (.aload_n 0, 1) := by decide +kernel
theorem dX11_goesOn_17 : decode cX11_goesOn 17 = .ok (.invokevirtual 359, 3) := by decide +kernel
theorem dX11_goesOn_20 : decode cX11_goesOn 20 = .ok (.bipush 20, 2) := by decide +kernel
theorem dX11_goesOn_22 : decode cX11_goesOn 22 = .ok (.if_icmp .eq 21, 3) := by decide +kernel
theorem dX11_goesOn_25 : decode cX11_goesOn 25 = .ok (.aload_n 0, 1) := by decide +kernel
theorem dX11_goesOn_26 : decode cX11_goesOn 26 = .ok (.invokevirtual 359, 3) := by decide +kernel
theorem dX11_goesOn_29 : decode cX11_goesOn 29 = .ok (.bipush 23, 2) := by decide +kernel
theorem dX11_goesOn_31 : decode cX11_goesOn 31 = .ok (.if_icmp .eq 12, 3) := by decide +kernel
theorem dX11_goesOn_34 : decode cX11_goesOn 34 = .ok (.aload_n 0, 1) := by decide +kernel
theorem dX11_goesOn_35 : decode cX11_goesOn 35 = .ok (.invokevirtual 359, 3) := by decide +kernel
theorem dX11_goesOn_38 : decode cX11_goesOn 38 = .ok (.bipush 24, 2) := by decide +kernel
theorem dX11_goesOn_40 : decode cX11_goesOn 40 = .ok (.if_icmp .ne 78, 3) := by decide +kernel
theorem dX11_goesOn_43 : decode cX11_goesOn 43 = .ok (.aload_n 0, 1) := by decide +kernel
theorem dX11_goesOn_44 : decode cX11_goesOn 44 = .ok (.dup, 1) := by decide +kernel
theorem dX11_goesOn_45 : decode cX11_goesOn 45 = .ok (.getfield 266, 3) := by decide +kernel
theorem dX11_goesOn_48 : decode cX11_goesOn 48 = .ok (.iconst 1, 1) := by decide +kernel
theorem dX11_goesOn_49 : decode cX11_goesOn 49 = .ok (.iadd, 1) := by decide +kernel
theorem dX11_goesOn_50 : decode cX11_goesOn 50 = .ok (.putfield 266, 3) := by decide +kernel
theorem dX11_goesOn_53 : decode cX11_goesOn 53 = .ok (.aload_n 0, 1) := by decide +kernel
theorem dX11_goesOn_54 : decode cX11_goesOn 54 = .ok (.invokevirtual 362, 3) := by decide +kernel
theorem dX11_goesOn_57 : decode cX11_goesOn 57 = .ok (.aload_n 0, 1) := by decide +kernel
theorem dX11_goesOn_58 : decode cX11_goesOn 58 = .ok (.dup, 1) := by decide +kernel
theorem dX11_goesOn_59 : decode cX11_goesOn 59 = .ok (.getfield 329, 3) := by decide +kernel
theorem dX11_goesOn_62 : decode cX11_goesOn 62 = .ok (.iconst 1, 1) := by decide +kernel
theorem dX11_goesOn_63 : decode cX11_goesOn 63 = .ok (.isub, 1) := by decide +kernel
theorem dX11_goesOn_64 : decode cX11_goesOn 64 = .ok (.putfield 329, 3) := by decide +kernel
theorem dX11_goesOn_67 : decode cX11_goesOn 67 = .ok (.aload_n 0, 1) := by decide +kernel
theorem dX11_goesOn_68 : decode cX11_goesOn 68 = .ok (.dup, 1) := by decide +kernel
theorem dX11_goesOn_69 : decode cX11_goesOn 69 = .ok (.getfield 326, 3) := by decide +kernel
theorem dX11_goesOn_72 : decode cX11_goesOn 72 = .ok (.iconst 1, 1) := by decide +kernel
theorem dX11_goesOn_73 : decode cX11_goesOn 73 = .ok (.isub, 1) := by decide +kernel
theorem dX11_goesOn_74 : decode cX11_goesOn 74 = .ok (.putfield 326, 3) := by decide +kernel
theorem dX11_goesOn_77 : decode cX11_goesOn 77 = .ok (.aload_n 0, 1) := by decide +kernel
theorem dX11_goesOn_78 : decode cX11_goesOn 78 = .ok (.getfield 118, 3) := by decide +kernel
theorem dX11_goesOn_81 : decode cX11_goesOn 81 = .ok (.aload_n 0, 1) := by decide +kernel
