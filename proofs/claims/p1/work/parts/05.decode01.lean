theorem dX11_init_737 : decode cX11_init 737 = .ok (.putfield 139, 3) := by decide +kernel
theorem dX11_init_740 : decode cX11_init 740 = .ok (.aload_n 0, 1) := by decide +kernel
theorem dX11_init_741 : decode cX11_init 741 = .ok (.bipush 121, 2) := by decide +kernel
theorem dX11_init_743 : decode cX11_init 743 = .ok (.newarray .int, 2) := by decide +kernel
theorem dX11_init_745 : decode cX11_init 745 = .ok (.putfield 142, 3) := by decide +kernel
theorem dX11_init_748 : decode cX11_init 748 = .ok (.aload_n 0, 1) := by decide +kernel
theorem dX11_init_749 : decode cX11_init 749 = .ok (.iconst (-1), 1) := by decide +kernel
theorem dX11_init_750 : decode cX11_init 750 = .ok (.putfield 145, 3) := by decide +kernel
theorem dX11_init_753 : decode cX11_init 753 = .ok (.aload_n 0, 1) := by decide +kernel
theorem dX11_init_754 : decode cX11_init 754 = .ok (.iconst (-1), 1) := by decide +kernel
theorem dX11_init_755 : decode cX11_init 755 = .ok (.putfield 148, 3) := by decide +kernel
theorem dX11_init_758 : decode cX11_init 758 = .ok (.aload_n 0, 1) := by decide +kernel
theorem dX11_init_759 : decode cX11_init 759 = .ok (.bipush 64, 2) := by decide +kernel
theorem dX11_init_761 : decode cX11_init 761 = .ok (.newarray .int, 2) := by decide +kernel
theorem dX11_init_763 : decode cX11_init 763 = .ok (.putfield 151, 3) := by decide +kernel
theorem dX11_init_766 : decode cX11_init 766 = .ok (.aload_n 0, 1) := by decide +kernel
theorem dX11_init_767 : decode cX11_init 767 = .ok (.bipush 64, 2) := by decide +kernel
theorem dX11_init_769 : decode cX11_init 769 = .ok (.newarray .int, 2) := by decide +kernel
theorem dX11_init_771 : decode cX11_init 771 = .ok (.putfield 154, 3) := by decide +kernel
theorem dX11_init_774 : decode cX11_init 774 = .ok (.aload_n 0, 1) := by decide +kernel
theorem dX11_init_775 : decode cX11_init 775 = .ok (.bipush 64, 2) := by decide +kernel
theorem dX11_init_777 : decode cX11_init 777 = .ok (.newarray .int, 2) := by decide +kernel
theorem dX11_init_779 : decode cX11_init 779 = .ok (.putfield 157, 3) := by decide +kernel
theorem dX11_init_782 : decode cX11_init 782 = .ok (.aload_n 0, 1) := by decide +kernel
theorem dX11_init_783 : decode cX11_init 783 = .ok (.bipush 64, 2) := by decide +kernel
theorem dX11_init_785 : decode cX11_init 785 = .ok (.newarray .int, 2) := by decide +kernel
theorem dX11_init_787 : decode cX11_init 787 = .ok (.putfield 160, 3) := by decide +kernel
theorem dX11_init_790 : decode cX11_init 790 = .ok (.aload_n 0, 1) := by decide +kernel
theorem dX11_init_791 : decode cX11_init 791 = .ok (.bipush 64, 2) := by decide +kernel
theorem dX11_init_793 : decode cX11_init 793 = .ok (.newarray .int, 2) := by decide +kernel
theorem dX11_init_795 : decode cX11_init 795 = .ok (.putfield 163, 3) := by decide +kernel
theorem dX11_init_798 : decode cX11_init 798 = .ok (.aload_n 0, 1) := by decide +kernel
theorem dX11_init_799 : decode cX11_init 799 = .ok (.sipush 1200, 3) := by decide +kernel
theorem dX11_init_802 : decode cX11_init 802 = .ok (.newarray .long, 2) := by decide +kernel
theorem dX11_init_804 : decode cX11_init 804 = .ok (.putfield 166, 3) := by decide +kernel
theorem dX11_init_807 : decode cX11_init 807 = .ok (.aload_n 0, 1) := by decide +kernel
theorem dX11_init_808 : decode cX11_init 808 = .ok (.sipush 800, 3) := by decide +kernel
theorem dX11_init_811 : decode cX11_init 811 = .ok (.newarray .long, 2) := by decide +kernel
theorem dX11_init_813 : decode cX11_init 813 = .ok (.putfield 169, 3) := by decide +kernel
theorem dX11_init_816 : decode cX11_init 816 = .ok (.aload_n 0, 1) := by decide +kernel
theorem dX11_init_817 : decode cX11_init 817 = .ok (.iconst (-1), 1) := by decide +kernel
theorem dX11_init_818 : decode cX11_init 818 = .ok (.putfield 172, 3) := by decide +kernel
theorem dX11_init_821 : decode cX11_init 821 = .ok (.aload_n 0, 1) := by decide +kernel
theorem dX11_init_822 : decode cX11_init 822 = .ok (.bipush 66, 2) := by decide +kernel
theorem dX11_init_824 : decode cX11_init 824 = .ok (.newarray .long, 2) := by decide +kernel
theorem dX11_init_826 : decode cX11_init 826 = .ok (.putfield 175, 3) := by decide +kernel
theorem dX11_init_829 : decode cX11_init 829 = .ok (.aload_n 0, 1) := by decide +kernel
theorem dX11_init_830 : decode cX11_init 830 = .ok (.bipush 64, 2) := by decide +kernel
theorem dX11_init_832 : decode cX11_init 832 = .ok (.newarray .boolean, 2) := by decide +kernel
theorem dX11_init_834 : decode cX11_init 834 = .ok (.putfield 178, 3) := by decide +kernel
theorem dX11_init_837 : decode cX11_init 837 = .ok (.aload_n 0, 1) := by decide +kernel
theorem dX11_init_838 : decode cX11_init 838 = .ok (.bipush 64, 2) := by decide +kernel
theorem dX11_init_840 : decode cX11_init 840 = .ok (.newarray .int, 2) := by decide +kernel
theorem dX11_init_842 : decode cX11_init 842 = .ok (.putfield 182, 3) := by decide +kernel
theorem dX11_init_845 : decode cX11_init 845 = .ok (.aload_n 0, 1) := by decide +kernel
theorem dX11_init_846 : decode cX11_init 846 = .ok (.bipush 64, 2) := by decide +kernel
theorem dX11_init_848 : decode cX11_init 848 = .ok (.newarray .int, 2) := by decide +kernel
theorem dX11_init_850 : decode cX11_init 850 = .ok (.putfield 185, 3) := by decide +kernel
theorem dX11_init_853 : decode cX11_init 853 = .ok (.aload_n 0, 1) := by decide +kernel
theorem dX11_init_854 : decode cX11_init 854 = .ok (.bipush 64, 2) := by decide +kernel
theorem dX11_init_856 : decode cX11_init 856 = .ok (.newarray .int, 2) := by decide +kernel
theorem dX11_init_858 : decode cX11_init 858 = .ok (.putfield 188, 3) := by decide +kernel
theorem dX11_init_861 : decode cX11_init 861 = .ok (.aload_n 0, 1) := by decide +kernel
theorem dX11_init_862 : decode cX11_init 862 = .ok (.bipush 64, 2) := by decide +kernel
theorem dX11_init_864 : decode cX11_init 864 = .ok (.newarray .int, 2) := by decide +kernel
theorem dX11_init_866 : decode cX11_init 866 = .ok (.putfield 191, 3) := by decide +kernel
theorem dX11_init_869 : decode cX11_init 869 = .ok (.aload_n 0, 1) := by decide +kernel
theorem dX11_init_870 : decode cX11_init 870 = .ok (.bipush 64, 2) := by decide +kernel
theorem dX11_init_872 : decode cX11_init 872 = .ok (.newarray .int, 2) := by decide +kernel
theorem dX11_init_874 : decode cX11_init 874 = .ok (.putfield 194, 3) := by decide +kernel
theorem dX11_init_877 : decode cX11_init 877 = .ok (.aload_n 0, 1) := by decide +kernel
theorem dX11_init_878 : decode cX11_init 878 = .ok (.bipush 64, 2) := by decide +kernel
theorem dX11_init_880 : decode cX11_init 880 = .ok (.newarray .int, 2) := by decide +kernel
theorem dX11_init_882 : decode cX11_init 882 = .ok (.putfield 197, 3) := by decide +kernel
theorem dX11_init_885 : decode cX11_init 885 = .ok (.aload_n 0, 1) := by decide +kernel
theorem dX11_init_886 : decode cX11_init 886 = .ok (.bipush 64, 2) := by decide +kernel
theorem dX11_init_888 : decode cX11_init 888 = .ok (.newarray .int, 2) := by decide +kernel
theorem dX11_init_890 : decode cX11_init 890 = .ok (.putfield 200, 3) := by decide +kernel
theorem dX11_init_893 : decode cX11_init 893 = .ok (.aload_n 0, 1) := by decide +kernel
theorem dX11_init_894 : decode cX11_init 894 = .ok (.bipush 64, 2) := by decide +kernel
theorem dX11_init_896 : decode cX11_init 896 = .ok (.newarray .int, 2) := by decide +kernel
theorem dX11_init_898 : decode cX11_init 898 = .ok (.putfield 203, 3) := by decide +kernel
theorem dX11_init_901 : decode cX11_init 901 = .ok (.aload_n 0, 1) := by decide +kernel
theorem dX11_init_902 : decode cX11_init 902 = .ok (.bipush 64, 2) := by decide +kernel
theorem dX11_init_904 : decode cX11_init 904 = .ok (.newarray .int, 2) := by decide +kernel
theorem dX11_init_906 : decode cX11_init 906 = .ok (.putfield 206, 3) := by decide +kernel
theorem dX11_init_909 : decode cX11_init 909 = .ok (.aload_n 0, 1) := by decide +kernel
theorem dX11_init_910 : decode cX11_init 910 = .ok (.bipush 64, 2) := by decide +kernel
theorem dX11_init_912 : decode cX11_init 912 = .ok (.newarray .int, 2) := by decide +kernel
theorem dX11_init_914 : decode cX11_init 914 = .ok (.putfield 209, 3) := by decide +kernel
theorem dX11_init_917 : decode cX11_init 917 = .ok (.aload_n 0, 1) := by decide +kernel
theorem dX11_init_918 : decode cX11_init 918 = .ok (.iconst (-1), 1) := by decide +kernel
theorem dX11_init_919 : decode cX11_init 919 = .ok (.putfield 212, 3) := by decide +kernel
theorem dX11_init_922 : decode cX11_init 922 = .ok (.aload_n 0, 1) := by decide +kernel
theorem dX11_init_923 : decode cX11_init 923 = .ok (.bipush 64, 2) := by decide +kernel
theorem dX11_init_925 : decode cX11_init 925 = .ok (.newarray .int, 2) := by decide +kernel
theorem dX11_init_927 : decode cX11_init 927 = .ok (.putfield 215, 3) := by decide +kernel
theorem dX11_init_930 : decode cX11_init 930 = .ok (.aload_n 0, 1) := by decide +kernel
theorem dX11_init_931 : decode cX11_init 931 = .ok (.bipush 64, 2) := by decide +kernel
theorem dX11_init_933 : decode cX11_init 933 = .ok (.newarray .long, 2) := by decide +kernel
theorem dX11_init_935 : decode cX11_init 935 = .ok (.putfield 218, 3) := by decide +kernel
theorem dX11_init_938 : decode cX11_init 938 = .ok (.aload_n 0, 1) := by decide +kernel
theorem dX11_init_939 : decode cX11_init 939 = .ok (.bipush 64, 2) := by decide +kernel
theorem dX11_init_941 : decode cX11_init 941 = .ok (.newarray .int, 2) := by decide +kernel
theorem dX11_init_943 : decode cX11_init 943 = .ok (.putfield 221, 3) := by decide +kernel
theorem dX11_init_946 : decode cX11_init 946 = .ok (.aload_n 0, 1) := by decide +kernel
theorem dX11_init_947 : decode cX11_init 947 = .ok (.bipush 64, 2) := by decide +kernel
theorem dX11_init_949 : decode cX11_init 949 = .ok (.newarray .int, 2) := by decide +kernel
theorem dX11_init_951 : decode cX11_init 951 = .ok (.putfield 224, 3) := by decide +kernel
theorem dX11_init_954 : decode cX11_init 954 = .ok (.aload_n 0, 1) := by decide +kernel
theorem dX11_init_955 : decode cX11_init 955 = .ok (.iconst (-1), 1) := by decide +kernel
theorem dX11_init_956 : decode cX11_init 956 = .ok (.putfield 227, 3) := by decide +kernel
theorem dX11_init_959 : decode cX11_init 959 = .ok (.aload_n 0, 1) := by decide +kernel
theorem dX11_init_960 : decode cX11_init 960 = .ok (.bipush 8, 2) := by decide +kernel
theorem dX11_init_962 : decode cX11_init 962 = .ok (.newarray .int, 2) := by decide +kernel
theorem dX11_init_964 : decode cX11_init 964 = .ok (.putfield 230, 3) := by decide +kernel
theorem dX11_init_967 : decode cX11_init 967 = .ok (.aload_n 0, 1) := by decide +kernel
theorem dX11_init_968 : decode cX11_init 968 = .ok (.bipush 8, 2) := by decide +kernel
theorem dX11_init_970 : decode cX11_init 970 = .ok (.newarray .int, 2) := by decide +kernel
theorem dX11_init_972 : decode cX11_init 972 = .ok (.putfield 233, 3) := by decide +kernel
theorem dX11_init_975 : decode cX11_init 975 = .ok (.aload_n 0, 1) := by decide +kernel
theorem dX11_init_976 : decode cX11_init 976 = .ok (.bipush 8, 2) := by decide +kernel
theorem dX11_init_978 : decode cX11_init 978 = .ok (.newarray .int, 2) := by decide +kernel
theorem dX11_init_980 : decode cX11_init 980 = .ok (.putfield 236, 3) := by decide +kernel
theorem dX11_init_983 : decode cX11_init 983 = .ok (.aload_n 0, 1) := by decide +kernel
theorem dX11_init_984 : decode cX11_init 984 = .ok (.bipush 12, 2) := by decide +kernel
theorem dX11_init_986 : decode cX11_init 986 = .ok (.newarray .int, 2) := by decide +kernel
theorem dX11_init_988 : decode cX11_init 988 = .ok (.putfield 239, 3) := by decide +kernel
theorem dX11_init_991 : decode cX11_init 991 = .ok (.aload_n 0, 1) := by decide +kernel
theorem dX11_init_992 : decode cX11_init 992 = .ok (.bipush 12, 2) := by decide +kernel
theorem dX11_init_994 : decode cX11_init 994 = .ok (.newarray .int, 2) := by decide +kernel
theorem dX11_init_996 : decode cX11_init 996 = .ok (.putfield 242, 3) := by decide +kernel
theorem dX11_init_999 : decode cX11_init 999 = .ok (.aload_n 0, 1) := by decide +kernel
theorem dX11_init_1000 : decode cX11_init 1000 = .ok (.bipush 12, 2) := by decide +kernel
theorem dX11_init_1002 : decode cX11_init 1002 = .ok (.newarray .int, 2) := by decide +kernel
theorem dX11_init_1004 : decode cX11_init 1004 = .ok (.putfield 245, 3) := by decide +kernel
theorem dX11_init_1007 : decode cX11_init 1007 = .ok (.aload_n 0, 1) := by decide +kernel
theorem dX11_init_1008 : decode cX11_init 1008 = .ok (.bipush 8, 2) := by decide +kernel
theorem dX11_init_1010 : decode cX11_init 1010 = .ok (.newarray .int, 2) := by decide +kernel
theorem dX11_init_1012 : decode cX11_init 1012 = .ok (.putfield 248, 3) := by decide +kernel
theorem dX11_init_1015 : decode cX11_init 1015 = .ok (.aload_n 0, 1) := by decide +kernel
theorem dX11_init_1016 : decode cX11_init 1016 = .ok (.bipush 8, 2) := by decide +kernel
theorem dX11_init_1018 : decode cX11_init 1018 = .ok (.newarray .int, 2) := by decide +kernel
theorem dX11_init_1020 : decode cX11_init 1020 = .ok (.putfield 251, 3) := by decide +kernel
theorem dX11_init_1023 : decode cX11_init 1023 = .ok (.aload_n 0, 1) := by decide +kernel
theorem dX11_init_1024 : decode cX11_init 1024 = .ok (.iconst (-1), 1) := by decide +kernel
theorem dX11_init_1025 : decode cX11_init 1025 = .ok (.putfield 254, 3) := by decide +kernel
theorem dX11_init_1028 : decode cX11_init 1028 = .ok (.return_, 1) := by decide +kernel
theorem dX10_feed_0 : decode cX10_feed 0 = .ok (.aload_n 0, 1) := by decide +kernel
theorem dX10_feed_1 : decode cX10_feed 1 = .ok (.getfield 12, 3) := by decide +kernel
theorem dX10_feed_4 : decode cX10_feed 4 = .ok (.getfield 101, 3) := by decide +kernel
theorem dX10_feed_7 : decode cX10_feed 7 = .ok (.sipush 680, 3) := by decide +kernel
theorem dX10_feed_10 : decode cX10_feed 10 = .ok (.if_icmp .le 5, 3) := by decide +kernel
theorem dX10_feed_15 : decode cX10_feed 15 = .ok (.aload_n 0, 1) := by decide +kernel
theorem dX10_feed_16 : decode cX10_feed 16 = .ok (.getfield 12, 3) := by decide +kernel
theorem dX10_feed_19 : decode cX10_feed 19 = .ok (.iload_n 1, 1) := by decide +kernel
theorem dX10_feed_20 : decode cX10_feed 20 = .ok (.invokevirtual 104, 3) := by decide +kernel
theorem dX10_feed_23 : decode cX10_feed 23 = .ok (.aload_n 0, 1) := by decide +kernel
theorem dX10_feed_24 : decode cX10_feed 24 = .ok (.getfield 12, 3) := by decide +kernel
theorem dX10_feed_27 : decode cX10_feed 27 = .ok (.iload_n 2, 1) := by decide +kernel
theorem dX10_feed_28 : decode cX10_feed 28 = .ok (.invokevirtual 104, 3) := by decide +kernel
theorem dX10_feed_31 : decode cX10_feed 31 = .ok (.aload_n 0, 1) := by decide +kernel
theorem dX10_feed_32 : decode cX10_feed 32 = .ok (.getfield 12, 3) := by decide +kernel
theorem dX10_feed_35 : decode cX10_feed 35 = .ok (.iload_n 3, 1) := by decide +kernel
theorem dX10_feed_36 : decode cX10_feed 36 = .ok (.invokevirtual 104, 3) := by decide +kernel
theorem dX10_feed_39 : decode cX10_feed 39 = .ok (.aload_n 0, 1) := by decide +kernel
theorem dX10_feed_40 : decode cX10_feed 40 = .ok (.getfield 12, 3) := by decide +kernel
theorem dX10_feed_43 : decode cX10_feed 43 = .ok (.iload 4, 2) := by decide +kernel
theorem dX10_feed_45 : decode cX10_feed 45 = .ok (.invokevirtual 104, 3) := by decide +kernel
theorem dX10_feed_48 : decode cX10_feed 48 = .ok (.aload_n 0, 1) := by decide +kernel
theorem dX10_feed_49 : decode cX10_feed 49 = .ok (.getfield 12, 3) := by decide +kernel
theorem dX10_feed_52 : decode cX10_feed 52 = .ok (.iload 5, 2) := by decide +kernel
theorem dX10_feed_54 : decode cX10_feed 54 = .ok (.invokevirtual 104, 3) := by decide +kernel
theorem dX10_feed_57 : decode cX10_feed 57 = .ok (.aload_n 0, 1) := by decide +kernel
theorem dX10_feed_58 : decode cX10_feed 58 = .ok (.getfield 12, 3) := by decide +kernel
theorem dX10_feed_61 : decode cX10_feed 61 = .ok (.getfield 101, 3) := by decide +kernel
theorem dX10_feed_64 : decode cX10_feed 64 = .ok (.ireturn, 1) := by decide +kernel
theorem dX9_addFour_0 : decode cX9_addFour 0 = .ok (.bipush 24, 2) := by decide +kernel
theorem dX9_addFour_2 : decode cX9_addFour 2 = .ok (.istore_n 2, 1) := by decide +kernel
theorem dX9_addFour_3 : decode cX9_addFour 3 = .ok (.iload_n 2, 1) := by decide +kernel
theorem dX9_addFour_4 : decode cX9_addFour 4 = .ok (.ifCond .lt 42, 3) := by decide +kernel
theorem dX9_addFour_7 : decode cX9_addFour 7 = .ok (.aload_n 0, 1) := by decide +kernel
theorem dX9_addFour_8 : decode cX9_addFour 8 = .ok (.getfield 15, 3) := by decide +kernel
theorem dX9_addFour_11 : decode cX9_addFour 11 = .ok (.sipush 700, 3) := by decide +kernel
theorem dX9_addFour_14 : decode cX9_addFour 14 = .ok (.if_icmp .ge 32, 3) := by decide +kernel
theorem dX9_addFour_17 : decode cX9_addFour 17 = .ok (.aload_n 0, 1) := by decide +kernel
theorem dX9_addFour_18 : decode cX9_addFour 18 = .ok (.getfield 11, 3) := by decide +kernel
theorem dX9_addFour_21 : decode cX9_addFour 21 = .ok (.aload_n 0, 1) := by decide +kernel
theorem dX9_addFour_22 : decode cX9_addFour 22 = .ok (.getfield 15, 3) := by decide +kernel
theorem dX9_addFour_25 : decode cX9_addFour 25 = .ok (.iload_n 1, 1) := by decide +kernel
theorem dX9_addFour_26 : decode cX9_addFour 26 = .ok (.iload_n 2, 1) := by decide +kernel
theorem dX9_addFour_27 : decode cX9_addFour 27 = .ok (.iushr, 1) := by decide +kernel
theorem dX9_addFour_28 : decode cX9_addFour 28 = .ok (.i2b, 1) := by decide +kernel
theorem dX9_addFour_29 : decode cX9_addFour 29 = .ok (.bastore, 1) := by decide +kernel
theorem dX9_addFour_30 : decode cX9_addFour 30 = .ok (.aload_n 0, 1) := by decide +kernel
theorem dX9_addFour_31 : decode cX9_addFour 31 = .ok (.dup, 1) := by decide +kernel
theorem dX9_addFour_32 : decode cX9_addFour 32 = .ok (.getfield 15, 3) := by decide +kernel
theorem dX9_addFour_35 : decode cX9_addFour 35 = .ok (.iconst 1, 1) := by decide +kernel
theorem dX9_addFour_36 : decode cX9_addFour 36 = .ok (.iadd, 1) := by decide +kernel
theorem dX9_addFour_37 : decode cX9_addFour 37 = .ok (.putfield 15, 3) := by decide +kernel
theorem dX9_addFour_40 : decode cX9_addFour 40 = .ok (.iinc 2 (-8), 3) := by decide +kernel
theorem dX9_addFour_43 : decode cX9_addFour 43 = .ok (.goto (-40), 3) := by decide +kernel
theorem dX9_addFour_46 : decode cX9_addFour 46 = .ok (.return_, 1) := by decide +kernel
theorem dX10_end_0 : decode cX10_end 0 = .ok (.iload_n 1, 1) := by decide +kernel
theorem dX10_end_1 : decode cX10_end 1 = .ok (.ifCond .lt 14, 3) := by decide +kernel
theorem dX10_end_4 : decode cX10_end 4 = .ok (.iload_n 1, 1) := by decide +kernel
theorem dX10_end_5 : decode cX10_end 5 = .ok (.aload_n 0, 1) := by decide +kernel
theorem dX10_end_6 : decode cX10_end 6 = .ok (.getfield 12, 3) := by decide +kernel
theorem dX10_end_9 : decode cX10_end 9 = .ok (.getfield 101, 3) := by decide +kernel
theorem dX10_end_12 : decode cX10_end 12 = .ok (.if_icmp .le 5, 3) := by decide +kernel
theorem dX10_end_15 : decode cX10_end 15 = .ok (.iconst 0, 1) := by decide +kernel
theorem dX10_end_16 : decode cX10_end 16 = .ok (.ireturn, 1) := by decide +kernel
theorem dX10_end_17 : decode cX10_end 17 = .ok (.aload_n 0, 1) := by decide +kernel
theorem dX10_end_18 : decode cX10_end 18 = .ok (.getfield 12, 3) := by decide +kernel
theorem dX10_end_21 : decode cX10_end 21 = .ok (.iload_n 1, 1) := by decide +kernel
theorem dX10_end_22 : decode cX10_end 22 = .ok (.putfield 101, 3) := by decide +kernel
theorem dX10_end_25 : decode cX10_end 25 = .ok (.iconst 1, 1) := by decide +kernel
theorem dX10_end_26 : decode cX10_end 26 = .ok (.ireturn, 1) := by decide +kernel
theorem dX10_text_0 : decode cX10_text 0 = .ok (.iload_n 1, 1) := by decide +kernel
theorem dX10_text_1 : decode cX10_text 1 = .ok (.iconst 1, 1) := by decide +kernel
theorem dX10_text_2 : decode cX10_text 2 = .ok (.bipush 8, 2) := by decide +kernel
theorem dX10_text_4 : decode cX10_text 4 = .ok (.invokestatic 108, 3) := by decide +kernel
theorem dX10_text_7 : decode cX10_text 7 = .ok (.ifCond .eq 17, 3) := by decide +kernel
theorem dX10_text_10 : decode cX10_text 10 = .ok (.iload_n 2, 1) := by decide +kernel
theorem dX10_text_11 : decode cX10_text 11 = .ok (.iconst 1, 1) := by decide +kernel
theorem dX10_text_12 : decode cX10_text 12 = .ok (.bipush 8, 2) := by decide +kernel
theorem dX10_text_14 : decode cX10_text 14 = .ok (.invokestatic 108, 3) := by decide +kernel
theorem dX10_text_17 : decode cX10_text 17 = .ok (.ifCond .eq 7, 3) := by decide +kernel
theorem dX10_text_20 : decode cX10_text 20 = .ok (.iconst 1, 1) := by decide +kernel
theorem dX10_text_21 : decode cX10_text 21 = .ok (.goto 4, 3) := by decide +kernel
theorem dX10_text_24 : decode cX10_text 24 = .ok (.iconst 0, 1) := by decide +kernel
theorem dX10_text_25 : decode cX10_text 25 = .ok (.istore_n 3, 1) := by decide +kernel
theorem dX10_text_26 : decode cX10_text 26 = .ok (.iload_n 3, 1) := by decide +kernel
theorem dX10_text_27 : decode cX10_text 27 = .ok (.ifCond .eq 14, 3) := by decide +kernel
theorem dX10_text_30 : decode cX10_text 30 = .ok (.aload_n 0, 1) := by decide +kernel
theorem dX10_text_31 : decode cX10_text 31 = .ok (.getfield 80, 3) := by decide +kernel
theorem dX10_text_34 : decode cX10_text 34 = .ok (.aload_n 0, 1) := by decide +kernel
theorem dX10_text_35 : decode cX10_text 35 = .ok (.getfield 72, 3) := by decide +kernel
theorem dX10_text_38 : decode cX10_text 38 = .ok (.invokevirtual 112, 3) := by decide +kernel
theorem dX10_text_41 : decode cX10_text 41 = .ok (.aload_n 0, 1) := by decide +kernel
theorem dX10_text_42 : decode cX10_text 42 = .ok (.getfield 12, 3) := by decide +kernel
theorem dX10_text_45 : decode cX10_text 45 = .ok (.iconst 0, 1) := by decide +kernel
theorem dX10_text_46 : decode cX10_text 46 = .ok (.putfield 101, 3) := by decide +kernel
theorem dX10_text_49 : decode cX10_text 49 = .ok (.iload_n 3, 1) := by decide +kernel
theorem dX10_text_50 : decode cX10_text 50 = .ok (.ifCond .ne 6, 3) := by decide +kernel
theorem dX10_text_53 : decode cX10_text 53 = .ok (.bipush (-2), 2) := by decide +kernel
theorem dX10_text_55 : decode cX10_text 55 = .ok (.ireturn, 1) := by decide +kernel
theorem dX10_text_56 : decode cX10_text 56 = .ok (.aload_n 0, 1) := by decide +kernel
theorem dX10_text_57 : decode cX10_text 57 = .ok (.aload_n 0, 1) := by decide +kernel
theorem dX10_text_58 : decode cX10_text 58 = .ok (.getfield 80, 3) := by decide +kernel
theorem dX10_text_61 : decode cX10_text 61 = .ok (.getfield 116, 3) := by decide +kernel
theorem dX10_text_64 : decode cX10_text 64 = .ok (.putfield 91, 3) := by decide +kernel
theorem dX10_text_67 : decode cX10_text 67 = .ok (.aload_n 0, 1) := by decide +kernel
theorem dX10_text_68 : decode cX10_text 68 = .ok (.aload_n 0, 1) := by decide +kernel
theorem dX10_text_69 : decode cX10_text 69 = .ok (.getfield 80, 3) := by decide +kernel
theorem dX10_text_72 : decode cX10_text 72 = .ok (.getfield 117, 3) := by decide +kernel
theorem dX10_text_75 : decode cX10_text 75 = .ok (.putfield 94, 3) := by decide +kernel
theorem dX10_text_78 : decode cX10_text 78 = .ok (.aload_n 0, 1) := by decide +kernel
theorem dX10_text_79 : decode cX10_text 79 = .ok (.getfield 91, 3) := by decide +kernel
theorem dX10_text_82 : decode cX10_text 82 = .ok (.ifCond .eq 5, 3) := by decide +kernel
theorem dX10_text_87 : decode cX10_text 87 = .ok (.aload_n 0, 1) := by decide +kernel
theorem dX10_text_88 : decode cX10_text 88 = .ok (.getfield 68, 3) := by decide +kernel
theorem dX10_text_91 : decode cX10_text 91 = .ok (.astore 4, 2) := by decide +kernel
theorem dX10_text_93 : decode cX10_text 93 = .ok (.aload_n 0, 1) := by decide +kernel
theorem dX10_text_94 : decode cX10_text 94 = .ok (.aload_n 0, 1) := by decide +kernel
theorem dX10_text_95 : decode cX10_text 95 = .ok (.getfield 72, 3) := by decide +kernel
theorem dX10_text_98 : decode cX10_text 98 = .ok (.putfield 68, 3) := by decide +kernel
theorem dX10_text_101 : decode cX10_text 101 = .ok (.aload_n 0, 1) := by decide +kernel
theorem dX10_text_102 : decode cX10_text 102 = .ok (.aload 4, 2) := by decide +kernel
theorem dX10_text_104 : decode cX10_text 104 = .ok (.putfield 72, 3) := by decide +kernel
theorem dX10_text_107 : decode cX10_text 107 = .ok (.aload_n 0, 1) := by decide +kernel
theorem dX10_text_108 : decode cX10_text 108 = .ok (.iload_n 1, 1) := by decide +kernel
theorem dX10_text_109 : decode cX10_text 109 = .ok (.iload_n 2, 1) := by decide +kernel
theorem dX10_text_110 : decode cX10_text 110 = .ok (.invokevirtual 120, 3) := by decide +kernel
theorem dX10_text_113 : decode cX10_text 113 = .ok (.aload_n 0, 1) := by decide +kernel
theorem dX10_text_114 : decode cX10_text 114 = .ok (.getfield 68, 3) := by decide +kernel
theorem dX10_text_117 : decode cX10_text 117 = .ok (.getfield 123, 3) := by decide +kernel
theorem dX10_text_120 : decode cX10_text 120 = .ok (.ireturn, 1) := by decide +kernel
theorem dX10_within_0 : decode cX10_within 0 = .ok (.iload_n 0, 1) := by decide +kernel
theorem dX10_within_1 : decode cX10_within 1 = .ok (.iload_n 1, 1) := by decide +kernel
theorem dX10_within_2 : decode cX10_within 2 = .ok (.if_icmp .lt 12, 3) := by decide +kernel
theorem dX10_within_5 : decode cX10_within 5 = .ok (.iload_n 0, 1) := by decide +kernel
theorem dX10_within_6 : decode cX10_within 6 = .ok (.iload_n 2, 1) := by decide +kernel
theorem dX10_within_7 : decode cX10_within 7 = .ok (.if_icmp .gt 7, 3) := by decide +kernel
theorem dX10_within_10 : decode cX10_within 10 = .ok (.iconst 1, 1) := by decide +kernel
theorem dX10_within_11 : decode cX10_within 11 = .ok (.goto 4, 3) := by decide +kernel
theorem dX10_within_14 : decode cX10_within 14 = .ok (.iconst 0, 1) := by decide +kernel
theorem dX10_within_15 : decode cX10_within 15 = .ok (.ireturn, 1) := by decide +kernel
theorem dX7_read_0 : decode cX7_read 0 = .ok (.aload_n 0, 1) := by decide +kernel
theorem dX7_read_1 : decode cX7_read 1 = .ok (.aload_n 1, 1) := by decide +kernel
theorem dX7_read_2 : decode cX7_read 2 = .ok (.putfield 22, 3) := by decide +kernel
theorem dX7_read_5 : decode cX7_read 5 = .ok (.aload_n 0, 1) := by decide +kernel
theorem dX7_read_6 : decode cX7_read 6 = .ok (.getfield 22, 3) := by decide +kernel
theorem dX7_read_9 : decode cX7_read 9 = .ok (.invokevirtual 26, 3) := by decide +kernel
theorem dX7_read_12 : decode cX7_read 12 = .ok (.aload_n 0, 1) := by decide +kernel
theorem dX7_read_13 : decode cX7_read 13 = .ok (.iconst 0, 1) := by decide +kernel
theorem dX7_read_14 : decode cX7_read 14 = .ok (.putfield 9, 3) := by decide +kernel
theorem dX7_read_17 : decode cX7_read 17 = .ok (.aload_n 0, 1) := by decide +kernel
theorem dX7_read_18 : decode cX7_read 18 = .ok (.iconst (-1), 1) := by decide +kernel
theorem dX7_read_19 : decode cX7_read 19 = .ok (.putfield 15, 3) := by decide +kernel
theorem dX7_read_22 : decode cX7_read 22 = .ok (.aload_n 0, 1) := by decide +kernel
theorem dX7_read_23 : decode cX7_read 23 = .ok (.iconst 3, 1) := by decide +kernel
theorem dX7_read_24 : decode cX7_read 24 = .ok (.putfield 31, 3) := by decide +kernel
theorem dX7_read_27 : decode cX7_read 27 = .ok (.aload_n 0, 1) := by decide +kernel
theorem dX7_read_28 : decode cX7_read 28 = .ok (.iconst 0, 1) := by decide +kernel
theorem dX7_read_29 : decode cX7_read 29 = .ok (.putfield 34, 3) := by decide +kernel
theorem dX7_read_32 : decode cX7_read 32 = .ok (.aload_n 0, 1) := by decide +kernel
theorem dX7_read_33 : decode cX7_read 33 = .ok (.invokevirtual 37, 3) := by decide +kernel
theorem dX7_read_36 : decode cX7_read 36 = .ok (.iconst 0, 1) := by decide +kernel
theorem dX7_read_37 : decode cX7_read 37 = .ok (.istore_n 2, 1) := by decide +kernel
theorem dX7_read_38 : decode cX7_read 38 = .ok (.iload_n 2, 1) := by decide +kernel
theorem dX7_read_39 : decode cX7_read 39 = .ok (.bipush 24, 2) := by decide +kernel
theorem dX7_read_41 : decode cX7_read 41 = .ok (.if_icmp .gt 89, 3) := by decide +kernel
theorem dX7_read_44 : decode cX7_read 44 = .ok (.aload_n 0, 1) := by decide +kernel
theorem dX7_read_45 : decode cX7_read 45 = .ok (.getfield 9, 3) := by decide +kernel
theorem dX7_read_48 : decode cX7_read 48 = .ok (.ifCond .ne 82, 3) := by decide +kernel
theorem dX7_read_51 : decode cX7_read 51 = .ok (.aload_n 0, 1) := by decide +kernel
theorem dX7_read_52 : decode cX7_read 52 = .ok (.getfield 31, 3) := by decide +kernel
theorem dX7_read_55 : decode cX7_read 55 = .ok (.ifCond .eq 75, 3) := by decide +kernel
theorem dX7_read_130 : decode cX7_read 130 = .ok (.return_, 1) := by decide +kernel
theorem dX8_empty_0 : decode cX8_empty 0 = .ok (.aload_n 0, 1) := by decide +kernel
theorem dX8_empty_1 : decode cX8_empty 1 = .ok (.iconst 0, 1) := by decide +kernel
theorem dX8_empty_2 : decode cX8_empty 2 = .ok (.putfield 42, 3) := by decide +kernel
theorem dX8_empty_5 : decode cX8_empty 5 = .ok (.aload_n 0, 1) := by decide +kernel
theorem dX8_empty_6 : decode cX8_empty 6 = .ok (.iconst 0, 1) := by decide +kernel
theorem dX8_empty_7 : decode cX8_empty 7 = .ok (.putfield 46, 3) := by decide +kernel
theorem dX8_empty_10 : decode cX8_empty 10 = .ok (.aload_n 0, 1) := by decide +kernel
theorem dX8_empty_11 : decode cX8_empty 11 = .ok (.iconst 0, 1) := by decide +kernel
theorem dX8_empty_12 : decode cX8_empty 12 = .ok (.putfield 49, 3) := by decide +kernel
theorem dX8_empty_15 : decode cX8_empty 15 = .ok (.aload_n 0, 1) := by decide +kernel
theorem dX8_empty_16 : decode cX8_empty 16 = .ok (.iconst 0, 1) := by decide +kernel
theorem dX8_empty_17 : decode cX8_empty 17 = .ok (.putfield 52, 3) := by decide +kernel
theorem dX8_empty_20 : decode cX8_empty 20 = .ok (.return_, 1) := by decide +kernel
theorem dX7_next_0 : decode cX7_next 0 = .ok (.aload_n 0, 1) := by decide +kernel
theorem dX7_next_1 : decode cX7_next 1 = .ok (.getfield 9, 3) := by decide +kernel
theorem dX7_next_4 : decode cX7_next 4 = .ok (.ifCond .eq 4, 3) := by decide +kernel
theorem dX7_next_8 : decode cX7_next 8 = .ok (.aload_n 0, 1) := by decide +kernel
theorem dX7_next_9 : decode cX7_next 9 = .ok (.getfield 31, 3) := by decide +kernel
theorem dX7_next_12 : decode cX7_next 12 = .ok (.iconst 1, 1) := by decide +kernel
theorem dX7_next_13 : decode cX7_next 13 = .ok (.if_icmp .eq 11, 3) := by decide +kernel
theorem dX7_next_16 : decode cX7_next 16 = .ok (.aload_n 0, 1) := by decide +kernel
theorem dX7_next_17 : decode cX7_next 17 = .ok (.getfield 31, 3) := by decide +kernel
theorem dX7_next_20 : decode cX7_next 20 = .ok (.iconst 2, 1) := by decide +kernel
theorem dX7_next_21 : decode cX7_next 21 = .ok (.if_icmp .ne 7, 3) := by decide +kernel
theorem dX7_next_28 : decode cX7_next 28 = .ok (.iconst 0, 1) := by decide +kernel
theorem dX7_next_29 : decode cX7_next 29 = .ok (.istore_n 1, 1) := by decide +kernel
theorem dX7_next_30 : decode cX7_next 30 = .ok (.aload_n 0, 1) := by decide +kernel
theorem dX7_next_31 : decode cX7_next 31 = .ok (.getfield 34, 3) := by decide +kernel
theorem dX7_next_34 : decode cX7_next 34 = .ok (.istore_n 2, 1) := by decide +kernel
theorem dX7_next_35 : decode cX7_next 35 = .ok (.aload_n 0, 1) := by decide +kernel
theorem dX7_next_36 : decode cX7_next 36 = .ok (.iload_n 2, 1) := by decide +kernel
theorem dX7_next_37 : decode cX7_next 37 = .ok (.putfield 40, 3) := by decide +kernel
theorem dX7_next_40 : decode cX7_next 40 = .ok (.aload_n 0, 1) := by decide +kernel
theorem dX7_next_41 : decode cX7_next 41 = .ok (.getfield 40, 3) := by decide +kernel
theorem dX7_next_44 : decode cX7_next 44 = .ok (.aload_n 0, 1) := by decide +kernel
theorem dX7_next_45 : decode cX7_next 45 = .ok (.getfield 18, 3) := by decide +kernel
theorem dX7_next_48 : decode cX7_next 48 = .ok (.getfield 166, 3) := by decide +kernel
theorem dX7_next_51 : decode cX7_next 51 = .ok (.if_icmp .ge 33, 3) := by decide +kernel
theorem dX7_next_84 : decode cX7_next 84 = .ok (.aload_n 0, 1) := by decide +kernel
theorem dX7_next_85 : decode cX7_next 85 = .ok (.getfield 18, 3) := by decide +kernel
theorem dX7_next_88 : decode cX7_next 88 = .ok (.aload_n 0, 1) := by decide +kernel
theorem dX7_next_89 : decode cX7_next 89 = .ok (.getfield 40, 3) := by decide +kernel
theorem dX7_next_92 : decode cX7_next 92 = .ok (.invokevirtual 161, 3) := by decide +kernel
theorem dX7_next_95 : decode cX7_next 95 = .ok (.istore_n 3, 1) := by decide +kernel
theorem dX7_next_96 : decode cX7_next 96 = .ok (.aload_n 0, 1) := by decide +kernel
theorem dX7_next_97 : decode cX7_next 97 = .ok (.aload_n 0, 1) := by decide +kernel
theorem dX7_next_98 : decode cX7_next 98 = .ok (.getfield 40, 3) := by decide +kernel
theorem dX7_next_101 : decode cX7_next 101 = .ok (.iconst 1, 1) := by decide +kernel
theorem dX7_next_102 : decode cX7_next 102 = .ok (.iadd, 1) := by decide +kernel
theorem dX7_next_103 : decode cX7_next 103 = .ok (.putfield 34, 3) := by decide +kernel
theorem dX7_next_106 : decode cX7_next 106 = .ok (.iload_n 3, 1) := by decide +kernel
theorem dX7_next_107 : decode cX7_next 107 = .ok (.iconst (-1), 1) := by decide +kernel
theorem dX7_next_108 : decode cX7_next 108 = .ok (.if_icmp .ne 19, 3) := by decide +kernel
theorem dX7_next_111 : decode cX7_next 111 = .ok (.aload_n 0, 1) := by decide +kernel
theorem dX7_next_112 : decode cX7_next 112 = .ok (.iconst 0, 1) := by decide +kernel
theorem dX7_next_113 : decode cX7_next 113 = .ok (.putfield 31, 3) := by decide +kernel
theorem dX7_next_116 : decode cX7_next 116 = .ok (.aload_n 0, 1) := by decide +kernel
theorem dX7_next_117 : decode cX7_next 117 = .ok (.aload_n 0, 1) := by decide +kernel
theorem dX7_next_118 : decode cX7_next 118 = .ok (.getfield 40, 3) := by decide +kernel
theorem dX7_next_121 : decode cX7_next 121 = .ok (.putfield 34, 3) := by decide +kernel
theorem dX7_next_124 : decode cX7_next 124 = .ok (.goto 139, 3) := by decide +kernel
theorem dX7_next_263 : decode cX7_next 263 = .ok (.iload_n 1, 1) := by decide +kernel
theorem dX7_next_264 : decode cX7_next 264 = .ok (.ifCond .eq 32, 3) := by decide +kernel
theorem dX7_next_296 : decode cX7_next 296 = .ok (.return_, 1) := by decide +kernel
theorem dX9_byteAt_0 : decode cX9_byteAt 0 = .ok (.iload_n 1, 1) := by decide +kernel
theorem dX9_byteAt_1 : decode cX9_byteAt 1 = .ok (.ifCond .lt 24, 3) := by decide +kernel
theorem dX9_byteAt_4 : decode cX9_byteAt 4 = .ok (.iload_n 1, 1) := by decide +kernel
theorem dX9_byteAt_5 : decode cX9_byteAt 5 = .ok (.aload_n 0, 1) := by decide +kernel
theorem dX9_byteAt_6 : decode cX9_byteAt 6 = .ok (.getfield 15, 3) := by decide +kernel
theorem dX9_byteAt_9 : decode cX9_byteAt 9 = .ok (.if_icmp .ge 16, 3) := by decide +kernel
theorem dX9_byteAt_25 : decode cX9_byteAt 25 = .ok (.iconst (-1), 1) := by decide +kernel
theorem dX9_byteAt_26 : decode cX9_byteAt 26 = .ok (.ireturn, 1) := by decide +kernel
theorem dX10_beginBoard_0 : decode cX10_beginBoard 0 = .ok (.aload_n 0, 1) := by decide +kernel
theorem dX10_beginBoard_1 : decode cX10_beginBoard 1 = .ok (.iload_n 1, 1) := by decide +kernel
theorem dX10_beginBoard_2 : decode cX10_beginBoard 2 = .ok (.iload_n 2, 1) := by decide +kernel
theorem dX10_beginBoard_3 : decode cX10_beginBoard 3 = .ok (.imul, 1) := by decide +kernel
theorem dX10_beginBoard_4 : decode cX10_beginBoard 4 = .ok (.putfield 84, 3) := by decide +kernel
theorem dX10_beginBoard_7 : decode cX10_beginBoard 7 = .ok (.aload_n 0, 1) := by decide +kernel
theorem dX10_beginBoard_8 : decode cX10_beginBoard 8 = .ok (.iconst (-1), 1) := by decide +kernel
theorem dX10_beginBoard_9 : decode cX10_beginBoard 9 = .ok (.putfield 88, 3) := by decide +kernel
theorem dX10_beginBoard_12 : decode cX10_beginBoard 12 = .ok (.aload_n 0, 1) := by decide +kernel
theorem dX10_beginBoard_13 : decode cX10_beginBoard 13 = .ok (.getfield 19, 3) := by decide +kernel
theorem dX10_beginBoard_16 : decode cX10_beginBoard 16 = .ok (.iconst 0, 1) := by decide +kernel
theorem dX10_beginBoard_17 : decode cX10_beginBoard 17 = .ok (.putfield 126, 3) := by decide +kernel
theorem dX10_beginBoard_20 : decode cX10_beginBoard 20 = .ok (.aload_n 0, 1) := by decide +kernel
theorem dX10_beginBoard_21 : decode cX10_beginBoard 21 = .ok (.getfield 26, 3) := by decide +kernel
theorem dX10_beginBoard_24 : decode cX10_beginBoard 24 = .ok (.iload_n 1, 1) := by decide +kernel
theorem dX10_beginBoard_25 : decode cX10_beginBoard 25 = .ok (.iload_n 2, 1) := by decide +kernel
theorem dX10_beginBoard_26 : decode cX10_beginBoard 26 = .ok (.invokevirtual 97, 3) := by decide +kernel
theorem dX10_beginBoard_29 : decode cX10_beginBoard 29 = .ok (.aload_n 0, 1) := by decide +kernel
theorem dX10_beginBoard_30 : decode cX10_beginBoard 30 = .ok (.getfield 33, 3) := by decide +kernel
theorem dX10_beginBoard_33 : decode cX10_beginBoard 33 = .ok (.iconst 0, 1) := by decide +kernel
theorem dX10_beginBoard_34 : decode cX10_beginBoard 34 = .ok (.putfield 129, 3) := by decide +kernel
theorem dX10_beginBoard_37 : decode cX10_beginBoard 37 = .ok (.aload_n 0, 1) := by decide +kernel
theorem dX10_beginBoard_38 : decode cX10_beginBoard 38 = .ok (.getfield 40, 3) := by decide +kernel
theorem dX10_beginBoard_41 : decode cX10_beginBoard 41 = .ok (.iconst 0, 1) := by decide +kernel
theorem dX10_beginBoard_42 : decode cX10_beginBoard 42 = .ok (.putfield 133, 3) := by decide +kernel
theorem dX10_beginBoard_45 : decode cX10_beginBoard 45 = .ok (.aload_n 0, 1) := by decide +kernel
theorem dX10_beginBoard_46 : decode cX10_beginBoard 46 = .ok (.getfield 47, 3) := by decide +kernel
theorem dX10_beginBoard_49 : decode cX10_beginBoard 49 = .ok (.iconst 0, 1) := by decide +kernel
theorem dX10_beginBoard_50 : decode cX10_beginBoard 50 = .ok (.putfield 134, 3) := by decide +kernel
theorem dX10_beginBoard_53 : decode cX10_beginBoard 53 = .ok (.aload_n 0, 1) := by decide +kernel
theorem dX10_beginBoard_54 : decode cX10_beginBoard 54 = .ok (.getfield 54, 3) := by decide +kernel
theorem dX10_beginBoard_57 : decode cX10_beginBoard 57 = .ok (.iconst 0, 1) := by decide +kernel
theorem dX10_beginBoard_58 : decode cX10_beginBoard 58 = .ok (.putfield 135, 3) := by decide +kernel
theorem dX10_beginBoard_61 : decode cX10_beginBoard 61 = .ok (.return_, 1) := by decide +kernel
theorem dX10_fault_0 : decode cX10_fault 0 = .ok (.iload_n 1, 1) := by decide +kernel
theorem dX10_fault_1 : decode cX10_fault 1 = .ok (.ifCond .ne 8, 3) := by decide +kernel
theorem dX10_fault_4 : decode cX10_fault 4 = .ok (.aload_n 0, 1) := by decide +kernel
theorem dX10_fault_5 : decode cX10_fault 5 = .ok (.getfield 91, 3) := by decide +kernel
theorem dX10_fault_8 : decode cX10_fault 8 = .ok (.ireturn, 1) := by decide +kernel
theorem dX10_fault_9 : decode cX10_fault 9 = .ok (.iload_n 1, 1) := by decide +kernel
theorem dX10_fault_10 : decode cX10_fault 10 = .ok (.iconst 1, 1) := by decide +kernel
theorem dX10_fault_11 : decode cX10_fault 11 = .ok (.if_icmp .ne 10, 3) := by decide +kernel
theorem dX10_fault_14 : decode cX10_fault 14 = .ok (.aload_n 0, 1) := by decide +kernel
theorem dX10_fault_15 : decode cX10_fault 15 = .ok (.getfield 94, 3) := by decide +kernel
theorem dX10_fault_18 : decode cX10_fault 18 = .ok (.goto 4, 3) := by decide +kernel
theorem dX10_fault_21 : decode cX10_fault 21 = .ok (.iconst (-1), 1) := by decide +kernel
theorem dX10_fault_22 : decode cX10_fault 22 = .ok (.ireturn, 1) := by decide +kernel
theorem dX10_kind_0 : decode cX10_kind 0 = .ok (.iload_n 1, 1) := by decide +kernel
theorem dX10_kind_1 : decode cX10_kind 1 = .ok (.iconst 0, 1) := by decide +kernel
theorem dX10_kind_2 : decode cX10_kind 2 = .ok (.aload_n 0, 1) := by decide +kernel
theorem dX10_kind_3 : decode cX10_kind 3 = .ok (.getfield 68, 3) := by decide +kernel
theorem dX10_kind_6 : decode cX10_kind 6 = .ok (.getfield 136, 3) := by decide +kernel
theorem dX10_kind_9 : decode cX10_kind 9 = .ok (.iconst 1, 1) := by decide +kernel
theorem dX10_kind_10 : decode cX10_kind 10 = .ok (.isub, 1) := by decide +kernel
theorem dX10_kind_11 : decode cX10_kind 11 = .ok (.invokestatic 108, 3) := by decide +kernel
theorem dX10_kind_14 : decode cX10_kind 14 = .ok (.ifCond .eq 12, 3) := by decide +kernel
theorem dX10_kind_26 : decode cX10_kind 26 = .ok (.iconst (-1), 1) := by decide +kernel
theorem dX10_kind_27 : decode cX10_kind 27 = .ok (.ireturn, 1) := by decide +kernel
theorem dX10_hook_0 : decode cX10_hook 0 = .ok (.aload_n 0, 1) := by decide +kernel
theorem dX10_hook_1 : decode cX10_hook 1 = .ok (.iload_n 1, 1) := by decide +kernel
theorem dX10_hook_2 : decode cX10_hook 2 = .ok (.invokevirtual 143, 3) := by decide +kernel
theorem dX10_hook_5 : decode cX10_hook 5 = .ok (.ifCond .eq 30, 3) := by decide +kernel
theorem dX10_hook_8 : decode cX10_hook 8 = .ok (.iload_n 2, 1) := by decide +kernel
theorem dX10_hook_9 : decode cX10_hook 9 = .ok (.iconst 0, 1) := by decide +kernel
theorem dX10_hook_10 : decode cX10_hook 10 = .ok (.aload_n 0, 1) := by decide +kernel
theorem dX10_hook_11 : decode cX10_hook 11 = .ok (.getfield 68, 3) := by decide +kernel
theorem dX10_hook_14 : decode cX10_hook 14 = .ok (.getfield 136, 3) := by decide +kernel
theorem dX10_hook_17 : decode cX10_hook 17 = .ok (.iconst 1, 1) := by decide +kernel
theorem dX10_hook_18 : decode cX10_hook 18 = .ok (.isub, 1) := by decide +kernel
theorem dX10_hook_19 : decode cX10_hook 19 = .ok (.invokestatic 108, 3) := by decide +kernel
theorem dX10_hook_22 : decode cX10_hook 22 = .ok (.ifCond .eq 13, 3) := by decide +kernel
theorem dX10_hook_35 : decode cX10_hook 35 = .ok (.iconst (-1), 1) := by decide +kernel
theorem dX10_hook_36 : decode cX10_hook 36 = .ok (.ireturn, 1) := by decide +kernel
theorem dX10_isCell_0 : decode cX10_isCell 0 = .ok (.iload_n 1, 1) := by decide +kernel
theorem dX10_isCell_1 : decode cX10_isCell 1 = .ok (.iconst 0, 1) := by decide +kernel
theorem dX10_isCell_2 : decode cX10_isCell 2 = .ok (.aload_n 0, 1) := by decide +kernel
theorem dX10_isCell_3 : decode cX10_isCell 3 = .ok (.getfield 84, 3) := by decide +kernel
theorem dX10_isCell_6 : decode cX10_isCell 6 = .ok (.iconst 1, 1) := by decide +kernel
theorem dX10_isCell_7 : decode cX10_isCell 7 = .ok (.isub, 1) := by decide +kernel
theorem dX10_isCell_8 : decode cX10_isCell 8 = .ok (.invokestatic 108, 3) := by decide +kernel
theorem dX10_isCell_11 : decode cX10_isCell 11 = .ok (.ireturn, 1) := by decide +kernel
theorem dX10_loops_0 : decode cX10_loops 0 = .ok (.aload_n 0, 1) := by decide +kernel
theorem dX10_loops_1 : decode cX10_loops 1 = .ok (.iload_n 1, 1) := by decide +kernel
theorem dX10_loops_2 : decode cX10_loops 2 = .ok (.invokevirtual 143, 3) := by decide +kernel
theorem dX10_loops_5 : decode cX10_loops 5 = .ok (.ifCond .eq 13, 3) := by decide +kernel
theorem dX10_loops_8 : decode cX10_loops 8 = .ok (.iload_n 2, 1) := by decide +kernel
theorem dX10_loops_9 : decode cX10_loops 9 = .ok (.iconst 0, 1) := by decide +kernel
theorem dX10_loops_10 : decode cX10_loops 10 = .ok (.bipush 9, 2) := by decide +kernel
theorem dX10_loops_12 : decode cX10_loops 12 = .ok (.invokestatic 108, 3) := by decide +kernel
theorem dX10_loops_15 : decode cX10_loops 15 = .ok (.ifCond .ne 5, 3) := by decide +kernel
theorem dX10_loops_18 : decode cX10_loops 18 = .ok (.iconst (-1), 1) := by decide +kernel
theorem dX10_loops_19 : decode cX10_loops 19 = .ok (.ireturn, 1) := by decide +kernel
theorem dX10_loops_20 : decode cX10_loops 20 = .ok (.aload_n 0, 1) := by decide +kernel
theorem dX10_loops_21 : decode cX10_loops 21 = .ok (.getfield 19, 3) := by decide +kernel
theorem dX10_loops_24 : decode cX10_loops 24 = .ok (.iconst 1, 1) := by decide +kernel
theorem dX10_loops_25 : decode cX10_loops 25 = .ok (.iload_n 1, 1) := by decide +kernel
theorem dX10_loops_26 : decode cX10_loops 26 = .ok (.iload_n 2, 1) := by decide +kernel
theorem dX10_loops_27 : decode cX10_loops 27 = .ok (.iconst 0, 1) := by decide +kernel
theorem dX10_loops_28 : decode cX10_loops 28 = .ok (.iconst 0, 1) := by decide +kernel
theorem dX10_loops_29 : decode cX10_loops 29 = .ok (.invokevirtual 147, 3) := by decide +kernel
theorem dX10_loops_32 : decode cX10_loops 32 = .ok (.ireturn, 1) := by decide +kernel
theorem dX0_add_0 : decode cX0_add 0 = .ok (.aload_n 0, 1) := by decide +kernel
theorem dX0_add_1 : decode cX0_add 1 = .ok (.getfield 30, 3) := by decide +kernel
theorem dX0_add_4 : decode cX0_add 4 = .ok (.bipush 120, 2) := by decide +kernel
theorem dX0_add_6 : decode cX0_add 6 = .ok (.if_icmp .lt 5, 3) := by decide +kernel
theorem dX0_add_11 : decode cX0_add 11 = .ok (.aload_n 0, 1) := by decide +kernel
theorem dX0_add_12 : decode cX0_add 12 = .ok (.dup, 1) := by decide +kernel
theorem dX0_add_13 : decode cX0_add 13 = .ok (.getfield 30, 3) := by decide +kernel
theorem dX0_add_16 : decode cX0_add 16 = .ok (.iconst 1, 1) := by decide +kernel
theorem dX0_add_17 : decode cX0_add 17 = .ok (.iadd, 1) := by decide +kernel
theorem dX0_add_18 : decode cX0_add 18 = .ok (.putfield 30, 3) := by decide +kernel
theorem dX0_add_21 : decode cX0_add 21 = .ok (.aload_n 0, 1) := by decide +kernel
theorem dX0_add_22 : decode cX0_add 22 = .ok (.getfield 11, 3) := by decide +kernel
theorem dX0_add_25 : decode cX0_add 25 = .ok (.aload_n 0, 1) := by decide +kernel
theorem dX0_add_26 : decode cX0_add 26 = .ok (.getfield 30, 3) := by decide +kernel
theorem dX0_add_29 : decode cX0_add 29 = .ok (.iload_n 1, 1) := by decide +kernel
theorem dX0_add_30 : decode cX0_add 30 = .ok (.iastore, 1) := by decide +kernel
theorem dX0_add_31 : decode cX0_add 31 = .ok (.aload_n 0, 1) := by decide +kernel
theorem dX0_add_32 : decode cX0_add 32 = .ok (.getfield 15, 3) := by decide +kernel
theorem dX0_add_35 : decode cX0_add 35 = .ok (.aload_n 0, 1) := by decide +kernel
theorem dX0_add_36 : decode cX0_add 36 = .ok (.getfield 30, 3) := by decide +kernel
theorem dX0_add_39 : decode cX0_add 39 = .ok (.iload_n 2, 1) := by decide +kernel
theorem dX0_add_40 : decode cX0_add 40 = .ok (.iastore, 1) := by decide +kernel
theorem dX0_add_41 : decode cX0_add 41 = .ok (.aload_n 0, 1) := by decide +kernel
theorem dX0_add_42 : decode cX0_add 42 = .ok (.getfield 18, 3) := by decide +kernel
theorem dX0_add_45 : decode cX0_add 45 = .ok (.aload_n 0, 1) := by decide +kernel
theorem dX0_add_46 : decode cX0_add 46 = .ok (.getfield 30, 3) := by decide +kernel
theorem dX0_add_49 : decode cX0_add 49 = .ok (.iload_n 3, 1) := by decide +kernel
theorem dX0_add_50 : decode cX0_add 50 = .ok (.iastore, 1) := by decide +kernel
theorem dX0_add_51 : decode cX0_add 51 = .ok (.aload_n 0, 1) := by decide +kernel
theorem dX0_add_52 : decode cX0_add 52 = .ok (.getfield 21, 3) := by decide +kernel
theorem dX0_add_55 : decode cX0_add 55 = .ok (.aload_n 0, 1) := by decide +kernel
theorem dX0_add_56 : decode cX0_add 56 = .ok (.getfield 30, 3) := by decide +kernel
theorem dX0_add_59 : decode cX0_add 59 = .ok (.iload 4, 2) := by decide +kernel
theorem dX0_add_61 : decode cX0_add 61 = .ok (.iastore, 1) := by decide +kernel
theorem dX0_add_62 : decode cX0_add 62 = .ok (.aload_n 0, 1) := by decide +kernel
theorem dX0_add_63 : decode cX0_add 63 = .ok (.getfield 24, 3) := by decide +kernel
theorem dX0_add_66 : decode cX0_add 66 = .ok (.aload_n 0, 1) := by decide +kernel
theorem dX0_add_67 : decode cX0_add 67 = .ok (.getfield 30, 3) := by decide +kernel
theorem dX0_add_70 : decode cX0_add 70 = .ok (.iload 5, 2) := by decide +kernel
theorem dX0_add_72 : decode cX0_add 72 = .ok (.iastore, 1) := by decide +kernel
theorem dX0_add_73 : decode cX0_add 73 = .ok (.aload_n 0, 1) := by decide +kernel
theorem dX0_add_74 : decode cX0_add 74 = .ok (.getfield 27, 3) := by decide +kernel
theorem dX0_add_77 : decode cX0_add 77 = .ok (.aload_n 0, 1) := by decide +kernel
theorem dX0_add_78 : decode cX0_add 78 = .ok (.getfield 30, 3) := by decide +kernel
theorem dX0_add_81 : decode cX0_add 81 = .ok (.iconst 0, 1) := by decide +kernel
theorem dX0_add_82 : decode cX0_add 82 = .ok (.iastore, 1) := by decide +kernel
theorem dX0_add_83 : decode cX0_add 83 = .ok (.aload_n 0, 1) := by decide +kernel
theorem dX0_add_84 : decode cX0_add 84 = .ok (.getfield 30, 3) := by decide +kernel
theorem dX0_add_87 : decode cX0_add 87 = .ok (.ireturn, 1) := by decide +kernel
theorem dX10_rounds_0 : decode cX10_rounds 0 = .ok (.iload_n 1, 1) := by decide +kernel
theorem dX10_rounds_1 : decode cX10_rounds 1 = .ok (.iconst 1, 1) := by decide +kernel
theorem dX10_rounds_2 : decode cX10_rounds 2 = .ok (.bipush 10, 2) := by decide +kernel
theorem dX10_rounds_4 : decode cX10_rounds 4 = .ok (.invokestatic 108, 3) := by decide +kernel
theorem dX10_rounds_7 : decode cX10_rounds 7 = .ok (.ifCond .eq 16, 3) := by decide +kernel
theorem dX10_rounds_10 : decode cX10_rounds 10 = .ok (.iload_n 2, 1) := by decide +kernel
theorem dX10_rounds_11 : decode cX10_rounds 11 = .ok (.iload_n 3, 1) := by decide +kernel
theorem dX10_rounds_12 : decode cX10_rounds 12 = .ok (.invokestatic 151, 3) := by decide +kernel
theorem dX10_rounds_15 : decode cX10_rounds 15 = .ok (.ifCond .eq 8, 3) := by decide +kernel
theorem dX10_rounds_18 : decode cX10_rounds 18 = .ok (.iload 4, 2) := by decide +kernel
theorem dX10_rounds_20 : decode cX10_rounds 20 = .ok (.ifCond .ge 5, 3) := by decide +kernel
theorem dX10_rounds_23 : decode cX10_rounds 23 = .ok (.iconst (-1), 1) := by decide +kernel
theorem dX10_rounds_24 : decode cX10_rounds 24 = .ok (.ireturn, 1) := by decide +kernel
theorem dX10_rounds_25 : decode cX10_rounds 25 = .ok (.aload_n 0, 1) := by decide +kernel
theorem dX10_rounds_26 : decode cX10_rounds 26 = .ok (.getfield 19, 3) := by decide +kernel
theorem dX10_rounds_29 : decode cX10_rounds 29 = .ok (.iconst 2, 1) := by decide +kernel
theorem dX10_rounds_30 : decode cX10_rounds 30 = .ok (.iload_n 1, 1) := by decide +kernel
theorem dX10_rounds_31 : decode cX10_rounds 31 = .ok (.iload_n 2, 1) := by decide +kernel
theorem dX10_rounds_32 : decode cX10_rounds 32 = .ok (.iload_n 3, 1) := by decide +kernel
theorem dX10_rounds_33 : decode cX10_rounds 33 = .ok (.iload 4, 2) := by decide +kernel
theorem dX10_rounds_35 : decode cX10_rounds 35 = .ok (.invokevirtual 147, 3) := by decide +kernel
theorem dX10_rounds_38 : decode cX10_rounds 38 = .ok (.ireturn, 1) := by decide +kernel
theorem dX10_canPress_0 : decode cX10_canPress 0 = .ok (.iload_n 0, 1) := by decide +kernel
theorem dX10_canPress_1 : decode cX10_canPress 1 = .ok (.iconst 0, 1) := by decide +kernel
theorem dX10_canPress_2 : decode cX10_canPress 2 = .ok (.bipush 99, 2) := by decide +kernel
theorem dX10_canPress_4 : decode cX10_canPress 4 = .ok (.invokestatic 108, 3) := by decide +kernel
theorem dX10_canPress_7 : decode cX10_canPress 7 = .ok (.ifCond .eq 17, 3) := by decide +kernel
theorem dX10_canPress_10 : decode cX10_canPress 10 = .ok (.iload_n 1, 1) := by decide +kernel
theorem dX10_canPress_11 : decode cX10_canPress 11 = .ok (.iconst 0, 1) := by decide +kernel
theorem dX10_canPress_12 : decode cX10_canPress 12 = .ok (.bipush 99, 2) := by decide +kernel
theorem dX10_canPress_14 : decode cX10_canPress 14 = .ok (.invokestatic 108, 3) := by decide +kernel
theorem dX10_canPress_17 : decode cX10_canPress 17 = .ok (.ifCond .eq 7, 3) := by decide +kernel
theorem dX10_canPress_20 : decode cX10_canPress 20 = .ok (.iconst 1, 1) := by decide +kernel
theorem dX10_canPress_21 : decode cX10_canPress 21 = .ok (.goto 4, 3) := by decide +kernel
theorem dX10_canPress_24 : decode cX10_canPress 24 = .ok (.iconst 0, 1) := by decide +kernel
theorem dX10_canPress_25 : decode cX10_canPress 25 = .ok (.ireturn, 1) := by decide +kernel
theorem dX10_wash_0 : decode cX10_wash 0 = .ok (.aload_n 0, 1) := by decide +kernel
theorem dX10_wash_1 : decode cX10_wash 1 = .ok (.getfield 19, 3) := by decide +kernel
theorem dX10_wash_4 : decode cX10_wash 4 = .ok (.iconst 3, 1) := by decide +kernel
theorem dX10_wash_5 : decode cX10_wash 5 = .ok (.iconst 0, 1) := by decide +kernel
theorem dX10_wash_6 : decode cX10_wash 6 = .ok (.iconst 0, 1) := by decide +kernel
theorem dX10_wash_7 : decode cX10_wash 7 = .ok (.iconst 0, 1) := by decide +kernel
theorem dX10_wash_8 : decode cX10_wash 8 = .ok (.iconst 0, 1) := by decide +kernel
theorem dX10_wash_9 : decode cX10_wash 9 = .ok (.invokevirtual 147, 3) := by decide +kernel
theorem dX10_wash_12 : decode cX10_wash 12 = .ok (.ireturn, 1) := by decide +kernel
theorem dX10_annul_0 : decode cX10_annul 0 = .ok (.aload_n 0, 1) := by decide +kernel
theorem dX10_annul_1 : decode cX10_annul 1 = .ok (.getfield 19, 3) := by decide +kernel
theorem dX10_annul_4 : decode cX10_annul 4 = .ok (.iload_n 1, 1) := by decide +kernel
theorem dX10_annul_5 : decode cX10_annul 5 = .ok (.invokevirtual 155, 3) := by decide +kernel
theorem dX10_annul_8 : decode cX10_annul 8 = .ok (.ifCond .eq 14, 3) := by decide +kernel
theorem dX10_annul_22 : decode cX10_annul 22 = .ok (.iconst (-1), 1) := by decide +kernel
theorem dX10_annul_23 : decode cX10_annul 23 = .ok (.ireturn, 1) := by decide +kernel
theorem dX0_canVoid_0 : decode cX0_canVoid 0 = .ok (.iload_n 1, 1) := by decide +kernel
theorem dX0_canVoid_1 : decode cX0_canVoid 1 = .ok (.iconst 1, 1) := by decide +kernel
theorem dX0_canVoid_2 : decode cX0_canVoid 2 = .ok (.if_icmp .lt 34, 3) := by decide +kernel
theorem dX0_canVoid_5 : decode cX0_canVoid 5 = .ok (.iload_n 1, 1) := by decide +kernel
theorem dX0_canVoid_6 : decode cX0_canVoid 6 = .ok (.aload_n 0, 1) := by decide +kernel
theorem dX0_canVoid_7 : decode cX0_canVoid 7 = .ok (.getfield 30, 3) := by decide +kernel
theorem dX0_canVoid_10 : decode cX0_canVoid 10 = .ok (.if_icmp .gt 26, 3) := by decide +kernel
theorem dX0_canVoid_36 : decode cX0_canVoid 36 = .ok (.iconst 0, 1) := by decide +kernel
theorem dX0_canVoid_37 : decode cX0_canVoid 37 = .ok (.ireturn, 1) := by decide +kernel
theorem dX10_as_0 : decode cX10_as 0 = .ok (.iload_n 1, 1) := by decide +kernel
theorem dX10_as_1 : decode cX10_as 1 = .ok (.iconst (-1), 1) := by decide +kernel
theorem dX10_as_2 : decode cX10_as 2 = .ok (.aload_n 0, 1) := by decide +kernel
theorem dX10_as_3 : decode cX10_as 3 = .ok (.getfield 19, 3) := by decide +kernel
theorem dX10_as_6 : decode cX10_as 6 = .ok (.getfield 126, 3) := by decide +kernel
theorem dX10_as_9 : decode cX10_as 9 = .ok (.invokestatic 108, 3) := by decide +kernel
theorem dX10_as_12 : decode cX10_as 12 = .ok (.ifCond .ne 5, 3) := by decide +kernel
theorem dX10_as_15 : decode cX10_as 15 = .ok (.iconst 0, 1) := by decide +kernel
theorem dX10_as_16 : decode cX10_as 16 = .ok (.ireturn, 1) := by decide +kernel
theorem dX10_as_17 : decode cX10_as 17 = .ok (.aload_n 0, 1) := by decide +kernel
theorem dX10_as_18 : decode cX10_as 18 = .ok (.iload_n 1, 1) := by decide +kernel
theorem dX10_as_19 : decode cX10_as 19 = .ok (.putfield 88, 3) := by decide +kernel
theorem dX10_as_22 : decode cX10_as 22 = .ok (.iconst 1, 1) := by decide +kernel
theorem dX10_as_23 : decode cX10_as 23 = .ok (.ireturn, 1) := by decide +kernel
theorem dX10_cell_0 : decode cX10_cell 0 = .ok (.aload_n 0, 1) := by decide +kernel
theorem dX10_cell_1 : decode cX10_cell 1 = .ok (.iload_n 1, 1) := by decide +kernel
theorem dX10_cell_2 : decode cX10_cell 2 = .ok (.invokevirtual 143, 3) := by decide +kernel
theorem dX10_cell_5 : decode cX10_cell 5 = .ok (.ifCond .ne 5, 3) := by decide +kernel
theorem dX10_cell_8 : decode cX10_cell 8 = .ok (.iconst (-1), 1) := by decide +kernel
theorem dX10_cell_9 : decode cX10_cell 9 = .ok (.ireturn, 1) := by decide +kernel
theorem dX10_cell_10 : decode cX10_cell 10 = .ok (.aload_n 0, 1) := by decide +kernel
theorem dX10_cell_11 : decode cX10_cell 11 = .ok (.invokevirtual 162, 3) := by decide +kernel
theorem dX10_cell_14 : decode cX10_cell 14 = .ok (.astore_n 3, 1) := by decide +kernel
theorem dX10_cell_15 : decode cX10_cell 15 = .ok (.aload_n 3, 1) := by decide +kernel
theorem dX10_cell_16 : decode cX10_cell 16 = .ok (.iload_n 1, 1) := by decide +kernel
theorem dX10_cell_17 : decode cX10_cell 17 = .ok (.invokevirtual 166, 3) := by decide +kernel
theorem dX10_cell_20 : decode cX10_cell 20 = .ok (.istore 4, 2) := by decide +kernel
theorem dX10_cell_22 : decode cX10_cell 22 = .ok (.iload_n 2, 1) := by decide +kernel
theorem dX10_cell_23 : decode cX10_cell 23 = .ok (.tableswitch 109 0 5 #[37, 44, 60, 76, 95, 102], 37) := by decide +kernel
theorem dX10_cell_60 : decode cX10_cell 60 = .ok (.aload_n 3, 1) := by decide +kernel
theorem dX10_cell_61 : decode cX10_cell 61 = .ok (.getfield 169, 3) := by decide +kernel
theorem dX10_cell_64 : decode cX10_cell 64 = .ok (.iload_n 1, 1) := by decide +kernel
theorem dX10_cell_65 : decode cX10_cell 65 = .ok (.iaload, 1) := by decide +kernel
theorem dX10_cell_66 : decode cX10_cell 66 = .ok (.ireturn, 1) := by decide +kernel
theorem dX10_cell_67 : decode cX10_cell 67 = .ok (.iload 4, 2) := by decide +kernel
theorem dX10_cell_69 : decode cX10_cell 69 = .ok (.ifCond .eq 12, 3) := by decide +kernel
theorem dX10_cell_81 : decode cX10_cell 81 = .ok (.iconst (-1), 1) := by decide +kernel
theorem dX10_cell_82 : decode cX10_cell 82 = .ok (.ireturn, 1) := by decide +kernel
theorem dX10_cell_83 : decode cX10_cell 83 = .ok (.iload 4, 2) := by decide +kernel
theorem dX10_cell_85 : decode cX10_cell 85 = .ok (.ifCond .eq 12, 3) := by decide +kernel
theorem dX10_cell_97 : decode cX10_cell 97 = .ok (.iconst (-1), 1) := by decide +kernel
theorem dX10_cell_98 : decode cX10_cell 98 = .ok (.ireturn, 1) := by decide +kernel
theorem dX10_cell_99 : decode cX10_cell 99 = .ok (.iload 4, 2) := by decide +kernel
theorem dX10_cell_101 : decode cX10_cell 101 = .ok (.ifCond .eq 15, 3) := by decide +kernel
theorem dX10_cell_116 : decode cX10_cell 116 = .ok (.iconst (-1), 1) := by decide +kernel
theorem dX10_cell_117 : decode cX10_cell 117 = .ok (.ireturn, 1) := by decide +kernel
theorem dX10_cell_118 : decode cX10_cell 118 = .ok (.aload_n 3, 1) := by decide +kernel
theorem dX10_cell_119 : decode cX10_cell 119 = .ok (.getfield 183, 3) := by decide +kernel
theorem dX10_cell_122 : decode cX10_cell 122 = .ok (.iload_n 1, 1) := by decide +kernel
theorem dX10_cell_123 : decode cX10_cell 123 = .ok (.iaload, 1) := by decide +kernel
theorem dX10_cell_124 : decode cX10_cell 124 = .ok (.ireturn, 1) := by decide +kernel
theorem dX10_cell_125 : decode cX10_cell 125 = .ok (.aload_n 3, 1) := by decide +kernel
theorem dX10_cell_126 : decode cX10_cell 126 = .ok (.getfield 186, 3) := by decide +kernel
theorem dX10_cell_129 : decode cX10_cell 129 = .ok (.iload_n 1, 1) := by decide +kernel
theorem dX10_cell_130 : decode cX10_cell 130 = .ok (.iaload, 1) := by decide +kernel
theorem dX10_cell_131 : decode cX10_cell 131 = .ok (.ireturn, 1) := by decide +kernel
theorem dX10_cell_132 : decode cX10_cell 132 = .ok (.iconst (-1), 1) := by decide +kernel
theorem dX10_cell_133 : decode cX10_cell 133 = .ok (.ireturn, 1) := by decide +kernel
theorem dX10_broughtUp_0 : decode cX10_broughtUp 0 = .ok (.aload_n 0, 1) := by decide +kernel
theorem dX10_broughtUp_1 : decode cX10_broughtUp 1 = .ok (.invokevirtual 301, 3) := by decide +kernel
theorem dX10_broughtUp_4 : decode cX10_broughtUp 4 = .ok (.istore_n 1, 1) := by decide +kernel
theorem dX10_broughtUp_5 : decode cX10_broughtUp 5 = .ok (.aload_n 0, 1) := by decide +kernel
theorem dX10_broughtUp_6 : decode cX10_broughtUp 6 = .ok (.getfield 19, 3) := by decide +kernel
theorem dX10_broughtUp_9 : decode cX10_broughtUp 9 = .ok (.aload_n 0, 1) := by decide +kernel
theorem dX10_broughtUp_10 : decode cX10_broughtUp 10 = .ok (.getfield 26, 3) := by decide +kernel
theorem dX10_broughtUp_13 : decode cX10_broughtUp 13 = .ok (.getfield 308, 3) := by decide +kernel
theorem dX10_broughtUp_16 : decode cX10_broughtUp 16 = .ok (.iload_n 1, 1) := by decide +kernel
theorem dX10_broughtUp_17 : decode cX10_broughtUp 17 = .ok (.invokevirtual 311, 3) := by decide +kernel
theorem dX10_broughtUp_20 : decode cX10_broughtUp 20 = .ok (.ifCond .ne 10, 3) := by decide +kernel
theorem dX10_broughtUp_30 : decode cX10_broughtUp 30 = .ok (.aload_n 0, 1) := by decide +kernel
theorem dX10_broughtUp_31 : decode cX10_broughtUp 31 = .ok (.getfield 26, 3) := by decide +kernel
theorem dX10_broughtUp_34 : decode cX10_broughtUp 34 = .ok (.getfield 308, 3) := by decide +kernel
theorem dX10_broughtUp_37 : decode cX10_broughtUp 37 = .ok (.iconst 1, 1) := by decide +kernel
theorem dX10_broughtUp_38 : decode cX10_broughtUp 38 = .ok (.iadd, 1) := by decide +kernel
theorem dX10_broughtUp_39 : decode cX10_broughtUp 39 = .ok (.istore_n 2, 1) := by decide +kernel
theorem dX10_broughtUp_40 : decode cX10_broughtUp 40 = .ok (.iload_n 2, 1) := by decide +kernel
theorem dX10_broughtUp_41 : decode cX10_broughtUp 41 = .ok (.iload_n 1, 1) := by decide +kernel
theorem dX10_broughtUp_42 : decode cX10_broughtUp 42 = .ok (.if_icmp .gt 108, 3) := by decide +kernel
theorem dX10_broughtUp_150 : decode cX10_broughtUp 150 = .ok (.aload_n 0, 1) := by decide +kernel
theorem dX10_broughtUp_151 : decode cX10_broughtUp 151 = .ok (.getfield 26, 3) := by decide +kernel
theorem dX10_broughtUp_154 : decode cX10_broughtUp 154 = .ok (.iload_n 1, 1) := by decide +kernel
theorem dX10_broughtUp_155 : decode cX10_broughtUp 155 = .ok (.putfield 308, 3) := by decide +kernel
theorem dX10_broughtUp_158 : decode cX10_broughtUp 158 = .ok (.aload_n 0, 1) := by decide +kernel
theorem dX10_broughtUp_159 : decode cX10_broughtUp 159 = .ok (.getfield 26, 3) := by decide +kernel
theorem dX10_broughtUp_162 : decode cX10_broughtUp 162 = .ok (.areturn, 1) := by decide +kernel
theorem dX10_toldAct_0 : decode cX10_toldAct 0 = .ok (.aload_n 0, 1) := by decide +kernel
theorem dX10_toldAct_1 : decode cX10_toldAct 1 = .ok (.getfield 88, 3) := by decide +kernel
theorem dX10_toldAct_4 : decode cX10_toldAct 4 = .ok (.iconst (-1), 1) := by decide +kernel
theorem dX10_toldAct_5 : decode cX10_toldAct 5 = .ok (.if_icmp .ne 13, 3) := by decide +kernel
theorem dX10_toldAct_8 : decode cX10_toldAct 8 = .ok (.aload_n 0, 1) := by decide +kernel
theorem dX10_toldAct_9 : decode cX10_toldAct 9 = .ok (.getfield 19, 3) := by decide +kernel
theorem dX10_toldAct_12 : decode cX10_toldAct 12 = .ok (.getfield 126, 3) := by decide +kernel
theorem dX10_toldAct_15 : decode cX10_toldAct 15 = .ok (.goto 7, 3) := by decide +kernel
theorem dX10_toldAct_22 : decode cX10_toldAct 22 = .ok (.ireturn, 1) := by decide +kernel
theorem dX0_goesOn_0 : decode cX0_goesOn 0 = .ok (.iload_n 1, 1) := by decide +kernel
theorem dX0_goesOn_1 : decode cX0_goesOn 1 = .ok (.iload_n 2, 1) := by decide +kernel
theorem dX0_goesOn_2 : decode cX0_goesOn 2 = .ok (.if_icmp .le 5, 3) := by decide +kernel
theorem dX0_goesOn_7 : decode cX0_goesOn 7 = .ok (.iload_n 1, 1) := by decide +kernel
theorem dX0_goesOn_8 : decode cX0_goesOn 8 = .ok (.iconst 1, 1) := by decide +kernel
theorem dX0_goesOn_9 : decode cX0_goesOn 9 = .ok (.iadd, 1) := by decide +kernel
theorem dX0_goesOn_10 : decode cX0_goesOn 10 = .ok (.istore_n 3, 1) := by decide +kernel
theorem dX0_goesOn_11 : decode cX0_goesOn 11 = .ok (.iload_n 3, 1) := by decide +kernel
theorem dX0_goesOn_12 : decode cX0_goesOn 12 = .ok (.iload_n 2, 1) := by decide +kernel
theorem dX0_goesOn_13 : decode cX0_goesOn 13 = .ok (.if_icmp .gt 39, 3) := by decide +kernel
theorem dX0_goesOn_52 : decode cX0_goesOn 52 = .ok (.iconst 1, 1) := by decide +kernel
theorem dX0_goesOn_53 : decode cX0_goesOn 53 = .ok (.ireturn, 1) := by decide +kernel
theorem dX2_hasHook_0 : decode cX2_hasHook 0 = .ok (.aload_n 0, 1) := by decide +kernel
theorem dX2_hasHook_1 : decode cX2_hasHook 1 = .ok (.getfield 9, 3) := by decide +kernel
theorem dX2_hasHook_4 : decode cX2_hasHook 4 = .ok (.iload_n 1, 1) := by decide +kernel
theorem dX2_hasHook_5 : decode cX2_hasHook 5 = .ok (.iaload, 1) := by decide +kernel
theorem dX2_hasHook_6 : decode cX2_hasHook 6 = .ok (.iconst (-1), 1) := by decide +kernel
theorem dX2_hasHook_7 : decode cX2_hasHook 7 = .ok (.if_icmp .eq 7, 3) := by decide +kernel
theorem dX2_hasHook_14 : decode cX2_hasHook 14 = .ok (.iconst 0, 1) := by decide +kernel
theorem dX2_hasHook_15 : decode cX2_hasHook 15 = .ok (.ireturn, 1) := by decide +kernel
theorem dX10_listed_0 : decode cX10_listed 0 = .ok (.aload_n 0, 1) := by decide +kernel
theorem dX10_listed_1 : decode cX10_listed 1 = .ok (.invokevirtual 162, 3) := by decide +kernel
theorem dX10_listed_4 : decode cX10_listed 4 = .ok (.getfield 189, 3) := by decide +kernel
theorem dX10_listed_7 : decode cX10_listed 7 = .ok (.ireturn, 1) := by decide +kernel
theorem dX10_list_0 : decode cX10_list 0 = .ok (.aload_n 0, 1) := by decide +kernel
theorem dX10_list_1 : decode cX10_list 1 = .ok (.invokevirtual 162, 3) := by decide +kernel
theorem dX10_list_4 : decode cX10_list 4 = .ok (.astore_n 2, 1) := by decide +kernel
theorem dX10_list_5 : decode cX10_list 5 = .ok (.iload_n 1, 1) := by decide +kernel
theorem dX10_list_6 : decode cX10_list 6 = .ok (.iconst 0, 1) := by decide +kernel
theorem dX10_list_7 : decode cX10_list 7 = .ok (.aload_n 2, 1) := by decide +kernel
theorem dX10_list_8 : decode cX10_list 8 = .ok (.getfield 189, 3) := by decide +kernel
theorem dX10_list_11 : decode cX10_list 11 = .ok (.iconst 1, 1) := by decide +kernel
theorem dX10_list_12 : decode cX10_list 12 = .ok (.isub, 1) := by decide +kernel
theorem dX10_list_13 : decode cX10_list 13 = .ok (.invokestatic 108, 3) := by decide +kernel
theorem dX10_list_16 : decode cX10_list 16 = .ok (.ifCond .eq 13, 3) := by decide +kernel
theorem dX10_list_29 : decode cX10_list 29 = .ok (.ldc2_w 195, 3) := by decide +kernel
theorem dX10_list_32 : decode cX10_list 32 = .ok (.lreturn, 1) := by decide +kernel
theorem dX10_until_0 : decode cX10_until 0 = .ok (.aload_n 0, 1) := by decide +kernel
theorem dX10_until_1 : decode cX10_until 1 = .ok (.invokevirtual 162, 3) := by decide +kernel
theorem dX10_until_4 : decode cX10_until 4 = .ok (.astore_n 3, 1) := by decide +kernel
theorem dX10_until_5 : decode cX10_until 5 = .ok (.iconst 0, 1) := by decide +kernel
theorem dX10_until_6 : decode cX10_until 6 = .ok (.istore 4, 2) := by decide +kernel
theorem dX10_until_8 : decode cX10_until 8 = .ok (.iload 4, 2) := by decide +kernel
theorem dX10_until_10 : decode cX10_until 10 = .ok (.aload_n 3, 1) := by decide +kernel
theorem dX10_until_11 : decode cX10_until 11 = .ok (.getfield 189, 3) := by decide +kernel
theorem dX10_until_14 : decode cX10_until 14 = .ok (.if_icmp .ge 25, 3) := by decide +kernel
theorem dX10_until_39 : decode cX10_until 39 = .ok (.iconst (-1), 1) := by decide +kernel
theorem dX10_until_40 : decode cX10_until 40 = .ok (.ireturn, 1) := by decide +kernel
theorem dX10_chance_0 : decode cX10_chance 0 = .ok (.aload_n 0, 1) := by decide +kernel
theorem dX10_chance_1 : decode cX10_chance 1 = .ok (.iload_n 1, 1) := by decide +kernel
theorem dX10_chance_2 : decode cX10_chance 2 = .ok (.invokevirtual 143, 3) := by decide +kernel
theorem dX10_chance_5 : decode cX10_chance 5 = .ok (.ifCond .eq 11, 3) := by decide +kernel
theorem dX10_chance_8 : decode cX10_chance 8 = .ok (.iload_n 2, 1) := by decide +kernel
theorem dX10_chance_9 : decode cX10_chance 9 = .ok (.iload_n 3, 1) := by decide +kernel
theorem dX10_chance_10 : decode cX10_chance 10 = .ok (.invokestatic 151, 3) := by decide +kernel
theorem dX10_chance_13 : decode cX10_chance 13 = .ok (.ifCond .ne 5, 3) := by decide +kernel
theorem dX10_chance_16 : decode cX10_chance 16 = .ok (.iconst (-1), 1) := by decide +kernel
theorem dX10_chance_17 : decode cX10_chance 17 = .ok (.ireturn, 1) := by decide +kernel
theorem dX10_chance_18 : decode cX10_chance 18 = .ok (.aload_n 0, 1) := by decide +kernel
theorem dX10_chance_19 : decode cX10_chance 19 = .ok (.invokevirtual 162, 3) := by decide +kernel
theorem dX10_chance_22 : decode cX10_chance 22 = .ok (.astore 4, 2) := by decide +kernel
theorem dX10_chance_24 : decode cX10_chance 24 = .ok (.aload 4, 2) := by decide +kernel
theorem dX10_chance_26 : decode cX10_chance 26 = .ok (.iload_n 1, 1) := by decide +kernel
theorem dX10_chance_27 : decode cX10_chance 27 = .ok (.invokevirtual 166, 3) := by decide +kernel
theorem dX10_chance_30 : decode cX10_chance 30 = .ok (.ifCond .eq 18, 3) := by decide +kernel
theorem dX10_chance_48 : decode cX10_chance 48 = .ok (.iconst (-1), 1) := by decide +kernel
theorem dX10_chance_49 : decode cX10_chance 49 = .ok (.ireturn, 1) := by decide +kernel
theorem dX10_table_0 : decode cX10_table 0 = .ok (.iload_n 1, 1) := by decide +kernel
theorem dX10_table_1 : decode cX10_table 1 = .ok (.iload_n 2, 1) := by decide +kernel
theorem dX10_table_2 : decode cX10_table 2 = .ok (.invokestatic 151, 3) := by decide +kernel
theorem dX10_table_5 : decode cX10_table 5 = .ok (.ifCond .ne 5, 3) := by decide +kernel
theorem dX10_table_8 : decode cX10_table 8 = .ok (.iconst (-1), 1) := by decide +kernel
theorem dX10_table_9 : decode cX10_table 9 = .ok (.ireturn, 1) := by decide +kernel
theorem dX10_table_10 : decode cX10_table 10 = .ok (.aload_n 0, 1) := by decide +kernel
theorem dX10_table_11 : decode cX10_table 11 = .ok (.invokevirtual 162, 3) := by decide +kernel
theorem dX10_table_14 : decode cX10_table 14 = .ok (.astore_n 3, 1) := by decide +kernel
theorem dX10_table_15 : decode cX10_table 15 = .ok (.aload_n 0, 1) := by decide +kernel
theorem dX10_table_16 : decode cX10_table 16 = .ok (.getfield 33, 3) := by decide +kernel
theorem dX10_table_19 : decode cX10_table 19 = .ok (.invokevirtual 201, 3) := by decide +kernel
theorem dX10_table_22 : decode cX10_table 22 = .ok (.iconst 0, 1) := by decide +kernel
theorem dX10_table_23 : decode cX10_table 23 = .ok (.istore 4, 2) := by decide +kernel
theorem dX10_table_25 : decode cX10_table 25 = .ok (.iload 4, 2) := by decide +kernel
theorem dX10_table_27 : decode cX10_table 27 = .ok (.aload_n 0, 1) := by decide +kernel
theorem dX10_table_28 : decode cX10_table 28 = .ok (.getfield 84, 3) := by decide +kernel
theorem dX10_table_31 : decode cX10_table 31 = .ok (.if_icmp .ge 37, 3) := by decide +kernel
theorem dX10_table_34 : decode cX10_table 34 = .ok (.aload_n 3, 1) := by decide +kernel
theorem dX10_table_35 : decode cX10_table 35 = .ok (.iload 4, 2) := by decide +kernel
theorem dX10_table_37 : decode cX10_table 37 = .ok (.invokevirtual 166, 3) := by decide +kernel
theorem dX10_table_40 : decode cX10_table 40 = .ok (.ifCond .eq 22, 3) := by decide +kernel
theorem dX10_table_62 : decode cX10_table 62 = .ok (.iinc 4 1, 3) := by decide +kernel
theorem dX10_table_65 : decode cX10_table 65 = .ok (.goto (-40), 3) := by decide +kernel
theorem dX10_table_68 : decode cX10_table 68 = .ok (.aload_n 0, 1) := by decide +kernel
theorem dX10_table_69 : decode cX10_table 69 = .ok (.getfield 33, 3) := by decide +kernel
theorem dX10_table_72 : decode cX10_table 72 = .ok (.getfield 206, 3) := by decide +kernel
theorem dX10_table_75 : decode cX10_table 75 = .ok (.ireturn, 1) := by decide +kernel
theorem dX3_begin_0 : decode cX3_begin 0 = .ok (.aload_n 0, 1) := by decide +kernel
theorem dX3_begin_1 : decode cX3_begin 1 = .ok (.iconst 1, 1) := by decide +kernel
theorem dX3_begin_2 : decode cX3_begin 2 = .ok (.putfield 19, 3) := by decide +kernel
theorem dX3_begin_5 : decode cX3_begin 5 = .ok (.aload_n 0, 1) := by decide +kernel
theorem dX3_begin_6 : decode cX3_begin 6 = .ok (.iconst 0, 1) := by decide +kernel
theorem dX3_begin_7 : decode cX3_begin 7 = .ok (.putfield 15, 3) := by decide +kernel
theorem dX3_begin_10 : decode cX3_begin 10 = .ok (.aload_n 0, 1) := by decide +kernel
theorem dX3_begin_11 : decode cX3_begin 11 = .ok (.getfield 9, 3) := by decide +kernel
theorem dX3_begin_14 : decode cX3_begin 14 = .ok (.iconst 0, 1) := by decide +kernel
theorem dX3_begin_15 : decode cX3_begin 15 = .ok (.ldc2_w 23, 3) := by decide +kernel
theorem dX3_begin_18 : decode cX3_begin 18 = .ok (.lastore, 1) := by decide +kernel
theorem dX3_begin_19 : decode cX3_begin 19 = .ok (.return_, 1) := by decide +kernel
theorem dX10_odds_0 : decode cX10_odds 0 = .ok (.aload_n 0, 1) := by decide +kernel
theorem dX10_odds_1 : decode cX10_odds 1 = .ok (.getfield 33, 3) := by decide +kernel
theorem dX10_odds_4 : decode cX10_odds 4 = .ok (.getfield 129, 3) := by decide +kernel
theorem dX10_odds_7 : decode cX10_odds 7 = .ok (.ifCond .eq 29, 3) := by decide +kernel
theorem dX10_odds_36 : decode cX10_odds 36 = .ok (.ldc2_w 195, 3) := by decide +kernel
theorem dX10_odds_39 : decode cX10_odds 39 = .ok (.lreturn, 1) := by decide +kernel
theorem dX10_sure_0 : decode cX10_sure 0 = .ok (.aload_n 0, 1) := by decide +kernel
theorem dX10_sure_1 : decode cX10_sure 1 = .ok (.getfield 33, 3) := by decide +kernel
theorem dX10_sure_4 : decode cX10_sure 4 = .ok (.getfield 129, 3) := by decide +kernel
theorem dX10_sure_7 : decode cX10_sure 7 = .ok (.ifCond .eq 25, 3) := by decide +kernel
theorem dX10_sure_32 : decode cX10_sure 32 = .ok (.iconst (-1), 1) := by decide +kernel
theorem dX10_sure_33 : decode cX10_sure 33 = .ok (.ireturn, 1) := by decide +kernel
theorem dX10_draw_0 : decode cX10_draw 0 = .ok (.iload_n 1, 1) := by decide +kernel
theorem dX10_draw_1 : decode cX10_draw 1 = .ok (.iload_n 2, 1) := by decide +kernel
theorem dX10_draw_2 : decode cX10_draw 2 = .ok (.invokestatic 151, 3) := by decide +kernel
theorem dX10_draw_5 : decode cX10_draw 5 = .ok (.ifCond .eq 7, 3) := by decide +kernel
theorem dX10_draw_8 : decode cX10_draw 8 = .ok (.iload_n 3, 1) := by decide +kernel
theorem dX10_draw_9 : decode cX10_draw 9 = .ok (.ifCond .ge 5, 3) := by decide +kernel
theorem dX10_draw_12 : decode cX10_draw 12 = .ok (.iconst (-1), 1) := by decide +kernel
theorem dX10_draw_13 : decode cX10_draw 13 = .ok (.ireturn, 1) := by decide +kernel
theorem dX10_draw_14 : decode cX10_draw 14 = .ok (.aload_n 0, 1) := by decide +kernel
theorem dX10_draw_15 : decode cX10_draw 15 = .ok (.getfield 40, 3) := by decide +kernel
theorem dX10_draw_18 : decode cX10_draw 18 = .ok (.aload_n 0, 1) := by decide +kernel
theorem dX10_draw_19 : decode cX10_draw 19 = .ok (.invokevirtual 162, 3) := by decide +kernel
theorem dX10_draw_22 : decode cX10_draw 22 = .ok (.aload_n 0, 1) := by decide +kernel
theorem dX10_draw_23 : decode cX10_draw 23 = .ok (.getfield 68, 3) := by decide +kernel
theorem dX10_draw_26 : decode cX10_draw 26 = .ok (.iload_n 1, 1) := by decide +kernel
theorem dX10_draw_27 : decode cX10_draw 27 = .ok (.iload_n 2, 1) := by decide +kernel
theorem dX10_draw_28 : decode cX10_draw 28 = .ok (.iload_n 3, 1) := by decide +kernel
theorem dX10_draw_29 : decode cX10_draw 29 = .ok (.i2l, 1) := by decide +kernel
theorem dX10_draw_30 : decode cX10_draw 30 = .ok (.invokevirtual 216, 3) := by decide +kernel
theorem dX10_draw_33 : decode cX10_draw 33 = .ok (.pop2, 1) := by decide +kernel
theorem dX10_draw_34 : decode cX10_draw 34 = .ok (.aload_n 0, 1) := by decide +kernel
theorem dX10_draw_35 : decode cX10_draw 35 = .ok (.getfield 40, 3) := by decide +kernel
theorem dX10_draw_38 : decode cX10_draw 38 = .ok (.getfield 220, 3) := by decide +kernel
theorem dX10_draw_41 : decode cX10_draw 41 = .ok (.ireturn, 1) := by decide +kernel
theorem dX1_take_0 : decode cX1_take 0 = .ok (.lload 5, 2) := by decide +kernel
theorem dX1_take_2 : decode cX1_take 2 = .ok (.lstore 7, 2) := by decide +kernel
theorem dX1_take_4 : decode cX1_take 4 = .ok (.aload_n 0, 1) := by decide +kernel
theorem dX1_take_5 : decode cX1_take 5 = .ok (.iconst 1, 1) := by decide +kernel
theorem dX1_take_6 : decode cX1_take 6 = .ok (.putfield 34, 3) := by decide +kernel
theorem dX1_take_9 : decode cX1_take 9 = .ok (.aload_n 0, 1) := by decide +kernel
theorem dX1_take_10 : decode cX1_take 10 = .ok (.aload_n 1, 1) := by decide +kernel
theorem dX1_take_11 : decode cX1_take 11 = .ok (.getfield 38, 3) := by decide +kernel
theorem dX1_take_14 : decode cX1_take 14 = .ok (.putfield 24, 3) := by decide +kernel
theorem dX1_take_17 : decode cX1_take 17 = .ok (.aload_n 0, 1) := by decide +kernel
theorem dX1_take_18 : decode cX1_take 18 = .ok (.aload_n 1, 1) := by decide +kernel
theorem dX1_take_19 : decode cX1_take 19 = .ok (.getfield 41, 3) := by decide +kernel
theorem dX1_take_22 : decode cX1_take 22 = .ok (.putfield 28, 3) := by decide +kernel
theorem dX1_take_25 : decode cX1_take 25 = .ok (.aload_n 0, 1) := by decide +kernel
theorem dX1_take_26 : decode cX1_take 26 = .ok (.iconst 0, 1) := by decide +kernel
theorem dX1_take_27 : decode cX1_take 27 = .ok (.putfield 31, 3) := by decide +kernel
theorem dX1_take_30 : decode cX1_take 30 = .ok (.iconst 0, 1) := by decide +kernel
theorem dX1_take_31 : decode cX1_take 31 = .ok (.istore 9, 2) := by decide +kernel
theorem dX1_take_33 : decode cX1_take 33 = .ok (.iload 9, 2) := by decide +kernel
theorem dX1_take_35 : decode cX1_take 35 = .ok (.aload_n 0, 1) := by decide +kernel
theorem dX1_take_36 : decode cX1_take 36 = .ok (.getfield 24, 3) := by decide +kernel
theorem dX1_take_39 : decode cX1_take 39 = .ok (.if_icmp .ge 154, 3) := by decide +kernel
theorem dX1_take_42 : decode cX1_take 42 = .ok (.aload_n 0, 1) := by decide +kernel
theorem dX1_take_43 : decode cX1_take 43 = .ok (.getfield 9, 3) := by decide +kernel
theorem dX1_take_46 : decode cX1_take 46 = .ok (.iload 9, 2) := by decide +kernel
theorem dX1_take_48 : decode cX1_take 48 = .ok (.iconst (-1), 1) := by decide +kernel
theorem dX1_take_49 : decode cX1_take 49 = .ok (.iastore, 1) := by decide +kernel
theorem dX1_take_50 : decode cX1_take 50 = .ok (.aload_n 1, 1) := by decide +kernel
theorem dX1_take_51 : decode cX1_take 51 = .ok (.iload 9, 2) := by decide +kernel
theorem dX1_take_53 : decode cX1_take 53 = .ok (.invokevirtual 42, 3) := by decide +kernel
theorem dX1_take_56 : decode cX1_take 56 = .ok (.ifCond .eq 131, 3) := by decide +kernel
theorem dX1_take_187 : decode cX1_take 187 = .ok (.iinc 9 1, 3) := by decide +kernel
theorem dX1_take_190 : decode cX1_take 190 = .ok (.goto (-157), 3) := by decide +kernel
theorem dX1_take_193 : decode cX1_take 193 = .ok (.lload 7, 2) := by decide +kernel
theorem dX1_take_195 : decode cX1_take 195 = .ok (.lreturn, 1) := by decide +kernel
theorem dX10_caught_0 : decode cX10_caught 0 = .ok (.aload_n 0, 1) := by decide +kernel
theorem dX10_caught_1 : decode cX10_caught 1 = .ok (.getfield 40, 3) := by decide +kernel
theorem dX10_caught_4 : decode cX10_caught 4 = .ok (.getfield 133, 3) := by decide +kernel
theorem dX10_caught_7 : decode cX10_caught 7 = .ok (.ifCond .eq 23, 3) := by decide +kernel
theorem dX10_caught_30 : decode cX10_caught 30 = .ok (.iconst (-1), 1) := by decide +kernel
theorem dX10_caught_31 : decode cX10_caught 31 = .ok (.ireturn, 1) := by decide +kernel
theorem dX10_pull_0 : decode cX10_pull 0 = .ok (.aload_n 0, 1) := by decide +kernel
theorem dX10_pull_1 : decode cX10_pull 1 = .ok (.getfield 40, 3) := by decide +kernel
theorem dX10_pull_4 : decode cX10_pull 4 = .ok (.getfield 133, 3) := by decide +kernel
theorem dX10_pull_7 : decode cX10_pull 7 = .ok (.ifCond .ne 5, 3) := by decide +kernel
theorem dX10_pull_10 : decode cX10_pull 10 = .ok (.iconst (-1), 1) := by decide +kernel
theorem dX10_pull_11 : decode cX10_pull 11 = .ok (.ireturn, 1) := by decide +kernel
theorem dX10_step_0 : decode cX10_step 0 = .ok (.aload_n 0, 1) := by decide +kernel
theorem dX10_step_1 : decode cX10_step 1 = .ok (.iload_n 1, 1) := by decide +kernel
theorem dX10_step_2 : decode cX10_step 2 = .ok (.invokevirtual 231, 3) := by decide +kernel
theorem dX10_step_5 : decode cX10_step 5 = .ok (.ifCond .eq 15, 3) := by decide +kernel
theorem dX10_step_20 : decode cX10_step 20 = .ok (.iconst (-1), 1) := by decide +kernel
theorem dX10_step_21 : decode cX10_step 21 = .ok (.ireturn, 1) := by decide +kernel
theorem dX10_isStep_0 : decode cX10_isStep 0 = .ok (.aload_n 0, 1) := by decide +kernel
theorem dX10_isStep_1 : decode cX10_isStep 1 = .ok (.getfield 47, 3) := by decide +kernel
theorem dX10_isStep_4 : decode cX10_isStep 4 = .ok (.getfield 134, 3) := by decide +kernel
theorem dX10_isStep_7 : decode cX10_isStep 7 = .ok (.ifCond .eq 24, 3) := by decide +kernel
theorem dX10_isStep_31 : decode cX10_isStep 31 = .ok (.iconst 0, 1) := by decide +kernel
theorem dX10_isStep_32 : decode cX10_isStep 32 = .ok (.ireturn, 1) := by decide +kernel
theorem dX10_load_0 : decode cX10_load 0 = .ok (.aload_n 0, 1) := by decide +kernel
theorem dX10_load_1 : decode cX10_load 1 = .ok (.iload_n 1, 1) := by decide +kernel
theorem dX10_load_2 : decode cX10_load 2 = .ok (.invokevirtual 231, 3) := by decide +kernel
theorem dX10_load_5 : decode cX10_load 5 = .ok (.ifCond .ne 7, 3) := by decide +kernel
theorem dX10_load_8 : decode cX10_load 8 = .ok (.ldc2_w 195, 3) := by decide +kernel
theorem dX10_load_11 : decode cX10_load 11 = .ok (.lreturn, 1) := by decide +kernel
theorem dX10_greatest_0 : decode cX10_greatest 0 = .ok (.aload_n 0, 1) := by decide +kernel
theorem dX10_greatest_1 : decode cX10_greatest 1 = .ok (.getfield 47, 3) := by decide +kernel
theorem dX10_greatest_4 : decode cX10_greatest 4 = .ok (.getfield 134, 3) := by decide +kernel
theorem dX10_greatest_7 : decode cX10_greatest 7 = .ok (.ifCond .eq 13, 3) := by decide +kernel
theorem dX10_greatest_20 : decode cX10_greatest 20 = .ok (.ldc2_w 195, 3) := by decide +kernel
theorem dX10_greatest_23 : decode cX10_greatest 23 = .ok (.lreturn, 1) := by decide +kernel
theorem dX10_hung_0 : decode cX10_hung 0 = .ok (.aload_n 0, 1) := by decide +kernel
theorem dX10_hung_1 : decode cX10_hung 1 = .ok (.getfield 47, 3) := by decide +kernel
theorem dX10_hung_4 : decode cX10_hung 4 = .ok (.getfield 134, 3) := by decide +kernel
theorem dX10_hung_7 : decode cX10_hung 7 = .ok (.ifCond .eq 24, 3) := by decide +kernel
theorem dX10_hung_31 : decode cX10_hung 31 = .ok (.iconst (-1), 1) := by decide +kernel
theorem dX10_hung_32 : decode cX10_hung 32 = .ok (.ireturn, 1) := by decide +kernel
theorem dX10_peel_0 : decode cX10_peel 0 = .ok (.aload_n 0, 1) := by decide +kernel
theorem dX10_peel_1 : decode cX10_peel 1 = .ok (.getfield 40, 3) := by decide +kernel
theorem dX10_peel_4 : decode cX10_peel 4 = .ok (.getfield 133, 3) := by decide +kernel
theorem dX10_peel_7 : decode cX10_peel 7 = .ok (.ifCond .eq 10, 3) := by decide +kernel
theorem dX10_peel_17 : decode cX10_peel 17 = .ok (.iconst (-1), 1) := by decide +kernel
theorem dX10_peel_18 : decode cX10_peel 18 = .ok (.ireturn, 1) := by decide +kernel
theorem dX10_front_0 : decode cX10_front 0 = .ok (.aload_n 0, 1) := by decide +kernel
theorem dX10_front_1 : decode cX10_front 1 = .ok (.getfield 54, 3) := by decide +kernel
theorem dX10_front_4 : decode cX10_front 4 = .ok (.getfield 135, 3) := by decide +kernel
theorem dX10_front_7 : decode cX10_front 7 = .ok (.ifCond .eq 20, 3) := by decide +kernel
theorem dX10_front_27 : decode cX10_front 27 = .ok (.iconst (-1), 1) := by decide +kernel
theorem dX10_front_28 : decode cX10_front 28 = .ok (.ireturn, 1) := by decide +kernel
theorem dX10_work_0 : decode cX10_work 0 = .ok (.aload_n 0, 1) := by decide +kernel
theorem dX10_work_1 : decode cX10_work 1 = .ok (.getfield 54, 3) := by decide +kernel
theorem dX10_work_4 : decode cX10_work 4 = .ok (.getfield 135, 3) := by decide +kernel
theorem dX10_work_7 : decode cX10_work 7 = .ok (.ifCond .eq 13, 3) := by decide +kernel
theorem dX10_work_20 : decode cX10_work 20 = .ok (.ldc2_w 195, 3) := by decide +kernel
theorem dX10_work_23 : decode cX10_work 23 = .ok (.lreturn, 1) := by decide +kernel
theorem dX10_patch_0 : decode cX10_patch 0 = .ok (.iload_n 1, 1) := by decide +kernel
theorem dX10_patch_1 : decode cX10_patch 1 = .ok (.iconst 0, 1) := by decide +kernel
theorem dX10_patch_2 : decode cX10_patch 2 = .ok (.bipush 99, 2) := by decide +kernel
theorem dX10_patch_4 : decode cX10_patch 4 = .ok (.invokestatic 108, 3) := by decide +kernel
theorem dX10_patch_7 : decode cX10_patch 7 = .ok (.ifCond .eq 25, 3) := by decide +kernel
theorem dX10_patch_10 : decode cX10_patch 10 = .ok (.iload_n 2, 1) := by decide +kernel
theorem dX10_patch_11 : decode cX10_patch 11 = .ok (.iconst 1, 1) := by decide +kernel
theorem dX10_patch_12 : decode cX10_patch 12 = .ok (.sipush 999, 3) := by decide +kernel
theorem dX10_patch_15 : decode cX10_patch 15 = .ok (.invokestatic 108, 3) := by decide +kernel
theorem dX10_patch_18 : decode cX10_patch 18 = .ok (.ifCond .eq 14, 3) := by decide +kernel
theorem dX10_patch_21 : decode cX10_patch 21 = .ok (.iload_n 3, 1) := by decide +kernel
theorem dX10_patch_22 : decode cX10_patch 22 = .ok (.iconst 1, 1) := by decide +kernel
theorem dX10_patch_23 : decode cX10_patch 23 = .ok (.sipush 999, 3) := by decide +kernel
theorem dX10_patch_26 : decode cX10_patch 26 = .ok (.invokestatic 108, 3) := by decide +kernel
theorem dX10_patch_29 : decode cX10_patch 29 = .ok (.ifCond .ne 5, 3) := by decide +kernel
theorem dX10_patch_32 : decode cX10_patch 32 = .ok (.iconst (-1), 1) := by decide +kernel
theorem dX10_patch_33 : decode cX10_patch 33 = .ok (.ireturn, 1) := by decide +kernel
theorem dX10_patch_34 : decode cX10_patch 34 = .ok (.aload_n 0, 1) := by decide +kernel
theorem dX10_patch_35 : decode cX10_patch 35 = .ok (.getfield 61, 3) := by decide +kernel
theorem dX10_patch_38 : decode cX10_patch 38 = .ok (.iload_n 1, 1) := by decide +kernel
theorem dX10_patch_39 : decode cX10_patch 39 = .ok (.iload_n 2, 1) := by decide +kernel
theorem dX10_patch_40 : decode cX10_patch 40 = .ok (.iload_n 3, 1) := by decide +kernel
theorem dX10_patch_41 : decode cX10_patch 41 = .ok (.invokevirtual 272, 3) := by decide +kernel
theorem dX10_patch_44 : decode cX10_patch 44 = .ok (.ireturn, 1) := by decide +kernel
theorem dX4_addPatch_0 : decode cX4_addPatch 0 = .ok (.aload_n 0, 1) := by decide +kernel
theorem dX4_addPatch_1 : decode cX4_addPatch 1 = .ok (.getfield 27, 3) := by decide +kernel
theorem dX4_addPatch_4 : decode cX4_addPatch 4 = .ok (.bipush 12, 2) := by decide +kernel
theorem dX4_addPatch_6 : decode cX4_addPatch 6 = .ok (.if_icmp .lt 5, 3) := by decide +kernel
theorem dX4_addPatch_11 : decode cX4_addPatch 11 = .ok (.aload_n 0, 1) := by decide +kernel
theorem dX4_addPatch_12 : decode cX4_addPatch 12 = .ok (.getfield 11, 3) := by decide +kernel
theorem dX4_addPatch_15 : decode cX4_addPatch 15 = .ok (.aload_n 0, 1) := by decide +kernel
theorem dX4_addPatch_16 : decode cX4_addPatch 16 = .ok (.getfield 27, 3) := by decide +kernel
theorem dX4_addPatch_19 : decode cX4_addPatch 19 = .ok (.iload_n 1, 1) := by decide +kernel
theorem dX4_addPatch_20 : decode cX4_addPatch 20 = .ok (.iastore, 1) := by decide +kernel
theorem dX4_addPatch_21 : decode cX4_addPatch 21 = .ok (.aload_n 0, 1) := by decide +kernel
theorem dX4_addPatch_22 : decode cX4_addPatch 22 = .ok (.getfield 15, 3) := by decide +kernel
theorem dX4_addPatch_25 : decode cX4_addPatch 25 = .ok (.aload_n 0, 1) := by decide +kernel
theorem dX4_addPatch_26 : decode cX4_addPatch 26 = .ok (.getfield 27, 3) := by decide +kernel
theorem dX4_addPatch_29 : decode cX4_addPatch 29 = .ok (.iload_n 2, 1) := by decide +kernel
theorem dX4_addPatch_30 : decode cX4_addPatch 30 = .ok (.iastore, 1) := by decide +kernel
theorem dX4_addPatch_31 : decode cX4_addPatch 31 = .ok (.aload_n 0, 1) := by decide +kernel
theorem dX4_addPatch_32 : decode cX4_addPatch 32 = .ok (.getfield 18, 3) := by decide +kernel
theorem dX4_addPatch_35 : decode cX4_addPatch 35 = .ok (.aload_n 0, 1) := by decide +kernel
theorem dX4_addPatch_36 : decode cX4_addPatch 36 = .ok (.getfield 27, 3) := by decide +kernel
theorem dX4_addPatch_39 : decode cX4_addPatch 39 = .ok (.iload_n 3, 1) := by decide +kernel
theorem dX4_addPatch_40 : decode cX4_addPatch 40 = .ok (.iastore, 1) := by decide +kernel
theorem dX4_addPatch_41 : decode cX4_addPatch 41 = .ok (.aload_n 0, 1) := by decide +kernel
theorem dX4_addPatch_42 : decode cX4_addPatch 42 = .ok (.dup, 1) := by decide +kernel
theorem dX4_addPatch_43 : decode cX4_addPatch 43 = .ok (.getfield 27, 3) := by decide +kernel
theorem dX4_addPatch_46 : decode cX4_addPatch 46 = .ok (.iconst 1, 1) := by decide +kernel
theorem dX4_addPatch_47 : decode cX4_addPatch 47 = .ok (.iadd, 1) := by decide +kernel
theorem dX4_addPatch_48 : decode cX4_addPatch 48 = .ok (.putfield 27, 3) := by decide +kernel
theorem dX4_addPatch_51 : decode cX4_addPatch 51 = .ok (.aload_n 0, 1) := by decide +kernel
theorem dX4_addPatch_52 : decode cX4_addPatch 52 = .ok (.getfield 27, 3) := by decide +kernel
theorem dX4_addPatch_55 : decode cX4_addPatch 55 = .ok (.ireturn, 1) := by decide +kernel
theorem dX10_force_0 : decode cX10_force 0 = .ok (.iload_n 1, 1) := by decide +kernel
theorem dX10_force_1 : decode cX10_force 1 = .ok (.iconst 0, 1) := by decide +kernel
theorem dX10_force_2 : decode cX10_force 2 = .ok (.bipush 99, 2) := by decide +kernel
theorem dX10_force_4 : decode cX10_force 4 = .ok (.invokestatic 108, 3) := by decide +kernel
theorem dX10_force_7 : decode cX10_force 7 = .ok (.ifCond .eq 14, 3) := by decide +kernel
theorem dX10_force_10 : decode cX10_force 10 = .ok (.iload_n 2, 1) := by decide +kernel
theorem dX10_force_11 : decode cX10_force 11 = .ok (.iconst 1, 1) := by decide +kernel
theorem dX10_force_12 : decode cX10_force 12 = .ok (.sipush 9999, 3) := by decide +kernel
theorem dX10_force_15 : decode cX10_force 15 = .ok (.invokestatic 108, 3) := by decide +kernel
theorem dX10_force_18 : decode cX10_force 18 = .ok (.ifCond .ne 5, 3) := by decide +kernel
theorem dX10_force_21 : decode cX10_force 21 = .ok (.iconst (-1), 1) := by decide +kernel
theorem dX10_force_22 : decode cX10_force 22 = .ok (.ireturn, 1) := by decide +kernel
theorem dX10_force_23 : decode cX10_force 23 = .ok (.aload_n 0, 1) := by decide +kernel
theorem dX10_force_24 : decode cX10_force 24 = .ok (.getfield 61, 3) := by decide +kernel
theorem dX10_force_27 : decode cX10_force 27 = .ok (.iload_n 1, 1) := by decide +kernel
theorem dX10_force_28 : decode cX10_force 28 = .ok (.iload_n 2, 1) := by decide +kernel
theorem dX10_force_29 : decode cX10_force 29 = .ok (.invokevirtual 276, 3) := by decide +kernel
theorem dX10_force_32 : decode cX10_force 32 = .ok (.ireturn, 1) := by decide +kernel
theorem dX4_addPull_0 : decode cX4_addPull 0 = .ok (.aload_n 0, 1) := by decide +kernel
theorem dX4_addPull_1 : decode cX4_addPull 1 = .ok (.getfield 31, 3) := by decide +kernel
theorem dX4_addPull_4 : decode cX4_addPull 4 = .ok (.bipush 8, 2) := by decide +kernel
theorem dX4_addPull_6 : decode cX4_addPull 6 = .ok (.if_icmp .lt 5, 3) := by decide +kernel
theorem dX4_addPull_11 : decode cX4_addPull 11 = .ok (.aload_n 0, 1) := by decide +kernel
theorem dX4_addPull_12 : decode cX4_addPull 12 = .ok (.getfield 21, 3) := by decide +kernel
theorem dX4_addPull_15 : decode cX4_addPull 15 = .ok (.aload_n 0, 1) := by decide +kernel
theorem dX4_addPull_16 : decode cX4_addPull 16 = .ok (.getfield 31, 3) := by decide +kernel
theorem dX4_addPull_19 : decode cX4_addPull 19 = .ok (.iload_n 1, 1) := by decide +kernel
theorem dX4_addPull_20 : decode cX4_addPull 20 = .ok (.iastore, 1) := by decide +kernel
theorem dX4_addPull_21 : decode cX4_addPull 21 = .ok (.aload_n 0, 1) := by decide +kernel
theorem dX4_addPull_22 : decode cX4_addPull 22 = .ok (.getfield 24, 3) := by decide +kernel
theorem dX4_addPull_25 : decode cX4_addPull 25 = .ok (.aload_n 0, 1) := by decide +kernel
theorem dX4_addPull_26 : decode cX4_addPull 26 = .ok (.getfield 31, 3) := by decide +kernel
theorem dX4_addPull_29 : decode cX4_addPull 29 = .ok (.iload_n 2, 1) := by decide +kernel
theorem dX4_addPull_30 : decode cX4_addPull 30 = .ok (.iastore, 1) := by decide +kernel
theorem dX4_addPull_31 : decode cX4_addPull 31 = .ok (.aload_n 0, 1) := by decide +kernel
theorem dX4_addPull_32 : decode cX4_addPull 32 = .ok (.dup, 1) := by decide +kernel
theorem dX4_addPull_33 : decode cX4_addPull 33 = .ok (.getfield 31, 3) := by decide +kernel
theorem dX4_addPull_36 : decode cX4_addPull 36 = .ok (.iconst 1, 1) := by decide +kernel
theorem dX4_addPull_37 : decode cX4_addPull 37 = .ok (.iadd, 1) := by decide +kernel
theorem dX4_addPull_38 : decode cX4_addPull 38 = .ok (.putfield 31, 3) := by decide +kernel
theorem dX4_addPull_41 : decode cX4_addPull 41 = .ok (.aload_n 0, 1) := by decide +kernel
theorem dX4_addPull_42 : decode cX4_addPull 42 = .ok (.getfield 31, 3) := by decide +kernel
theorem dX4_addPull_45 : decode cX4_addPull 45 = .ok (.ireturn, 1) := by decide +kernel
theorem dX10_clear_0 : decode cX10_clear 0 = .ok (.aload_n 0, 1) := by decide +kernel
theorem dX10_clear_1 : decode cX10_clear 1 = .ok (.getfield 61, 3) := by decide +kernel
theorem dX10_clear_4 : decode cX10_clear 4 = .ok (.getfield 279, 3) := by decide +kernel
theorem dX10_clear_7 : decode cX10_clear 7 = .ok (.istore_n 1, 1) := by decide +kernel
theorem dX10_clear_8 : decode cX10_clear 8 = .ok (.aload_n 0, 1) := by decide +kernel
theorem dX10_clear_9 : decode cX10_clear 9 = .ok (.getfield 61, 3) := by decide +kernel
theorem dX10_clear_12 : decode cX10_clear 12 = .ok (.iconst 0, 1) := by decide +kernel
theorem dX10_clear_13 : decode cX10_clear 13 = .ok (.putfield 279, 3) := by decide +kernel
theorem dX10_clear_16 : decode cX10_clear 16 = .ok (.aload_n 0, 1) := by decide +kernel
theorem dX10_clear_17 : decode cX10_clear 17 = .ok (.getfield 61, 3) := by decide +kernel
theorem dX10_clear_20 : decode cX10_clear 20 = .ok (.iconst 0, 1) := by decide +kernel
theorem dX10_clear_21 : decode cX10_clear 21 = .ok (.putfield 280, 3) := by decide +kernel
theorem dX10_clear_24 : decode cX10_clear 24 = .ok (.iload_n 1, 1) := by decide +kernel
theorem dX10_clear_25 : decode cX10_clear 25 = .ok (.ireturn, 1) := by decide +kernel
theorem dX10_choose_0 : decode cX10_choose 0 = .ok (.iload_n 1, 1) := by decide +kernel
theorem dX10_choose_1 : decode cX10_choose 1 = .ok (.iconst 0, 1) := by decide +kernel
theorem dX10_choose_2 : decode cX10_choose 2 = .ok (.bipush 99, 2) := by decide +kernel
theorem dX10_choose_4 : decode cX10_choose 4 = .ok (.invokestatic 108, 3) := by decide +kernel
theorem dX10_choose_7 : decode cX10_choose 7 = .ok (.ifCond .eq 14, 3) := by decide +kernel
theorem dX10_choose_10 : decode cX10_choose 10 = .ok (.iload_n 2, 1) := by decide +kernel
theorem dX10_choose_11 : decode cX10_choose 11 = .ok (.iconst 0, 1) := by decide +kernel
theorem dX10_choose_12 : decode cX10_choose 12 = .ok (.sipush 20000, 3) := by decide +kernel
theorem dX10_choose_15 : decode cX10_choose 15 = .ok (.invokestatic 108, 3) := by decide +kernel
theorem dX10_choose_18 : decode cX10_choose 18 = .ok (.ifCond .ne 5, 3) := by decide +kernel
theorem dX10_choose_21 : decode cX10_choose 21 = .ok (.iconst (-1), 1) := by decide +kernel
theorem dX10_choose_22 : decode cX10_choose 22 = .ok (.ireturn, 1) := by decide +kernel
theorem dX10_choose_23 : decode cX10_choose 23 = .ok (.aload_n 0, 1) := by decide +kernel
theorem dX10_choose_24 : decode cX10_choose 24 = .ok (.getfield 61, 3) := by decide +kernel
theorem dX10_choose_27 : decode cX10_choose 27 = .ok (.iload_n 1, 1) := by decide +kernel
theorem dX10_choose_28 : decode cX10_choose 28 = .ok (.iload_n 2, 1) := by decide +kernel
theorem dX10_choose_29 : decode cX10_choose 29 = .ok (.invokevirtual 283, 3) := by decide +kernel
theorem dX10_choose_32 : decode cX10_choose 32 = .ok (.ireturn, 1) := by decide +kernel
theorem dX4_pick_0 : decode cX4_pick 0 = .ok (.aload_n 0, 1) := by decide +kernel
theorem dX4_pick_1 : decode cX4_pick 1 = .ok (.iload_n 1, 1) := by decide +kernel
theorem dX4_pick_2 : decode cX4_pick 2 = .ok (.putfield 40, 3) := by decide +kernel
theorem dX4_pick_5 : decode cX4_pick 5 = .ok (.aload_n 0, 1) := by decide +kernel
theorem dX4_pick_6 : decode cX4_pick 6 = .ok (.iload_n 2, 1) := by decide +kernel
theorem dX4_pick_7 : decode cX4_pick 7 = .ok (.putfield 43, 3) := by decide +kernel
theorem dX4_pick_10 : decode cX4_pick 10 = .ok (.aload_n 0, 1) := by decide +kernel
theorem dX4_pick_11 : decode cX4_pick 11 = .ok (.ldc 46, 2) := by decide +kernel
theorem dX4_pick_13 : decode cX4_pick 13 = .ok (.putfield 47, 3) := by decide +kernel
theorem dX4_pick_16 : decode cX4_pick 16 = .ok (.aload_n 0, 1) := by decide +kernel
theorem dX4_pick_17 : decode cX4_pick 17 = .ok (.iconst 0, 1) := by decide +kernel
theorem dX4_pick_18 : decode cX4_pick 18 = .ok (.putfield 50, 3) := by decide +kernel
theorem dX4_pick_21 : decode cX4_pick 21 = .ok (.aload_n 0, 1) := by decide +kernel
theorem dX4_pick_22 : decode cX4_pick 22 = .ok (.iconst (-1), 1) := by decide +kernel
theorem dX4_pick_23 : decode cX4_pick 23 = .ok (.putfield 53, 3) := by decide +kernel
theorem dX4_pick_26 : decode cX4_pick 26 = .ok (.iconst 1, 1) := by decide +kernel
theorem dX4_pick_27 : decode cX4_pick 27 = .ok (.aload_n 0, 1) := by decide +kernel
theorem dX4_pick_28 : decode cX4_pick 28 = .ok (.getfield 27, 3) := by decide +kernel
theorem dX4_pick_31 : decode cX4_pick 31 = .ok (.ishl, 1) := by decide +kernel
theorem dX4_pick_32 : decode cX4_pick 32 = .ok (.iconst 1, 1) := by decide +kernel
theorem dX4_pick_33 : decode cX4_pick 33 = .ok (.isub, 1) := by decide +kernel
theorem dX4_pick_34 : decode cX4_pick 34 = .ok (.istore_n 3, 1) := by decide +kernel
theorem dX4_pick_35 : decode cX4_pick 35 = .ok (.aload_n 0, 1) := by decide +kernel
theorem dX4_pick_36 : decode cX4_pick 36 = .ok (.iload_n 3, 1) := by decide +kernel
theorem dX4_pick_37 : decode cX4_pick 37 = .ok (.invokevirtual 56, 3) := by decide +kernel
theorem dX4_pick_40 : decode cX4_pick 40 = .ok (.ifCond .eq 12, 3) := by decide +kernel
theorem dX4_pick_43 : decode cX4_pick 43 = .ok (.aload_n 0, 1) := by decide +kernel
theorem dX4_pick_44 : decode cX4_pick 44 = .ok (.iconst 0, 1) := by decide +kernel
theorem dX4_pick_45 : decode cX4_pick 45 = .ok (.iload_n 3, 1) := by decide +kernel
theorem dX4_pick_46 : decode cX4_pick 46 = .ok (.iconst 0, 1) := by decide +kernel
theorem dX4_pick_47 : decode cX4_pick 47 = .ok (.iconst 0, 1) := by decide +kernel
theorem dX4_pick_48 : decode cX4_pick 48 = .ok (.iconst 0, 1) := by decide +kernel
theorem dX4_pick_49 : decode cX4_pick 49 = .ok (.invokevirtual 60, 3) := by decide +kernel
theorem dX4_pick_52 : decode cX4_pick 52 = .ok (.aload_n 0, 1) := by decide +kernel
theorem dX4_pick_53 : decode cX4_pick 53 = .ok (.getfield 53, 3) := by decide +kernel
theorem dX4_pick_56 : decode cX4_pick 56 = .ok (.iconst (-1), 1) := by decide +kernel
theorem dX4_pick_57 : decode cX4_pick 57 = .ok (.if_icmp .ne 5, 3) := by decide +kernel
theorem dX4_pick_62 : decode cX4_pick 62 = .ok (.aload_n 0, 1) := by decide +kernel
theorem dX4_pick_63 : decode cX4_pick 63 = .ok (.aload_n 0, 1) := by decide +kernel
theorem dX4_pick_64 : decode cX4_pick 64 = .ok (.getfield 53, 3) := by decide +kernel
theorem dX4_pick_67 : decode cX4_pick 67 = .ok (.putfield 34, 3) := by decide +kernel
theorem dX4_pick_70 : decode cX4_pick 70 = .ok (.aload_n 0, 1) := by decide +kernel
theorem dX4_pick_71 : decode cX4_pick 71 = .ok (.aload_n 0, 1) := by decide +kernel
theorem dX4_pick_72 : decode cX4_pick 72 = .ok (.getfield 27, 3) := by decide +kernel
theorem dX4_pick_75 : decode cX4_pick 75 = .ok (.putfield 37, 3) := by decide +kernel
theorem dX4_pick_78 : decode cX4_pick 78 = .ok (.aload_n 0, 1) := by decide +kernel
theorem dX4_pick_79 : decode cX4_pick 79 = .ok (.getfield 47, 3) := by decide +kernel
theorem dX4_pick_82 : decode cX4_pick 82 = .ok (.ireturn, 1) := by decide +kernel
theorem dX4_holdsAll_0 : decode cX4_holdsAll 0 = .ok (.iconst 0, 1) := by decide +kernel
theorem dX4_holdsAll_1 : decode cX4_holdsAll 1 = .ok (.istore_n 2, 1) := by decide +kernel
theorem dX4_holdsAll_2 : decode cX4_holdsAll 2 = .ok (.iload_n 2, 1) := by decide +kernel
theorem dX4_holdsAll_3 : decode cX4_holdsAll 3 = .ok (.aload_n 0, 1) := by decide +kernel
theorem dX4_holdsAll_4 : decode cX4_holdsAll 4 = .ok (.getfield 31, 3) := by decide +kernel
theorem dX4_holdsAll_7 : decode cX4_holdsAll 7 = .ok (.if_icmp .ge 20, 3) := by decide +kernel
theorem dX4_holdsAll_27 : decode cX4_holdsAll 27 = .ok (.iconst 1, 1) := by decide +kernel
theorem dX4_holdsAll_28 : decode cX4_holdsAll 28 = .ok (.ireturn, 1) := by decide +kernel
theorem dX4_search_0 : decode cX4_search 0 = .ok (.iload 5, 2) := by decide +kernel
theorem dX4_search_2 : decode cX4_search 2 = .ok (.aload_n 0, 1) := by decide +kernel
theorem dX4_search_3 : decode cX4_search 3 = .ok (.getfield 43, 3) := by decide +kernel
theorem dX4_search_6 : decode cX4_search 6 = .ok (.if_icmp .gt 28, 3) := by decide +kernel
theorem dX4_search_9 : decode cX4_search 9 = .ok (.iload_n 3, 1) := by decide +kernel
theorem dX4_search_10 : decode cX4_search 10 = .ok (.aload_n 0, 1) := by decide +kernel
theorem dX4_search_11 : decode cX4_search 11 = .ok (.getfield 47, 3) := by decide +kernel
theorem dX4_search_14 : decode cX4_search 14 = .ok (.if_icmp .gt 20, 3) := by decide +kernel
theorem dX4_search_17 : decode cX4_search 17 = .ok (.iload_n 3, 1) := by decide +kernel
theorem dX4_search_18 : decode cX4_search 18 = .ok (.aload_n 0, 1) := by decide +kernel
theorem dX4_search_19 : decode cX4_search 19 = .ok (.getfield 47, 3) := by decide +kernel
theorem dX4_search_22 : decode cX4_search 22 = .ok (.if_icmp .ne 13, 3) := by decide +kernel
theorem dX4_search_35 : decode cX4_search 35 = .ok (.iload_n 1, 1) := by decide +kernel
theorem dX4_search_36 : decode cX4_search 36 = .ok (.aload_n 0, 1) := by decide +kernel
theorem dX4_search_37 : decode cX4_search 37 = .ok (.getfield 27, 3) := by decide +kernel
theorem dX4_search_40 : decode cX4_search 40 = .ok (.if_icmp .lt 20, 3) := by decide +kernel
theorem dX4_search_43 : decode cX4_search 43 = .ok (.aload_n 0, 1) := by decide +kernel
theorem dX4_search_44 : decode cX4_search 44 = .ok (.iload_n 3, 1) := by decide +kernel
theorem dX4_search_45 : decode cX4_search 45 = .ok (.putfield 47, 3) := by decide +kernel
theorem dX4_search_48 : decode cX4_search 48 = .ok (.aload_n 0, 1) := by decide +kernel
theorem dX4_search_49 : decode cX4_search 49 = .ok (.iload 4, 2) := by decide +kernel
theorem dX4_search_51 : decode cX4_search 51 = .ok (.putfield 50, 3) := by decide +kernel
theorem dX4_search_54 : decode cX4_search 54 = .ok (.aload_n 0, 1) := by decide +kernel
theorem dX4_search_55 : decode cX4_search 55 = .ok (.iload_n 2, 1) := by decide +kernel
theorem dX4_search_56 : decode cX4_search 56 = .ok (.putfield 53, 3) := by decide +kernel
theorem dX4_search_59 : decode cX4_search 59 = .ok (.return_, 1) := by decide +kernel
theorem dX10_chosen_0 : decode cX10_chosen 0 = .ok (.iload_n 1, 1) := by decide +kernel
theorem dX10_chosen_1 : decode cX10_chosen 1 = .ok (.iconst 0, 1) := by decide +kernel
theorem dX10_chosen_2 : decode cX10_chosen 2 = .ok (.aload_n 0, 1) := by decide +kernel
theorem dX10_chosen_3 : decode cX10_chosen 3 = .ok (.getfield 61, 3) := by decide +kernel
theorem dX10_chosen_6 : decode cX10_chosen 6 = .ok (.getfield 286, 3) := by decide +kernel
theorem dX10_chosen_9 : decode cX10_chosen 9 = .ok (.iconst 1, 1) := by decide +kernel
theorem dX10_chosen_10 : decode cX10_chosen 10 = .ok (.isub, 1) := by decide +kernel
theorem dX10_chosen_11 : decode cX10_chosen 11 = .ok (.invokestatic 108, 3) := by decide +kernel
theorem dX10_chosen_14 : decode cX10_chosen 14 = .ok (.ifCond .ne 5, 3) := by decide +kernel
theorem dX10_chosen_17 : decode cX10_chosen 17 = .ok (.iconst (-1), 1) := by decide +kernel
theorem dX10_chosen_18 : decode cX10_chosen 18 = .ok (.ireturn, 1) := by decide +kernel
theorem dX10_isBatch_0 : decode cX10_isBatch 0 = .ok (.iload_n 0, 1) := by decide +kernel
theorem dX10_isBatch_1 : decode cX10_isBatch 1 = .ok (.iconst 1, 1) := by decide +kernel
theorem dX10_isBatch_2 : decode cX10_isBatch 2 = .ok (.bipush 50, 2) := by decide +kernel
theorem dX10_isBatch_4 : decode cX10_isBatch 4 = .ok (.invokestatic 108, 3) := by decide +kernel
theorem dX10_isBatch_7 : decode cX10_isBatch 7 = .ok (.ifCond .eq 16, 3) := by decide +kernel
theorem dX10_isBatch_10 : decode cX10_isBatch 10 = .ok (.iload_n 1, 1) := by decide +kernel
theorem dX10_isBatch_11 : decode cX10_isBatch 11 = .ok (.iconst 0, 1) := by decide +kernel
theorem dX10_isBatch_12 : decode cX10_isBatch 12 = .ok (.iload_n 0, 1) := by decide +kernel
theorem dX10_isBatch_13 : decode cX10_isBatch 13 = .ok (.invokestatic 108, 3) := by decide +kernel
theorem dX10_isBatch_16 : decode cX10_isBatch 16 = .ok (.ifCond .eq 7, 3) := by decide +kernel
theorem dX10_isBatch_19 : decode cX10_isBatch 19 = .ok (.iconst 1, 1) := by decide +kernel
theorem dX10_isBatch_20 : decode cX10_isBatch 20 = .ok (.goto 4, 3) := by decide +kernel
theorem dX10_isBatch_23 : decode cX10_isBatch 23 = .ok (.iconst 0, 1) := by decide +kernel
theorem dX10_isBatch_24 : decode cX10_isBatch 24 = .ok (.ireturn, 1) := by decide +kernel
theorem dX10_all_0 : decode cX10_all 0 = .ok (.iload_n 1, 1) := by decide +kernel
theorem dX10_all_1 : decode cX10_all 1 = .ok (.tableswitch 93 0 6 #[43, 48, 56, 64, 69, 77, 85], 43) := by decide +kernel
theorem dX10_all_44 : decode cX10_all 44 = .ok (.aload_n 0, 1) := by decide +kernel
theorem dX10_all_45 : decode cX10_all 45 = .ok (.getfield 84, 3) := by decide +kernel
theorem dX10_all_48 : decode cX10_all 48 = .ok (.ireturn, 1) := by decide +kernel
theorem dX10_all_49 : decode cX10_all 49 = .ok (.aload_n 0, 1) := by decide +kernel
theorem dX10_all_50 : decode cX10_all 50 = .ok (.getfield 68, 3) := by decide +kernel
theorem dX10_all_53 : decode cX10_all 53 = .ok (.getfield 136, 3) := by decide +kernel
theorem dX10_all_56 : decode cX10_all 56 = .ok (.ireturn, 1) := by decide +kernel
theorem dX10_all_57 : decode cX10_all 57 = .ok (.aload_n 0, 1) := by decide +kernel
theorem dX10_all_58 : decode cX10_all 58 = .ok (.getfield 19, 3) := by decide +kernel
theorem dX10_all_61 : decode cX10_all 61 = .ok (.getfield 126, 3) := by decide +kernel
theorem dX10_all_64 : decode cX10_all 64 = .ok (.ireturn, 1) := by decide +kernel
theorem dX10_all_65 : decode cX10_all 65 = .ok (.aload_n 0, 1) := by decide +kernel
theorem dX10_all_66 : decode cX10_all 66 = .ok (.invokevirtual 301, 3) := by decide +kernel
theorem dX10_all_69 : decode cX10_all 69 = .ok (.ireturn, 1) := by decide +kernel
theorem dX10_all_70 : decode cX10_all 70 = .ok (.aload_n 0, 1) := by decide +kernel
theorem dX10_all_71 : decode cX10_all 71 = .ok (.invokevirtual 162, 3) := by decide +kernel
theorem dX10_all_74 : decode cX10_all 74 = .ok (.invokevirtual 305, 3) := by decide +kernel
theorem dX10_all_77 : decode cX10_all 77 = .ok (.ireturn, 1) := by decide +kernel
theorem dX10_all_78 : decode cX10_all 78 = .ok (.aload_n 0, 1) := by decide +kernel
theorem dX10_all_79 : decode cX10_all 79 = .ok (.getfield 61, 3) := by decide +kernel
theorem dX10_all_82 : decode cX10_all 82 = .ok (.getfield 279, 3) := by decide +kernel
theorem dX10_all_85 : decode cX10_all 85 = .ok (.ireturn, 1) := by decide +kernel
theorem dX10_all_86 : decode cX10_all 86 = .ok (.aload_n 0, 1) := by decide +kernel
theorem dX10_all_87 : decode cX10_all 87 = .ok (.getfield 61, 3) := by decide +kernel
theorem dX10_all_90 : decode cX10_all 90 = .ok (.getfield 280, 3) := by decide +kernel
theorem dX10_all_93 : decode cX10_all 93 = .ok (.ireturn, 1) := by decide +kernel
