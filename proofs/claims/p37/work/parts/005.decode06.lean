theorem dX11_annul_58 : decode cX11_annul 58 = .ok (.putfield 148, 3) := by decide +kernel
theorem dX11_annul_61 : decode cX11_annul 61 = .ok (.aload_n 0, 1) := by decide +kernel
theorem dX11_annul_62 : decode cX11_annul 62 = .ok (.iconst 5, 1) := by decide +kernel
theorem dX11_annul_63 : decode cX11_annul 63 = .ok (.iconst 0, 1) := by decide +kernel
theorem dX11_annul_64 : decode cX11_annul 64 = .ok (.iconst 0, 1) := by decide +kernel
theorem dX11_annul_65 : decode cX11_annul 65 = .ok (.iconst 0, 1) := by decide +kernel
theorem dX11_annul_66 : decode cX11_annul 66 = .ok (.iconst 0, 1) := by decide +kernel
theorem dX11_annul_67 : decode cX11_annul 67 = .ok (.invokevirtual 427, 3) := by decide +kernel
theorem dX11_annul_70 : decode cX11_annul 70 = .ok (.ireturn, 1) := by decide +kernel
theorem dX11_as_0 : decode cX11_as 0 = .ok (.iload_n 1, 1) := by decide +kernel
theorem dX11_as_1 : decode cX11_as 1 = .ok (.i2l, 1) := by decide +kernel
theorem dX11_as_2 : decode cX11_as 2 = .ok (.ldc2_w 439, 3) := by decide +kernel
theorem dX11_as_5 : decode cX11_as 5 = .ok (.aload_n 0, 1) := by decide +kernel
theorem dX11_as_6 : decode cX11_as 6 = .ok (.getfield 412, 3) := by decide +kernel
theorem dX11_as_9 : decode cX11_as 9 = .ok (.i2l, 1) := by decide +kernel
theorem dX11_as_10 : decode cX11_as 10 = .ok (.invokestatic 300, 3) := by decide +kernel
theorem dX11_as_13 : decode cX11_as 13 = .ok (.ifCond .ne 5, 3) := by decide +kernel
theorem dX11_as_16 : decode cX11_as 16 = .ok (.iconst 0, 1) := by decide +kernel
theorem dX11_as_17 : decode cX11_as 17 = .ok (.ireturn, 1) := by decide +kernel
theorem dX11_as_18 : decode cX11_as 18 = .ok (.aload_n 0, 1) := by decide +kernel
theorem dX11_as_19 : decode cX11_as 19 = .ok (.iload_n 1, 1) := by decide +kernel
theorem dX11_as_20 : decode cX11_as 20 = .ok (.putfield 145, 3) := by decide +kernel
theorem dX11_as_23 : decode cX11_as 23 = .ok (.iconst 1, 1) := by decide +kernel
theorem dX11_as_24 : decode cX11_as 24 = .ok (.ireturn, 1) := by decide +kernel
theorem dX11_now_0 : decode cX11_now 0 = .ok (.aload_n 0, 1) := by decide +kernel
theorem dX11_now_1 : decode cX11_now 1 = .ok (.getfield 145, 3) := by decide +kernel
theorem dX11_now_4 : decode cX11_now 4 = .ok (.iconst (-1), 1) := by decide +kernel
theorem dX11_now_5 : decode cX11_now 5 = .ok (.if_icmp .ne 10, 3) := by decide +kernel
theorem dX11_now_8 : decode cX11_now 8 = .ok (.aload_n 0, 1) := by decide +kernel
theorem dX11_now_9 : decode cX11_now 9 = .ok (.getfield 412, 3) := by decide +kernel
theorem dX11_now_12 : decode cX11_now 12 = .ok (.goto 7, 3) := by decide +kernel
theorem dX11_now_15 : decode cX11_now 15 = .ok (.aload_n 0, 1) := by decide +kernel
theorem dX11_now_16 : decode cX11_now 16 = .ok (.getfield 145, 3) := by decide +kernel
theorem dX11_now_19 : decode cX11_now 19 = .ok (.ireturn, 1) := by decide +kernel
theorem dX11_isKnown_0 : decode cX11_isKnown 0 = .ok (.aload_n 0, 1) := by decide +kernel
theorem dX11_isKnown_1 : decode cX11_isKnown 1 = .ok (.getfield 142, 3) := by decide +kernel
theorem dX11_isKnown_4 : decode cX11_isKnown 4 = .ok (.iload_n 1, 1) := by decide +kernel
theorem dX11_isKnown_5 : decode cX11_isKnown 5 = .ok (.iaload, 1) := by decide +kernel
theorem dX11_isKnown_6 : decode cX11_isKnown 6 = .ok (.ifCond .eq 13, 3) := by decide +kernel
theorem dX11_isKnown_9 : decode cX11_isKnown 9 = .ok (.aload_n 0, 1) := by decide +kernel
theorem dX11_isKnown_10 : decode cX11_isKnown 10 = .ok (.getfield 142, 3) := by decide +kernel
theorem dX11_isKnown_13 : decode cX11_isKnown 13 = .ok (.iload_n 1, 1) := by decide +kernel
theorem dX11_isKnown_14 : decode cX11_isKnown 14 = .ok (.iaload, 1) := by decide +kernel
theorem dX11_isKnown_15 : decode cX11_isKnown 15 = .ok (.iload_n 2, 1) := by decide +kernel
theorem dX11_isKnown_16 : decode cX11_isKnown 16 = .ok (.if_icmp .le 7, 3) := by decide +kernel
theorem dX11_isKnown_19 : decode cX11_isKnown 19 = .ok (.iconst 1, 1) := by decide +kernel
theorem dX11_isKnown_20 : decode cX11_isKnown 20 = .ok (.goto 4, 3) := by decide +kernel
theorem dX11_isKnown_23 : decode cX11_isKnown 23 = .ok (.iconst 0, 1) := by decide +kernel
theorem dX11_isKnown_24 : decode cX11_isKnown 24 = .ok (.ireturn, 1) := by decide +kernel
theorem dX11_goes_0 : decode cX11_goes 0 = .ok (.aload_n 0, 1) := by decide +kernel
theorem dX11_goes_1 : decode cX11_goes 1 = .ok (.invokevirtual 441, 3) := by decide +kernel
theorem dX11_goes_4 : decode cX11_goes 4 = .ok (.istore_n 1, 1) := by decide +kernel
theorem dX11_goes_5 : decode cX11_goes 5 = .ok (.aload_n 0, 1) := by decide +kernel
theorem dX11_goes_6 : decode cX11_goes 6 = .ok (.getfield 148, 3) := by decide +kernel
theorem dX11_goes_9 : decode cX11_goes 9 = .ok (.iconst (-1), 1) := by decide +kernel
theorem dX11_goes_10 : decode cX11_goes 10 = .ok (.if_icmp .eq 11, 3) := by decide +kernel
theorem dX11_goes_13 : decode cX11_goes 13 = .ok (.aload_n 0, 1) := by decide +kernel
theorem dX11_goes_14 : decode cX11_goes 14 = .ok (.getfield 148, 3) := by decide +kernel
theorem dX11_goes_17 : decode cX11_goes 17 = .ok (.iload_n 1, 1) := by decide +kernel
theorem dX11_goes_18 : decode cX11_goes 18 = .ok (.if_icmp .le 7, 3) := by decide +kernel
theorem dX11_goes_21 : decode cX11_goes 21 = .ok (.iconst 1, 1) := by decide +kernel
theorem dX11_goes_22 : decode cX11_goes 22 = .ok (.goto 4, 3) := by decide +kernel
theorem dX11_goes_25 : decode cX11_goes 25 = .ok (.iconst 0, 1) := by decide +kernel
theorem dX11_goes_26 : decode cX11_goes 26 = .ok (.istore_n 2, 1) := by decide +kernel
theorem dX11_goes_27 : decode cX11_goes 27 = .ok (.iconst 1, 1) := by decide +kernel
theorem dX11_goes_28 : decode cX11_goes 28 = .ok (.istore_n 3, 1) := by decide +kernel
theorem dX11_goes_29 : decode cX11_goes 29 = .ok (.iload_n 3, 1) := by decide +kernel
theorem dX11_goes_30 : decode cX11_goes 30 = .ok (.aload_n 0, 1) := by decide +kernel
theorem dX11_goes_31 : decode cX11_goes 31 = .ok (.getfield 148, 3) := by decide +kernel
theorem dX11_goes_34 : decode cX11_goes 34 = .ok (.if_icmp .gt 37, 3) := by decide +kernel
theorem dX11_goes_37 : decode cX11_goes 37 = .ok (.iload_n 2, 1) := by decide +kernel
theorem dX11_goes_38 : decode cX11_goes 38 = .ok (.ifCond .ne 33, 3) := by decide +kernel
theorem dX11_goes_41 : decode cX11_goes 41 = .ok (.aload_n 0, 1) := by decide +kernel
theorem dX11_goes_42 : decode cX11_goes 42 = .ok (.iload_n 3, 1) := by decide +kernel
theorem dX11_goes_43 : decode cX11_goes 43 = .ok (.iload_n 1, 1) := by decide +kernel
theorem dX11_goes_44 : decode cX11_goes 44 = .ok (.invokevirtual 444, 3) := by decide +kernel
theorem dX11_goes_47 : decode cX11_goes 47 = .ok (.aload_n 0, 1) := by decide +kernel
theorem dX11_goes_48 : decode cX11_goes 48 = .ok (.iload_n 3, 1) := by decide +kernel
theorem dX11_goes_49 : decode cX11_goes 49 = .ok (.aload_n 0, 1) := by decide +kernel
theorem dX11_goes_50 : decode cX11_goes 50 = .ok (.getfield 148, 3) := by decide +kernel
theorem dX11_goes_53 : decode cX11_goes 53 = .ok (.invokevirtual 444, 3) := by decide +kernel
theorem dX11_goes_56 : decode cX11_goes 56 = .ok (.if_icmp .eq 7, 3) := by decide +kernel
theorem dX11_goes_59 : decode cX11_goes 59 = .ok (.iconst 1, 1) := by decide +kernel
theorem dX11_goes_60 : decode cX11_goes 60 = .ok (.goto 4, 3) := by decide +kernel
theorem dX11_goes_63 : decode cX11_goes 63 = .ok (.iconst 0, 1) := by decide +kernel
theorem dX11_goes_64 : decode cX11_goes 64 = .ok (.istore_n 2, 1) := by decide +kernel
theorem dX11_goes_65 : decode cX11_goes 65 = .ok (.iinc 3 1, 3) := by decide +kernel
theorem dX11_goes_68 : decode cX11_goes 68 = .ok (.goto (-39), 3) := by decide +kernel
theorem dX11_goes_71 : decode cX11_goes 71 = .ok (.iload_n 2, 1) := by decide +kernel
theorem dX11_goes_72 : decode cX11_goes 72 = .ok (.ifCond .eq 62, 3) := by decide +kernel
theorem dX11_goes_75 : decode cX11_goes 75 = .ok (.aload_n 0, 1) := by decide +kernel
theorem dX11_goes_76 : decode cX11_goes 76 = .ok (.iconst 0, 1) := by decide +kernel
theorem dX11_goes_77 : decode cX11_goes 77 = .ok (.putfield 148, 3) := by decide +kernel
theorem dX11_goes_80 : decode cX11_goes 80 = .ok (.aload_n 0, 1) := by decide +kernel
theorem dX11_goes_81 : decode cX11_goes 81 = .ok (.iconst 0, 1) := by decide +kernel
theorem dX11_goes_82 : decode cX11_goes 82 = .ok (.putfield 447, 3) := by decide +kernel
theorem dX11_goes_85 : decode cX11_goes 85 = .ok (.iconst 0, 1) := by decide +kernel
theorem dX11_goes_86 : decode cX11_goes 86 = .ok (.istore_n 3, 1) := by decide +kernel
theorem dX11_goes_87 : decode cX11_goes 87 = .ok (.iload_n 3, 1) := by decide +kernel
theorem dX11_goes_88 : decode cX11_goes 88 = .ok (.bipush 64, 2) := by decide +kernel
theorem dX11_goes_90 : decode cX11_goes 90 = .ok (.if_icmp .ge 44, 3) := by decide +kernel
theorem dX11_goes_93 : decode cX11_goes 93 = .ok (.aload_n 0, 1) := by decide +kernel
theorem dX11_goes_94 : decode cX11_goes 94 = .ok (.getfield 151, 3) := by decide +kernel
theorem dX11_goes_97 : decode cX11_goes 97 = .ok (.iload_n 3, 1) := by decide +kernel
theorem dX11_goes_98 : decode cX11_goes 98 = .ok (.iconst (-1), 1) := by decide +kernel
theorem dX11_goes_99 : decode cX11_goes 99 = .ok (.iastore, 1) := by decide +kernel
theorem dX11_goes_100 : decode cX11_goes 100 = .ok (.aload_n 0, 1) := by decide +kernel
theorem dX11_goes_101 : decode cX11_goes 101 = .ok (.getfield 154, 3) := by decide +kernel
theorem dX11_goes_104 : decode cX11_goes 104 = .ok (.iload_n 3, 1) := by decide +kernel
theorem dX11_goes_105 : decode cX11_goes 105 = .ok (.iconst 0, 1) := by decide +kernel
theorem dX11_goes_106 : decode cX11_goes 106 = .ok (.iastore, 1) := by decide +kernel
theorem dX11_goes_107 : decode cX11_goes 107 = .ok (.aload_n 0, 1) := by decide +kernel
theorem dX11_goes_108 : decode cX11_goes 108 = .ok (.getfield 157, 3) := by decide +kernel
theorem dX11_goes_111 : decode cX11_goes 111 = .ok (.iload_n 3, 1) := by decide +kernel
theorem dX11_goes_112 : decode cX11_goes 112 = .ok (.iconst 0, 1) := by decide +kernel
theorem dX11_goes_113 : decode cX11_goes 113 = .ok (.iastore, 1) := by decide +kernel
theorem dX11_goes_114 : decode cX11_goes 114 = .ok (.aload_n 0, 1) := by decide +kernel
theorem dX11_goes_115 : decode cX11_goes 115 = .ok (.getfield 160, 3) := by decide +kernel
theorem dX11_goes_118 : decode cX11_goes 118 = .ok (.iload_n 3, 1) := by decide +kernel
theorem dX11_goes_119 : decode cX11_goes 119 = .ok (.iconst 0, 1) := by decide +kernel
theorem dX11_goes_120 : decode cX11_goes 120 = .ok (.iastore, 1) := by decide +kernel
theorem dX11_goes_121 : decode cX11_goes 121 = .ok (.aload_n 0, 1) := by decide +kernel
theorem dX11_goes_122 : decode cX11_goes 122 = .ok (.getfield 163, 3) := by decide +kernel
theorem dX11_goes_125 : decode cX11_goes 125 = .ok (.iload_n 3, 1) := by decide +kernel
theorem dX11_goes_126 : decode cX11_goes 126 = .ok (.iconst 0, 1) := by decide +kernel
theorem dX11_goes_127 : decode cX11_goes 127 = .ok (.iastore, 1) := by decide +kernel
theorem dX11_goes_128 : decode cX11_goes 128 = .ok (.iinc 3 1, 3) := by decide +kernel
theorem dX11_goes_131 : decode cX11_goes 131 = .ok (.goto (-44), 3) := by decide +kernel
theorem dX11_goes_134 : decode cX11_goes 134 = .ok (.aload_n 0, 1) := by decide +kernel
theorem dX11_goes_135 : decode cX11_goes 135 = .ok (.getfield 148, 3) := by decide +kernel
theorem dX11_goes_138 : decode cX11_goes 138 = .ok (.iconst 1, 1) := by decide +kernel
theorem dX11_goes_139 : decode cX11_goes 139 = .ok (.iadd, 1) := by decide +kernel
theorem dX11_goes_140 : decode cX11_goes 140 = .ok (.istore_n 3, 1) := by decide +kernel
theorem dX11_goes_141 : decode cX11_goes 141 = .ok (.iload_n 3, 1) := by decide +kernel
theorem dX11_goes_142 : decode cX11_goes 142 = .ok (.iload_n 1, 1) := by decide +kernel
theorem dX11_goes_143 : decode cX11_goes 143 = .ok (.if_icmp .gt 23, 3) := by decide +kernel
theorem dX11_goes_146 : decode cX11_goes 146 = .ok (.aload_n 0, 1) := by decide +kernel
theorem dX11_goes_147 : decode cX11_goes 147 = .ok (.iload_n 3, 1) := by decide +kernel
theorem dX11_goes_148 : decode cX11_goes 148 = .ok (.iload_n 1, 1) := by decide +kernel
theorem dX11_goes_149 : decode cX11_goes 149 = .ok (.invokevirtual 444, 3) := by decide +kernel
theorem dX11_goes_152 : decode cX11_goes 152 = .ok (.ifCond .eq 8, 3) := by decide +kernel
theorem dX11_goes_155 : decode cX11_goes 155 = .ok (.aload_n 0, 1) := by decide +kernel
theorem dX11_goes_156 : decode cX11_goes 156 = .ok (.iload_n 3, 1) := by decide +kernel
theorem dX11_goes_157 : decode cX11_goes 157 = .ok (.invokevirtual 450, 3) := by decide +kernel
theorem dX11_goes_160 : decode cX11_goes 160 = .ok (.iinc 3 1, 3) := by decide +kernel
theorem dX11_goes_163 : decode cX11_goes 163 = .ok (.goto (-22), 3) := by decide +kernel
theorem dX11_goes_166 : decode cX11_goes 166 = .ok (.aload_n 0, 1) := by decide +kernel
theorem dX11_goes_167 : decode cX11_goes 167 = .ok (.iload_n 1, 1) := by decide +kernel
theorem dX11_goes_168 : decode cX11_goes 168 = .ok (.putfield 148, 3) := by decide +kernel
theorem dX11_goes_171 : decode cX11_goes 171 = .ok (.return_, 1) := by decide +kernel
theorem dX11_does_0 : decode cX11_does 0 = .ok (.aload_n 0, 1) := by decide +kernel
theorem dX11_does_1 : decode cX11_does 1 = .ok (.getfield 130, 3) := by decide +kernel
theorem dX11_does_4 : decode cX11_does 4 = .ok (.iload_n 1, 1) := by decide +kernel
theorem dX11_does_5 : decode cX11_does 5 = .ok (.iaload, 1) := by decide +kernel
theorem dX11_does_6 : decode cX11_does 6 = .ok (.istore_n 2, 1) := by decide +kernel
theorem dX11_does_7 : decode cX11_does 7 = .ok (.aload_n 0, 1) := by decide +kernel
theorem dX11_does_8 : decode cX11_does 8 = .ok (.getfield 127, 3) := by decide +kernel
theorem dX11_does_11 : decode cX11_does 11 = .ok (.iload_n 1, 1) := by decide +kernel
theorem dX11_does_12 : decode cX11_does 12 = .ok (.iaload, 1) := by decide +kernel
theorem dX11_does_13 : decode cX11_does 13 = .ok (.iconst 1, 1) := by decide +kernel
theorem dX11_does_14 : decode cX11_does 14 = .ok (.if_icmp .ne 37, 3) := by decide +kernel
theorem dX11_does_17 : decode cX11_does 17 = .ok (.aload_n 0, 1) := by decide +kernel
theorem dX11_does_18 : decode cX11_does 18 = .ok (.getfield 151, 3) := by decide +kernel
theorem dX11_does_21 : decode cX11_does 21 = .ok (.iload_n 2, 1) := by decide +kernel
theorem dX11_does_22 : decode cX11_does 22 = .ok (.aload_n 0, 1) := by decide +kernel
theorem dX11_does_23 : decode cX11_does 23 = .ok (.getfield 133, 3) := by decide +kernel
theorem dX11_does_26 : decode cX11_does 26 = .ok (.iload_n 1, 1) := by decide +kernel
theorem dX11_does_27 : decode cX11_does 27 = .ok (.iaload, 1) := by decide +kernel
theorem dX11_does_28 : decode cX11_does 28 = .ok (.iastore, 1) := by decide +kernel
theorem dX11_does_29 : decode cX11_does 29 = .ok (.aload_n 0, 1) := by decide +kernel
theorem dX11_does_30 : decode cX11_does 30 = .ok (.getfield 154, 3) := by decide +kernel
theorem dX11_does_33 : decode cX11_does 33 = .ok (.iload_n 2, 1) := by decide +kernel
theorem dX11_does_34 : decode cX11_does 34 = .ok (.aload_n 0, 1) := by decide +kernel
theorem dX11_does_35 : decode cX11_does 35 = .ok (.getfield 136, 3) := by decide +kernel
theorem dX11_does_38 : decode cX11_does 38 = .ok (.iload_n 1, 1) := by decide +kernel
theorem dX11_does_39 : decode cX11_does 39 = .ok (.iaload, 1) := by decide +kernel
theorem dX11_does_40 : decode cX11_does 40 = .ok (.iastore, 1) := by decide +kernel
theorem dX11_does_41 : decode cX11_does 41 = .ok (.aload_n 0, 1) := by decide +kernel
theorem dX11_does_42 : decode cX11_does 42 = .ok (.getfield 157, 3) := by decide +kernel
theorem dX11_does_45 : decode cX11_does 45 = .ok (.iload_n 2, 1) := by decide +kernel
theorem dX11_does_46 : decode cX11_does 46 = .ok (.iconst 0, 1) := by decide +kernel
theorem dX11_does_47 : decode cX11_does 47 = .ok (.iastore, 1) := by decide +kernel
theorem dX11_does_48 : decode cX11_does 48 = .ok (.goto 163, 3) := by decide +kernel
theorem dX11_does_51 : decode cX11_does 51 = .ok (.aload_n 0, 1) := by decide +kernel
theorem dX11_does_52 : decode cX11_does 52 = .ok (.getfield 127, 3) := by decide +kernel
theorem dX11_does_55 : decode cX11_does 55 = .ok (.iload_n 1, 1) := by decide +kernel
theorem dX11_does_56 : decode cX11_does 56 = .ok (.iaload, 1) := by decide +kernel
theorem dX11_does_57 : decode cX11_does 57 = .ok (.iconst 2, 1) := by decide +kernel
theorem dX11_does_58 : decode cX11_does 58 = .ok (.if_icmp .ne 18, 3) := by decide +kernel
theorem dX11_does_61 : decode cX11_does 61 = .ok (.aload_n 0, 1) := by decide +kernel
theorem dX11_does_62 : decode cX11_does 62 = .ok (.getfield 160, 3) := by decide +kernel
theorem dX11_does_65 : decode cX11_does 65 = .ok (.iload_n 2, 1) := by decide +kernel
theorem dX11_does_66 : decode cX11_does 66 = .ok (.aload_n 0, 1) := by decide +kernel
theorem dX11_does_67 : decode cX11_does 67 = .ok (.getfield 133, 3) := by decide +kernel
theorem dX11_does_70 : decode cX11_does 70 = .ok (.iload_n 1, 1) := by decide +kernel
theorem dX11_does_71 : decode cX11_does 71 = .ok (.iaload, 1) := by decide +kernel
theorem dX11_does_72 : decode cX11_does 72 = .ok (.iastore, 1) := by decide +kernel
theorem dX11_does_73 : decode cX11_does 73 = .ok (.goto 138, 3) := by decide +kernel
theorem dX11_does_76 : decode cX11_does 76 = .ok (.aload_n 0, 1) := by decide +kernel
theorem dX11_does_77 : decode cX11_does 77 = .ok (.getfield 127, 3) := by decide +kernel
theorem dX11_does_80 : decode cX11_does 80 = .ok (.iload_n 1, 1) := by decide +kernel
theorem dX11_does_81 : decode cX11_does 81 = .ok (.iaload, 1) := by decide +kernel
theorem dX11_does_82 : decode cX11_does 82 = .ok (.iconst 4, 1) := by decide +kernel
theorem dX11_does_83 : decode cX11_does 83 = .ok (.if_icmp .ne 72, 3) := by decide +kernel
theorem dX11_does_86 : decode cX11_does 86 = .ok (.iconst 0, 1) := by decide +kernel
theorem dX11_does_87 : decode cX11_does 87 = .ok (.istore_n 3, 1) := by decide +kernel
theorem dX11_does_88 : decode cX11_does 88 = .ok (.iload_n 3, 1) := by decide +kernel
theorem dX11_does_89 : decode cX11_does 89 = .ok (.aload_n 0, 1) := by decide +kernel
theorem dX11_does_90 : decode cX11_does 90 = .ok (.invokevirtual 419, 3) := by decide +kernel
theorem dX11_does_93 : decode cX11_does 93 = .ok (.if_icmp .ge 59, 3) := by decide +kernel
theorem dX11_does_96 : decode cX11_does 96 = .ok (.aload_n 0, 1) := by decide +kernel
theorem dX11_does_97 : decode cX11_does 97 = .ok (.getfield 163, 3) := by decide +kernel
theorem dX11_does_100 : decode cX11_does 100 = .ok (.iload_n 3, 1) := by decide +kernel
theorem dX11_does_101 : decode cX11_does 101 = .ok (.iconst 0, 1) := by decide +kernel
theorem dX11_does_102 : decode cX11_does 102 = .ok (.iastore, 1) := by decide +kernel
theorem dX11_does_103 : decode cX11_does 103 = .ok (.aload_n 0, 1) := by decide +kernel
theorem dX11_does_104 : decode cX11_does 104 = .ok (.getfield 151, 3) := by decide +kernel
theorem dX11_does_107 : decode cX11_does 107 = .ok (.iload_n 3, 1) := by decide +kernel
theorem dX11_does_108 : decode cX11_does 108 = .ok (.iaload, 1) := by decide +kernel
theorem dX11_does_109 : decode cX11_does 109 = .ok (.iconst (-1), 1) := by decide +kernel
theorem dX11_does_110 : decode cX11_does 110 = .ok (.if_icmp .eq 36, 3) := by decide +kernel
theorem dX11_does_113 : decode cX11_does 113 = .ok (.aload_n 0, 1) := by decide +kernel
theorem dX11_does_114 : decode cX11_does 114 = .ok (.getfield 157, 3) := by decide +kernel
theorem dX11_does_117 : decode cX11_does 117 = .ok (.iload_n 3, 1) := by decide +kernel
theorem dX11_does_118 : decode cX11_does 118 = .ok (.aload_n 0, 1) := by decide +kernel
theorem dX11_does_119 : decode cX11_does 119 = .ok (.getfield 157, 3) := by decide +kernel
theorem dX11_does_122 : decode cX11_does 122 = .ok (.iload_n 3, 1) := by decide +kernel
theorem dX11_does_123 : decode cX11_does 123 = .ok (.iaload, 1) := by decide +kernel
theorem dX11_does_124 : decode cX11_does 124 = .ok (.sipush 990, 3) := by decide +kernel
theorem dX11_does_127 : decode cX11_does 127 = .ok (.if_icmp .le 9, 3) := by decide +kernel
theorem dX11_does_130 : decode cX11_does 130 = .ok (.sipush 1000, 3) := by decide +kernel
theorem dX11_does_133 : decode cX11_does 133 = .ok (.goto 12, 3) := by decide +kernel
theorem dX11_does_136 : decode cX11_does 136 = .ok (.aload_n 0, 1) := by decide +kernel
theorem dX11_does_137 : decode cX11_does 137 = .ok (.getfield 157, 3) := by decide +kernel
theorem dX11_does_140 : decode cX11_does 140 = .ok (.iload_n 3, 1) := by decide +kernel
theorem dX11_does_141 : decode cX11_does 141 = .ok (.iaload, 1) := by decide +kernel
theorem dX11_does_142 : decode cX11_does 142 = .ok (.bipush 10, 2) := by decide +kernel
theorem dX11_does_144 : decode cX11_does 144 = .ok (.iadd, 1) := by decide +kernel
theorem dX11_does_145 : decode cX11_does 145 = .ok (.iastore, 1) := by decide +kernel
theorem dX11_does_146 : decode cX11_does 146 = .ok (.iinc 3 1, 3) := by decide +kernel
theorem dX11_does_149 : decode cX11_does 149 = .ok (.goto (-61), 3) := by decide +kernel
theorem dX11_does_152 : decode cX11_does 152 = .ok (.goto 59, 3) := by decide +kernel
theorem dX11_does_155 : decode cX11_does 155 = .ok (.aload_n 0, 1) := by decide +kernel
theorem dX11_does_156 : decode cX11_does 156 = .ok (.getfield 127, 3) := by decide +kernel
theorem dX11_does_159 : decode cX11_does 159 = .ok (.iload_n 1, 1) := by decide +kernel
theorem dX11_does_160 : decode cX11_does 160 = .ok (.iaload, 1) := by decide +kernel
theorem dX11_does_161 : decode cX11_does 161 = .ok (.iconst 3, 1) := by decide +kernel
theorem dX11_does_162 : decode cX11_does 162 = .ok (.if_icmp .ne 49, 3) := by decide +kernel
theorem dX11_does_165 : decode cX11_does 165 = .ok (.aload_n 0, 1) := by decide +kernel
theorem dX11_does_166 : decode cX11_does 166 = .ok (.getfield 139, 3) := by decide +kernel
theorem dX11_does_169 : decode cX11_does 169 = .ok (.iload_n 1, 1) := by decide +kernel
theorem dX11_does_170 : decode cX11_does 170 = .ok (.iaload, 1) := by decide +kernel
theorem dX11_does_171 : decode cX11_does 171 = .ok (.i2l, 1) := by decide +kernel
theorem dX11_does_172 : decode cX11_does 172 = .ok (.lstore_n 3, 1) := by decide +kernel
theorem dX11_does_173 : decode cX11_does 173 = .ok (.iconst 0, 1) := by decide +kernel
theorem dX11_does_174 : decode cX11_does 174 = .ok (.istore 5, 2) := by decide +kernel
theorem dX11_does_176 : decode cX11_does 176 = .ok (.iload 5, 2) := by decide +kernel
theorem dX11_does_178 : decode cX11_does 178 = .ok (.aload_n 0, 1) := by decide +kernel
theorem dX11_does_179 : decode cX11_does 179 = .ok (.getfield 130, 3) := by decide +kernel
theorem dX11_does_182 : decode cX11_does 182 = .ok (.iload_n 1, 1) := by decide +kernel
theorem dX11_does_183 : decode cX11_does 183 = .ok (.iaload, 1) := by decide +kernel
theorem dX11_does_184 : decode cX11_does 184 = .ok (.if_icmp .ge 27, 3) := by decide +kernel
theorem dX11_does_187 : decode cX11_does 187 = .ok (.aload_n 0, 1) := by decide +kernel
theorem dX11_does_188 : decode cX11_does 188 = .ok (.aload_n 0, 1) := by decide +kernel
theorem dX11_does_189 : decode cX11_does 189 = .ok (.getfield 133, 3) := by decide +kernel
theorem dX11_does_192 : decode cX11_does 192 = .ok (.iload_n 1, 1) := by decide +kernel
theorem dX11_does_193 : decode cX11_does 193 = .ok (.iaload, 1) := by decide +kernel
theorem dX11_does_194 : decode cX11_does 194 = .ok (.aload_n 0, 1) := by decide +kernel
theorem dX11_does_195 : decode cX11_does 195 = .ok (.getfield 136, 3) := by decide +kernel
theorem dX11_does_198 : decode cX11_does 198 = .ok (.iload_n 1, 1) := by decide +kernel
theorem dX11_does_199 : decode cX11_does 199 = .ok (.iaload, 1) := by decide +kernel
theorem dX11_does_200 : decode cX11_does 200 = .ok (.lload_n 3, 1) := by decide +kernel
theorem dX11_does_201 : decode cX11_does 201 = .ok (.invokevirtual 453, 3) := by decide +kernel
theorem dX11_does_204 : decode cX11_does 204 = .ok (.lstore_n 3, 1) := by decide +kernel
theorem dX11_does_205 : decode cX11_does 205 = .ok (.iinc 5 1, 3) := by decide +kernel
theorem dX11_does_208 : decode cX11_does 208 = .ok (.goto (-32), 3) := by decide +kernel
theorem dX11_does_211 : decode cX11_does 211 = .ok (.return_, 1) := by decide +kernel
theorem dX11_round_0 : decode cX11_round 0 = .ok (.aload_n 0, 1) := by decide +kernel
theorem dX11_round_1 : decode cX11_round 1 = .ok (.iload_n 1, 1) := by decide +kernel
theorem dX11_round_2 : decode cX11_round 2 = .ok (.iload_n 2, 1) := by decide +kernel
theorem dX11_round_3 : decode cX11_round 3 = .ok (.lload_n 3, 1) := by decide +kernel
theorem dX11_round_4 : decode cX11_round 4 = .ok (.invokevirtual 457, 3) := by decide +kernel
theorem dX11_round_7 : decode cX11_round 7 = .ok (.lstore 5, 2) := by decide +kernel
theorem dX11_round_9 : decode cX11_round 9 = .ok (.aload_n 0, 1) := by decide +kernel
theorem dX11_round_10 : decode cX11_round 10 = .ok (.invokevirtual 460, 3) := by decide +kernel
theorem dX11_round_13 : decode cX11_round 13 = .ok (.aload_n 0, 1) := by decide +kernel
theorem dX11_round_14 : decode cX11_round 14 = .ok (.invokevirtual 462, 3) := by decide +kernel
theorem dX11_round_17 : decode cX11_round 17 = .ok (.aload_n 0, 1) := by decide +kernel
theorem dX11_round_18 : decode cX11_round 18 = .ok (.getfield 447, 3) := by decide +kernel
theorem dX11_round_21 : decode cX11_round 21 = .ok (.sipush 1200, 3) := by decide +kernel
theorem dX11_round_24 : decode cX11_round 24 = .ok (.if_icmp .ge 26, 3) := by decide +kernel
theorem dX11_round_27 : decode cX11_round 27 = .ok (.aload_n 0, 1) := by decide +kernel
theorem dX11_round_28 : decode cX11_round 28 = .ok (.getfield 166, 3) := by decide +kernel
theorem dX11_round_31 : decode cX11_round 31 = .ok (.aload_n 0, 1) := by decide +kernel
theorem dX11_round_32 : decode cX11_round 32 = .ok (.getfield 447, 3) := by decide +kernel
theorem dX11_round_35 : decode cX11_round 35 = .ok (.aload_n 0, 1) := by decide +kernel
theorem dX11_round_36 : decode cX11_round 36 = .ok (.invokevirtual 465, 3) := by decide +kernel
theorem dX11_round_39 : decode cX11_round 39 = .ok (.lastore, 1) := by decide +kernel
theorem dX11_round_40 : decode cX11_round 40 = .ok (.aload_n 0, 1) := by decide +kernel
theorem dX11_round_41 : decode cX11_round 41 = .ok (.dup, 1) := by decide +kernel
theorem dX11_round_42 : decode cX11_round 42 = .ok (.getfield 447, 3) := by decide +kernel
theorem dX11_round_45 : decode cX11_round 45 = .ok (.iconst 1, 1) := by decide +kernel
theorem dX11_round_46 : decode cX11_round 46 = .ok (.iadd, 1) := by decide +kernel
theorem dX11_round_47 : decode cX11_round 47 = .ok (.putfield 447, 3) := by decide +kernel
theorem dX11_round_50 : decode cX11_round 50 = .ok (.iconst 0, 1) := by decide +kernel
theorem dX11_round_51 : decode cX11_round 51 = .ok (.istore 7, 2) := by decide +kernel
theorem dX11_round_53 : decode cX11_round 53 = .ok (.iload 7, 2) := by decide +kernel
theorem dX11_round_55 : decode cX11_round 55 = .ok (.aload_n 0, 1) := by decide +kernel
theorem dX11_round_56 : decode cX11_round 56 = .ok (.invokevirtual 419, 3) := by decide +kernel
theorem dX11_round_59 : decode cX11_round 59 = .ok (.if_icmp .ge 95, 3) := by decide +kernel
theorem dX11_round_62 : decode cX11_round 62 = .ok (.aload_n 0, 1) := by decide +kernel
theorem dX11_round_63 : decode cX11_round 63 = .ok (.getfield 178, 3) := by decide +kernel
theorem dX11_round_66 : decode cX11_round 66 = .ok (.iload 7, 2) := by decide +kernel
theorem dX11_round_68 : decode cX11_round 68 = .ok (.baload, 1) := by decide +kernel
theorem dX11_round_69 : decode cX11_round 69 = .ok (.ifCond .ne 6, 3) := by decide +kernel
theorem dX11_round_72 : decode cX11_round 72 = .ok (.goto 76, 3) := by decide +kernel
theorem dX11_round_75 : decode cX11_round 75 = .ok (.bipush 8, 2) := by decide +kernel
theorem dX11_round_77 : decode cX11_round 77 = .ok (.aload_n 0, 1) := by decide +kernel
theorem dX11_round_78 : decode cX11_round 78 = .ok (.getfield 151, 3) := by decide +kernel
theorem dX11_round_81 : decode cX11_round 81 = .ok (.iload 7, 2) := by decide +kernel
theorem dX11_round_83 : decode cX11_round 83 = .ok (.iaload, 1) := by decide +kernel
theorem dX11_round_84 : decode cX11_round 84 = .ok (.iadd, 1) := by decide +kernel
theorem dX11_round_85 : decode cX11_round 85 = .ok (.istore 8, 2) := by decide +kernel
theorem dX11_round_87 : decode cX11_round 87 = .ok (.aload_n 0, 1) := by decide +kernel
theorem dX11_round_88 : decode cX11_round 88 = .ok (.getfield 157, 3) := by decide +kernel
theorem dX11_round_91 : decode cX11_round 91 = .ok (.iload 7, 2) := by decide +kernel
theorem dX11_round_93 : decode cX11_round 93 = .ok (.dup2, 1) := by decide +kernel
theorem dX11_round_94 : decode cX11_round 94 = .ok (.iaload, 1) := by decide +kernel
theorem dX11_round_95 : decode cX11_round 95 = .ok (.sipush 1000, 3) := by decide +kernel
theorem dX11_round_98 : decode cX11_round 98 = .ok (.aload_n 0, 1) := by decide +kernel
theorem dX11_round_99 : decode cX11_round 99 = .ok (.getfield 157, 3) := by decide +kernel
theorem dX11_round_102 : decode cX11_round 102 = .ok (.iload 7, 2) := by decide +kernel
theorem dX11_round_104 : decode cX11_round 104 = .ok (.iaload, 1) := by decide +kernel
theorem dX11_round_105 : decode cX11_round 105 = .ok (.isub, 1) := by decide +kernel
theorem dX11_round_106 : decode cX11_round 106 = .ok (.aload_n 0, 1) := by decide +kernel
theorem dX11_round_107 : decode cX11_round 107 = .ok (.getfield 94, 3) := by decide +kernel
theorem dX11_round_110 : decode cX11_round 110 = .ok (.iload 8, 2) := by decide +kernel
theorem dX11_round_112 : decode cX11_round 112 = .ok (.iaload, 1) := by decide +kernel
theorem dX11_round_113 : decode cX11_round 113 = .ok (.imul, 1) := by decide +kernel
theorem dX11_round_114 : decode cX11_round 114 = .ok (.sipush 1000, 3) := by decide +kernel
theorem dX11_round_117 : decode cX11_round 117 = .ok (.idiv, 1) := by decide +kernel
theorem dX11_round_118 : decode cX11_round 118 = .ok (.iadd, 1) := by decide +kernel
theorem dX11_round_119 : decode cX11_round 119 = .ok (.iastore, 1) := by decide +kernel
theorem dX11_round_120 : decode cX11_round 120 = .ok (.aload_n 0, 1) := by decide +kernel
theorem dX11_round_121 : decode cX11_round 121 = .ok (.getfield 91, 3) := by decide +kernel
theorem dX11_round_124 : decode cX11_round 124 = .ok (.iload 8, 2) := by decide +kernel
theorem dX11_round_126 : decode cX11_round 126 = .ok (.iaload, 1) := by decide +kernel
theorem dX11_round_127 : decode cX11_round 127 = .ok (.aload_n 0, 1) := by decide +kernel
theorem dX11_round_128 : decode cX11_round 128 = .ok (.getfield 97, 3) := by decide +kernel
theorem dX11_round_131 : decode cX11_round 131 = .ok (.iload 8, 2) := by decide +kernel
theorem dX11_round_133 : decode cX11_round 133 = .ok (.iaload, 1) := by decide +kernel
theorem dX11_round_134 : decode cX11_round 134 = .ok (.if_icmp .lt 14, 3) := by decide +kernel
theorem dX11_round_137 : decode cX11_round 137 = .ok (.aload_n 0, 1) := by decide +kernel
theorem dX11_round_138 : decode cX11_round 138 = .ok (.getfield 160, 3) := by decide +kernel
theorem dX11_round_141 : decode cX11_round 141 = .ok (.iload 7, 2) := by decide +kernel
theorem dX11_round_143 : decode cX11_round 143 = .ok (.dup2, 1) := by decide +kernel
theorem dX11_round_144 : decode cX11_round 144 = .ok (.iaload, 1) := by decide +kernel
theorem dX11_round_145 : decode cX11_round 145 = .ok (.iconst 1, 1) := by decide +kernel
theorem dX11_round_146 : decode cX11_round 146 = .ok (.isub, 1) := by decide +kernel
theorem dX11_round_147 : decode cX11_round 147 = .ok (.iastore, 1) := by decide +kernel
theorem dX11_round_148 : decode cX11_round 148 = .ok (.iinc 7 1, 3) := by decide +kernel
theorem dX11_round_151 : decode cX11_round 151 = .ok (.goto (-98), 3) := by decide +kernel
theorem dX11_round_154 : decode cX11_round 154 = .ok (.iconst 0, 1) := by decide +kernel
theorem dX11_round_155 : decode cX11_round 155 = .ok (.istore 7, 2) := by decide +kernel
theorem dX11_round_157 : decode cX11_round 157 = .ok (.iload 7, 2) := by decide +kernel
theorem dX11_round_159 : decode cX11_round 159 = .ok (.aload_n 0, 1) := by decide +kernel
theorem dX11_round_160 : decode cX11_round 160 = .ok (.invokevirtual 419, 3) := by decide +kernel
theorem dX11_round_163 : decode cX11_round 163 = .ok (.if_icmp .ge 78, 3) := by decide +kernel
theorem dX11_round_166 : decode cX11_round 166 = .ok (.aload_n 0, 1) := by decide +kernel
theorem dX11_round_167 : decode cX11_round 167 = .ok (.getfield 151, 3) := by decide +kernel
theorem dX11_round_170 : decode cX11_round 170 = .ok (.iload 7, 2) := by decide +kernel
theorem dX11_round_172 : decode cX11_round 172 = .ok (.iaload, 1) := by decide +kernel
theorem dX11_round_173 : decode cX11_round 173 = .ok (.iconst (-1), 1) := by decide +kernel
theorem dX11_round_174 : decode cX11_round 174 = .ok (.if_icmp .ne 6, 3) := by decide +kernel
theorem dX11_round_177 : decode cX11_round 177 = .ok (.goto 58, 3) := by decide +kernel
theorem dX11_round_180 : decode cX11_round 180 = .ok (.aload_n 0, 1) := by decide +kernel
theorem dX11_round_181 : decode cX11_round 181 = .ok (.getfield 163, 3) := by decide +kernel
theorem dX11_round_184 : decode cX11_round 184 = .ok (.iload 7, 2) := by decide +kernel
theorem dX11_round_186 : decode cX11_round 186 = .ok (.iaload, 1) := by decide +kernel
theorem dX11_round_187 : decode cX11_round 187 = .ok (.i2l, 1) := by decide +kernel
theorem dX11_round_188 : decode cX11_round 188 = .ok (.aload_n 0, 1) := by decide +kernel
theorem dX11_round_189 : decode cX11_round 189 = .ok (.iconst 1, 1) := by decide +kernel
theorem dX11_round_190 : decode cX11_round 190 = .ok (.iload 7, 2) := by decide +kernel
theorem dX11_round_192 : decode cX11_round 192 = .ok (.iload_n 1, 1) := by decide +kernel
theorem dX11_round_193 : decode cX11_round 193 = .ok (.iload_n 2, 1) := by decide +kernel
theorem dX11_round_194 : decode cX11_round 194 = .ok (.invokevirtual 468, 3) := by decide +kernel
theorem dX11_round_197 : decode cX11_round 197 = .ok (.ladd, 1) := by decide +kernel
theorem dX11_round_198 : decode cX11_round 198 = .ok (.lstore 8, 2) := by decide +kernel
theorem dX11_round_200 : decode cX11_round 200 = .ok (.aload_n 0, 1) := by decide +kernel
theorem dX11_round_201 : decode cX11_round 201 = .ok (.getfield 163, 3) := by decide +kernel
theorem dX11_round_204 : decode cX11_round 204 = .ok (.iload 7, 2) := by decide +kernel
theorem dX11_round_206 : decode cX11_round 206 = .ok (.lload 8, 2) := by decide +kernel
theorem dX11_round_208 : decode cX11_round 208 = .ok (.lconst 0, 1) := by decide +kernel
theorem dX11_round_209 : decode cX11_round 209 = .ok (.lcmp, 1) := by decide +kernel
theorem dX11_round_210 : decode cX11_round 210 = .ok (.ifCond .ge 7, 3) := by decide +kernel
theorem dX11_round_213 : decode cX11_round 213 = .ok (.iconst 0, 1) := by decide +kernel
theorem dX11_round_214 : decode cX11_round 214 = .ok (.goto 20, 3) := by decide +kernel
theorem dX11_round_217 : decode cX11_round 217 = .ok (.lload 8, 2) := by decide +kernel
theorem dX11_round_219 : decode cX11_round 219 = .ok (.ldc2_w 431, 3) := by decide +kernel
theorem dX11_round_222 : decode cX11_round 222 = .ok (.lcmp, 1) := by decide +kernel
theorem dX11_round_223 : decode cX11_round 223 = .ok (.ifCond .le 8, 3) := by decide +kernel
theorem dX11_round_226 : decode cX11_round 226 = .ok (.bipush 9, 2) := by decide +kernel
theorem dX11_round_228 : decode cX11_round 228 = .ok (.goto 6, 3) := by decide +kernel
theorem dX11_round_231 : decode cX11_round 231 = .ok (.lload 8, 2) := by decide +kernel
theorem dX11_round_233 : decode cX11_round 233 = .ok (.l2i, 1) := by decide +kernel
theorem dX11_round_234 : decode cX11_round 234 = .ok (.iastore, 1) := by decide +kernel
theorem dX11_round_235 : decode cX11_round 235 = .ok (.iinc 7 1, 3) := by decide +kernel
theorem dX11_round_238 : decode cX11_round 238 = .ok (.goto (-81), 3) := by decide +kernel
theorem dX11_round_241 : decode cX11_round 241 = .ok (.lload 5, 2) := by decide +kernel
theorem dX11_round_243 : decode cX11_round 243 = .ok (.lreturn, 1) := by decide +kernel
theorem dX11_cell_0 : decode cX11_cell 0 = .ok (.aload_n 0, 1) := by decide +kernel
theorem dX11_cell_1 : decode cX11_cell 1 = .ok (.iload_n 1, 1) := by decide +kernel
theorem dX11_cell_2 : decode cX11_cell 2 = .ok (.invokevirtual 422, 3) := by decide +kernel
theorem dX11_cell_5 : decode cX11_cell 5 = .ok (.ifCond .ne 5, 3) := by decide +kernel
theorem dX11_cell_8 : decode cX11_cell 8 = .ok (.iconst (-1), 1) := by decide +kernel
theorem dX11_cell_9 : decode cX11_cell 9 = .ok (.ireturn, 1) := by decide +kernel
theorem dX11_cell_10 : decode cX11_cell 10 = .ok (.aload_n 0, 1) := by decide +kernel
theorem dX11_cell_11 : decode cX11_cell 11 = .ok (.invokevirtual 472, 3) := by decide +kernel
theorem dX11_cell_14 : decode cX11_cell 14 = .ok (.iload_n 2, 1) := by decide +kernel
theorem dX11_cell_15 : decode cX11_cell 15 = .ok (.tableswitch 120 0 5 #[37, 44, 65, 86, 106, 113], 37) := by decide +kernel
theorem dX11_cell_52 : decode cX11_cell 52 = .ok (.aload_n 0, 1) := by decide +kernel
theorem dX11_cell_53 : decode cX11_cell 53 = .ok (.getfield 151, 3) := by decide +kernel
theorem dX11_cell_56 : decode cX11_cell 56 = .ok (.iload_n 1, 1) := by decide +kernel
theorem dX11_cell_57 : decode cX11_cell 57 = .ok (.iaload, 1) := by decide +kernel
theorem dX11_cell_58 : decode cX11_cell 58 = .ok (.ireturn, 1) := by decide +kernel
theorem dX11_cell_59 : decode cX11_cell 59 = .ok (.aload_n 0, 1) := by decide +kernel
theorem dX11_cell_60 : decode cX11_cell 60 = .ok (.getfield 151, 3) := by decide +kernel
theorem dX11_cell_63 : decode cX11_cell 63 = .ok (.iload_n 1, 1) := by decide +kernel
theorem dX11_cell_64 : decode cX11_cell 64 = .ok (.iaload, 1) := by decide +kernel
theorem dX11_cell_65 : decode cX11_cell 65 = .ok (.iconst (-1), 1) := by decide +kernel
theorem dX11_cell_66 : decode cX11_cell 66 = .ok (.if_icmp .ne 7, 3) := by decide +kernel
theorem dX11_cell_69 : decode cX11_cell 69 = .ok (.iconst (-1), 1) := by decide +kernel
theorem dX11_cell_70 : decode cX11_cell 70 = .ok (.goto 9, 3) := by decide +kernel
theorem dX11_cell_73 : decode cX11_cell 73 = .ok (.aload_n 0, 1) := by decide +kernel
theorem dX11_cell_74 : decode cX11_cell 74 = .ok (.getfield 154, 3) := by decide +kernel
theorem dX11_cell_77 : decode cX11_cell 77 = .ok (.iload_n 1, 1) := by decide +kernel
theorem dX11_cell_78 : decode cX11_cell 78 = .ok (.iaload, 1) := by decide +kernel
theorem dX11_cell_79 : decode cX11_cell 79 = .ok (.ireturn, 1) := by decide +kernel
theorem dX11_cell_80 : decode cX11_cell 80 = .ok (.aload_n 0, 1) := by decide +kernel
theorem dX11_cell_81 : decode cX11_cell 81 = .ok (.getfield 151, 3) := by decide +kernel
theorem dX11_cell_84 : decode cX11_cell 84 = .ok (.iload_n 1, 1) := by decide +kernel
theorem dX11_cell_85 : decode cX11_cell 85 = .ok (.iaload, 1) := by decide +kernel
theorem dX11_cell_86 : decode cX11_cell 86 = .ok (.iconst (-1), 1) := by decide +kernel
theorem dX11_cell_87 : decode cX11_cell 87 = .ok (.if_icmp .ne 7, 3) := by decide +kernel
theorem dX11_cell_90 : decode cX11_cell 90 = .ok (.iconst (-1), 1) := by decide +kernel
theorem dX11_cell_91 : decode cX11_cell 91 = .ok (.goto 9, 3) := by decide +kernel
theorem dX11_cell_94 : decode cX11_cell 94 = .ok (.aload_n 0, 1) := by decide +kernel
theorem dX11_cell_95 : decode cX11_cell 95 = .ok (.getfield 157, 3) := by decide +kernel
theorem dX11_cell_98 : decode cX11_cell 98 = .ok (.iload_n 1, 1) := by decide +kernel
theorem dX11_cell_99 : decode cX11_cell 99 = .ok (.iaload, 1) := by decide +kernel
theorem dX11_cell_100 : decode cX11_cell 100 = .ok (.ireturn, 1) := by decide +kernel
theorem dX11_cell_101 : decode cX11_cell 101 = .ok (.aload_n 0, 1) := by decide +kernel
theorem dX11_cell_102 : decode cX11_cell 102 = .ok (.getfield 151, 3) := by decide +kernel
theorem dX11_cell_105 : decode cX11_cell 105 = .ok (.iload_n 1, 1) := by decide +kernel
theorem dX11_cell_106 : decode cX11_cell 106 = .ok (.iaload, 1) := by decide +kernel
theorem dX11_cell_107 : decode cX11_cell 107 = .ok (.iconst (-1), 1) := by decide +kernel
theorem dX11_cell_108 : decode cX11_cell 108 = .ok (.if_icmp .ne 7, 3) := by decide +kernel
theorem dX11_cell_111 : decode cX11_cell 111 = .ok (.iconst (-1), 1) := by decide +kernel
theorem dX11_cell_112 : decode cX11_cell 112 = .ok (.goto 8, 3) := by decide +kernel
theorem dX11_cell_115 : decode cX11_cell 115 = .ok (.aload_n 0, 1) := by decide +kernel
theorem dX11_cell_116 : decode cX11_cell 116 = .ok (.iload_n 1, 1) := by decide +kernel
theorem dX11_cell_117 : decode cX11_cell 117 = .ok (.invokevirtual 475, 3) := by decide +kernel
theorem dX11_cell_120 : decode cX11_cell 120 = .ok (.ireturn, 1) := by decide +kernel
theorem dX11_cell_121 : decode cX11_cell 121 = .ok (.aload_n 0, 1) := by decide +kernel
theorem dX11_cell_122 : decode cX11_cell 122 = .ok (.getfield 160, 3) := by decide +kernel
theorem dX11_cell_125 : decode cX11_cell 125 = .ok (.iload_n 1, 1) := by decide +kernel
theorem dX11_cell_126 : decode cX11_cell 126 = .ok (.iaload, 1) := by decide +kernel
theorem dX11_cell_127 : decode cX11_cell 127 = .ok (.ireturn, 1) := by decide +kernel
theorem dX11_cell_128 : decode cX11_cell 128 = .ok (.aload_n 0, 1) := by decide +kernel
theorem dX11_cell_129 : decode cX11_cell 129 = .ok (.getfield 163, 3) := by decide +kernel
theorem dX11_cell_132 : decode cX11_cell 132 = .ok (.iload_n 1, 1) := by decide +kernel
theorem dX11_cell_133 : decode cX11_cell 133 = .ok (.iaload, 1) := by decide +kernel
theorem dX11_cell_134 : decode cX11_cell 134 = .ok (.ireturn, 1) := by decide +kernel
theorem dX11_cell_135 : decode cX11_cell 135 = .ok (.iconst (-1), 1) := by decide +kernel
theorem dX11_cell_136 : decode cX11_cell 136 = .ok (.ireturn, 1) := by decide +kernel
theorem dX11_listed_0 : decode cX11_listed 0 = .ok (.aload_n 0, 1) := by decide +kernel
theorem dX11_listed_1 : decode cX11_listed 1 = .ok (.invokevirtual 472, 3) := by decide +kernel
theorem dX11_listed_4 : decode cX11_listed 4 = .ok (.aload_n 0, 1) := by decide +kernel
theorem dX11_listed_5 : decode cX11_listed 5 = .ok (.getfield 447, 3) := by decide +kernel
theorem dX11_listed_8 : decode cX11_listed 8 = .ok (.ireturn, 1) := by decide +kernel
theorem dX11_list_0 : decode cX11_list 0 = .ok (.aload_n 0, 1) := by decide +kernel
theorem dX11_list_1 : decode cX11_list 1 = .ok (.invokevirtual 472, 3) := by decide +kernel
theorem dX11_list_4 : decode cX11_list 4 = .ok (.iload_n 1, 1) := by decide +kernel
theorem dX11_list_5 : decode cX11_list 5 = .ok (.ifCond .lt 20, 3) := by decide +kernel
theorem dX11_list_8 : decode cX11_list 8 = .ok (.iload_n 1, 1) := by decide +kernel
theorem dX11_list_9 : decode cX11_list 9 = .ok (.aload_n 0, 1) := by decide +kernel
theorem dX11_list_10 : decode cX11_list 10 = .ok (.getfield 447, 3) := by decide +kernel
theorem dX11_list_13 : decode cX11_list 13 = .ok (.if_icmp .ge 12, 3) := by decide +kernel
theorem dX11_list_16 : decode cX11_list 16 = .ok (.aload_n 0, 1) := by decide +kernel
theorem dX11_list_17 : decode cX11_list 17 = .ok (.getfield 166, 3) := by decide +kernel
theorem dX11_list_20 : decode cX11_list 20 = .ok (.iload_n 1, 1) := by decide +kernel
theorem dX11_list_21 : decode cX11_list 21 = .ok (.laload, 1) := by decide +kernel
theorem dX11_list_22 : decode cX11_list 22 = .ok (.goto 6, 3) := by decide +kernel
theorem dX11_list_25 : decode cX11_list 25 = .ok (.ldc2_w 439, 3) := by decide +kernel
theorem dX11_list_28 : decode cX11_list 28 = .ok (.lreturn, 1) := by decide +kernel
theorem dX11_until_0 : decode cX11_until 0 = .ok (.aload_n 0, 1) := by decide +kernel
theorem dX11_until_1 : decode cX11_until 1 = .ok (.invokevirtual 472, 3) := by decide +kernel
theorem dX11_until_4 : decode cX11_until 4 = .ok (.iconst 0, 1) := by decide +kernel
theorem dX11_until_5 : decode cX11_until 5 = .ok (.istore_n 3, 1) := by decide +kernel
theorem dX11_until_6 : decode cX11_until 6 = .ok (.iload_n 3, 1) := by decide +kernel
theorem dX11_until_7 : decode cX11_until 7 = .ok (.aload_n 0, 1) := by decide +kernel
theorem dX11_until_8 : decode cX11_until 8 = .ok (.getfield 447, 3) := by decide +kernel
theorem dX11_until_11 : decode cX11_until 11 = .ok (.if_icmp .ge 22, 3) := by decide +kernel
theorem dX11_until_14 : decode cX11_until 14 = .ok (.aload_n 0, 1) := by decide +kernel
theorem dX11_until_15 : decode cX11_until 15 = .ok (.getfield 166, 3) := by decide +kernel
theorem dX11_until_18 : decode cX11_until 18 = .ok (.iload_n 3, 1) := by decide +kernel
theorem dX11_until_19 : decode cX11_until 19 = .ok (.laload, 1) := by decide +kernel
theorem dX11_until_20 : decode cX11_until 20 = .ok (.lload_n 1, 1) := by decide +kernel
theorem dX11_until_21 : decode cX11_until 21 = .ok (.lcmp, 1) := by decide +kernel
theorem dX11_until_22 : decode cX11_until 22 = .ok (.ifCond .ge 5, 3) := by decide +kernel
theorem dX11_until_25 : decode cX11_until 25 = .ok (.iload_n 3, 1) := by decide +kernel
theorem dX11_until_26 : decode cX11_until 26 = .ok (.ireturn, 1) := by decide +kernel
theorem dX11_until_27 : decode cX11_until 27 = .ok (.iinc 3 1, 3) := by decide +kernel
theorem dX11_until_30 : decode cX11_until 30 = .ok (.goto (-24), 3) := by decide +kernel
theorem dX11_until_33 : decode cX11_until 33 = .ok (.iconst (-1), 1) := by decide +kernel
theorem dX11_until_34 : decode cX11_until 34 = .ok (.ireturn, 1) := by decide +kernel
theorem dX11_stiffOf_0 : decode cX11_stiffOf 0 = .ok (.aload_n 0, 1) := by decide +kernel
theorem dX11_stiffOf_1 : decode cX11_stiffOf 1 = .ok (.getfield 88, 3) := by decide +kernel
theorem dX11_stiffOf_4 : decode cX11_stiffOf 4 = .ok (.bipush 8, 2) := by decide +kernel
theorem dX11_stiffOf_6 : decode cX11_stiffOf 6 = .ok (.aload_n 0, 1) := by decide +kernel
theorem dX11_stiffOf_7 : decode cX11_stiffOf 7 = .ok (.getfield 151, 3) := by decide +kernel
theorem dX11_stiffOf_10 : decode cX11_stiffOf 10 = .ok (.iload_n 1, 1) := by decide +kernel
theorem dX11_stiffOf_11 : decode cX11_stiffOf 11 = .ok (.iaload, 1) := by decide +kernel
theorem dX11_stiffOf_12 : decode cX11_stiffOf 12 = .ok (.iadd, 1) := by decide +kernel
theorem dX11_stiffOf_13 : decode cX11_stiffOf 13 = .ok (.iaload, 1) := by decide +kernel
theorem dX11_stiffOf_14 : decode cX11_stiffOf 14 = .ok (.sipush 1000, 3) := by decide +kernel
theorem dX11_stiffOf_17 : decode cX11_stiffOf 17 = .ok (.aload_n 0, 1) := by decide +kernel
theorem dX11_stiffOf_18 : decode cX11_stiffOf 18 = .ok (.getfield 157, 3) := by decide +kernel
theorem dX11_stiffOf_21 : decode cX11_stiffOf 21 = .ok (.iload_n 1, 1) := by decide +kernel
theorem dX11_stiffOf_22 : decode cX11_stiffOf 22 = .ok (.iaload, 1) := by decide +kernel
theorem dX11_stiffOf_23 : decode cX11_stiffOf 23 = .ok (.isub, 1) := by decide +kernel
theorem dX11_stiffOf_24 : decode cX11_stiffOf 24 = .ok (.imul, 1) := by decide +kernel
theorem dX11_stiffOf_25 : decode cX11_stiffOf 25 = .ok (.sipush 1000, 3) := by decide +kernel
theorem dX11_stiffOf_28 : decode cX11_stiffOf 28 = .ok (.idiv, 1) := by decide +kernel
theorem dX11_stiffOf_29 : decode cX11_stiffOf 29 = .ok (.istore_n 2, 1) := by decide +kernel
theorem dX11_stiffOf_30 : decode cX11_stiffOf 30 = .ok (.iload_n 2, 1) := by decide +kernel
theorem dX11_stiffOf_31 : decode cX11_stiffOf 31 = .ok (.iconst 1, 1) := by decide +kernel
theorem dX11_stiffOf_32 : decode cX11_stiffOf 32 = .ok (.if_icmp .ge 7, 3) := by decide +kernel
theorem dX11_stiffOf_35 : decode cX11_stiffOf 35 = .ok (.iconst 1, 1) := by decide +kernel
theorem dX11_stiffOf_36 : decode cX11_stiffOf 36 = .ok (.goto 4, 3) := by decide +kernel
theorem dX11_stiffOf_39 : decode cX11_stiffOf 39 = .ok (.iload_n 2, 1) := by decide +kernel
theorem dX11_stiffOf_40 : decode cX11_stiffOf 40 = .ok (.ireturn, 1) := by decide +kernel
theorem dX11_clip_0 : decode cX11_clip 0 = .ok (.lload_n 0, 1) := by decide +kernel
theorem dX11_clip_1 : decode cX11_clip 1 = .ok (.ldc2_w 479, 3) := by decide +kernel
theorem dX11_clip_4 : decode cX11_clip 4 = .ok (.lcmp, 1) := by decide +kernel
theorem dX11_clip_5 : decode cX11_clip 5 = .ok (.ifCond .le 9, 3) := by decide +kernel
theorem dX11_clip_8 : decode cX11_clip 8 = .ok (.ldc2_w 479, 3) := by decide +kernel
theorem dX11_clip_11 : decode cX11_clip 11 = .ok (.goto 18, 3) := by decide +kernel
theorem dX11_clip_14 : decode cX11_clip 14 = .ok (.lload_n 0, 1) := by decide +kernel
theorem dX11_clip_15 : decode cX11_clip 15 = .ok (.ldc2_w 481, 3) := by decide +kernel
theorem dX11_clip_18 : decode cX11_clip 18 = .ok (.lcmp, 1) := by decide +kernel
theorem dX11_clip_19 : decode cX11_clip 19 = .ok (.ifCond .ge 9, 3) := by decide +kernel
theorem dX11_clip_22 : decode cX11_clip 22 = .ok (.ldc2_w 481, 3) := by decide +kernel
theorem dX11_clip_25 : decode cX11_clip 25 = .ok (.goto 4, 3) := by decide +kernel
theorem dX11_clip_28 : decode cX11_clip 28 = .ok (.lload_n 0, 1) := by decide +kernel
theorem dX11_clip_29 : decode cX11_clip 29 = .ok (.lreturn, 1) := by decide +kernel
theorem dX11_floor_0 : decode cX11_floor 0 = .ok (.lload_n 2, 1) := by decide +kernel
theorem dX11_floor_1 : decode cX11_floor 1 = .ok (.lconst 0, 1) := by decide +kernel
theorem dX11_floor_2 : decode cX11_floor 2 = .ok (.lcmp, 1) := by decide +kernel
theorem dX11_floor_3 : decode cX11_floor 3 = .ok (.ifCond .ne 5, 3) := by decide +kernel
theorem dX11_floor_6 : decode cX11_floor 6 = .ok (.lconst 0, 1) := by decide +kernel
theorem dX11_floor_7 : decode cX11_floor 7 = .ok (.lreturn, 1) := by decide +kernel
theorem dX11_floor_8 : decode cX11_floor 8 = .ok (.lload_n 0, 1) := by decide +kernel
theorem dX11_floor_9 : decode cX11_floor 9 = .ok (.lload_n 2, 1) := by decide +kernel
theorem dX11_floor_10 : decode cX11_floor 10 = .ok (.ldiv, 1) := by decide +kernel
theorem dX11_floor_11 : decode cX11_floor 11 = .ok (.lstore 4, 2) := by decide +kernel
theorem dX11_floor_13 : decode cX11_floor 13 = .ok (.lload_n 0, 1) := by decide +kernel
theorem dX11_floor_14 : decode cX11_floor 14 = .ok (.lload_n 2, 1) := by decide +kernel
theorem dX11_floor_15 : decode cX11_floor 15 = .ok (.lrem, 1) := by decide +kernel
theorem dX11_floor_16 : decode cX11_floor 16 = .ok (.lconst 0, 1) := by decide +kernel
theorem dX11_floor_17 : decode cX11_floor 17 = .ok (.lcmp, 1) := by decide +kernel
theorem dX11_floor_18 : decode cX11_floor 18 = .ok (.ifCond .eq 35, 3) := by decide +kernel
theorem dX11_floor_21 : decode cX11_floor 21 = .ok (.lload_n 0, 1) := by decide +kernel
theorem dX11_floor_22 : decode cX11_floor 22 = .ok (.lconst 0, 1) := by decide +kernel
theorem dX11_floor_23 : decode cX11_floor 23 = .ok (.lcmp, 1) := by decide +kernel
theorem dX11_floor_24 : decode cX11_floor 24 = .ok (.ifCond .ge 7, 3) := by decide +kernel
theorem dX11_floor_27 : decode cX11_floor 27 = .ok (.iconst 1, 1) := by decide +kernel
theorem dX11_floor_28 : decode cX11_floor 28 = .ok (.goto 4, 3) := by decide +kernel
theorem dX11_floor_31 : decode cX11_floor 31 = .ok (.iconst 0, 1) := by decide +kernel
theorem dX11_floor_32 : decode cX11_floor 32 = .ok (.lload_n 2, 1) := by decide +kernel
theorem dX11_floor_33 : decode cX11_floor 33 = .ok (.lconst 0, 1) := by decide +kernel
theorem dX11_floor_34 : decode cX11_floor 34 = .ok (.lcmp, 1) := by decide +kernel
theorem dX11_floor_35 : decode cX11_floor 35 = .ok (.ifCond .ge 7, 3) := by decide +kernel
theorem dX11_floor_38 : decode cX11_floor 38 = .ok (.iconst 1, 1) := by decide +kernel
theorem dX11_floor_39 : decode cX11_floor 39 = .ok (.goto 4, 3) := by decide +kernel
theorem dX11_floor_42 : decode cX11_floor 42 = .ok (.iconst 0, 1) := by decide +kernel
theorem dX11_floor_43 : decode cX11_floor 43 = .ok (.if_icmp .eq 10, 3) := by decide +kernel
theorem dX11_floor_46 : decode cX11_floor 46 = .ok (.lload 4, 2) := by decide +kernel
theorem dX11_floor_48 : decode cX11_floor 48 = .ok (.lconst 1, 1) := by decide +kernel
theorem dX11_floor_49 : decode cX11_floor 49 = .ok (.lsub, 1) := by decide +kernel
theorem dX11_floor_50 : decode cX11_floor 50 = .ok (.goto 5, 3) := by decide +kernel
theorem dX11_floor_53 : decode cX11_floor 53 = .ok (.lload 4, 2) := by decide +kernel
theorem dX11_floor_55 : decode cX11_floor 55 = .ok (.lreturn, 1) := by decide +kernel
theorem dX11_puts_0 : decode cX11_puts 0 = .ok (.aload_n 0, 1) := by decide +kernel
theorem dX11_puts_1 : decode cX11_puts 1 = .ok (.getfield 169, 3) := by decide +kernel
theorem dX11_puts_4 : decode cX11_puts 4 = .ok (.aload_n 0, 1) := by decide +kernel
theorem dX11_puts_5 : decode cX11_puts 5 = .ok (.getfield 483, 3) := by decide +kernel
theorem dX11_puts_8 : decode cX11_puts 8 = .ok (.lload_n 1, 1) := by decide +kernel
theorem dX11_puts_9 : decode cX11_puts 9 = .ok (.lastore, 1) := by decide +kernel
theorem dX11_puts_10 : decode cX11_puts 10 = .ok (.aload_n 0, 1) := by decide +kernel
theorem dX11_puts_11 : decode cX11_puts 11 = .ok (.dup, 1) := by decide +kernel
theorem dX11_puts_12 : decode cX11_puts 12 = .ok (.getfield 483, 3) := by decide +kernel
theorem dX11_puts_15 : decode cX11_puts 15 = .ok (.iconst 1, 1) := by decide +kernel
theorem dX11_puts_16 : decode cX11_puts 16 = .ok (.iadd, 1) := by decide +kernel
theorem dX11_puts_17 : decode cX11_puts 17 = .ok (.putfield 483, 3) := by decide +kernel
theorem dX11_puts_20 : decode cX11_puts 20 = .ok (.return_, 1) := by decide +kernel
theorem dX11_joins_0 : decode cX11_joins 0 = .ok (.aload_n 0, 1) := by decide +kernel
theorem dX11_joins_1 : decode cX11_joins 1 = .ok (.getfield 169, 3) := by decide +kernel
theorem dX11_joins_4 : decode cX11_joins 4 = .ok (.aload_n 0, 1) := by decide +kernel
theorem dX11_joins_5 : decode cX11_joins 5 = .ok (.getfield 483, 3) := by decide +kernel
theorem dX11_joins_8 : decode cX11_joins 8 = .ok (.iconst 1, 1) := by decide +kernel
theorem dX11_joins_9 : decode cX11_joins 9 = .ok (.isub, 1) := by decide +kernel
theorem dX11_joins_10 : decode cX11_joins 10 = .ok (.laload, 1) := by decide +kernel
theorem dX11_joins_11 : decode cX11_joins 11 = .ok (.lstore_n 2, 1) := by decide +kernel
theorem dX11_joins_12 : decode cX11_joins 12 = .ok (.aload_n 0, 1) := by decide +kernel
theorem dX11_joins_13 : decode cX11_joins 13 = .ok (.getfield 169, 3) := by decide +kernel
theorem dX11_joins_16 : decode cX11_joins 16 = .ok (.aload_n 0, 1) := by decide +kernel
theorem dX11_joins_17 : decode cX11_joins 17 = .ok (.getfield 483, 3) := by decide +kernel
theorem dX11_joins_20 : decode cX11_joins 20 = .ok (.iconst 2, 1) := by decide +kernel
theorem dX11_joins_21 : decode cX11_joins 21 = .ok (.isub, 1) := by decide +kernel
theorem dX11_joins_22 : decode cX11_joins 22 = .ok (.laload, 1) := by decide +kernel
theorem dX11_joins_23 : decode cX11_joins 23 = .ok (.lstore 4, 2) := by decide +kernel
theorem dX11_joins_25 : decode cX11_joins 25 = .ok (.aload_n 0, 1) := by decide +kernel
theorem dX11_joins_26 : decode cX11_joins 26 = .ok (.dup, 1) := by decide +kernel
theorem dX11_joins_27 : decode cX11_joins 27 = .ok (.getfield 483, 3) := by decide +kernel
theorem dX11_joins_30 : decode cX11_joins 30 = .ok (.iconst 2, 1) := by decide +kernel
theorem dX11_joins_31 : decode cX11_joins 31 = .ok (.isub, 1) := by decide +kernel
theorem dX11_joins_32 : decode cX11_joins 32 = .ok (.putfield 483, 3) := by decide +kernel
theorem dX11_joins_35 : decode cX11_joins 35 = .ok (.iload_n 1, 1) := by decide +kernel
theorem dX11_joins_36 : decode cX11_joins 36 = .ok (.tableswitch 235 1 14 #[72, 86, 100, 114, 127, 147, 235, 235, 235, 235, 167, 186, 205, 224], 72) := by decide +kernel
theorem dX11_joins_108 : decode cX11_joins 108 = .ok (.aload_n 0, 1) := by decide +kernel
theorem dX11_joins_109 : decode cX11_joins 109 = .ok (.lload 4, 2) := by decide +kernel
theorem dX11_joins_111 : decode cX11_joins 111 = .ok (.lload_n 2, 1) := by decide +kernel
theorem dX11_joins_112 : decode cX11_joins 112 = .ok (.ladd, 1) := by decide +kernel
theorem dX11_joins_113 : decode cX11_joins 113 = .ok (.invokestatic 486, 3) := by decide +kernel
theorem dX11_joins_116 : decode cX11_joins 116 = .ok (.invokevirtual 490, 3) := by decide +kernel
theorem dX11_joins_119 : decode cX11_joins 119 = .ok (.goto 170, 3) := by decide +kernel
theorem dX11_joins_122 : decode cX11_joins 122 = .ok (.aload_n 0, 1) := by decide +kernel
theorem dX11_joins_123 : decode cX11_joins 123 = .ok (.lload 4, 2) := by decide +kernel
theorem dX11_joins_125 : decode cX11_joins 125 = .ok (.lload_n 2, 1) := by decide +kernel
theorem dX11_joins_126 : decode cX11_joins 126 = .ok (.lsub, 1) := by decide +kernel
theorem dX11_joins_127 : decode cX11_joins 127 = .ok (.invokestatic 486, 3) := by decide +kernel
theorem dX11_joins_130 : decode cX11_joins 130 = .ok (.invokevirtual 490, 3) := by decide +kernel
theorem dX11_joins_133 : decode cX11_joins 133 = .ok (.goto 156, 3) := by decide +kernel
theorem dX11_joins_136 : decode cX11_joins 136 = .ok (.aload_n 0, 1) := by decide +kernel
theorem dX11_joins_137 : decode cX11_joins 137 = .ok (.lload 4, 2) := by decide +kernel
theorem dX11_joins_139 : decode cX11_joins 139 = .ok (.lload_n 2, 1) := by decide +kernel
theorem dX11_joins_140 : decode cX11_joins 140 = .ok (.lmul, 1) := by decide +kernel
theorem dX11_joins_141 : decode cX11_joins 141 = .ok (.invokestatic 486, 3) := by decide +kernel
theorem dX11_joins_144 : decode cX11_joins 144 = .ok (.invokevirtual 490, 3) := by decide +kernel
theorem dX11_joins_147 : decode cX11_joins 147 = .ok (.goto 142, 3) := by decide +kernel
theorem dX11_joins_150 : decode cX11_joins 150 = .ok (.aload_n 0, 1) := by decide +kernel
theorem dX11_joins_151 : decode cX11_joins 151 = .ok (.lload 4, 2) := by decide +kernel
theorem dX11_joins_153 : decode cX11_joins 153 = .ok (.lload_n 2, 1) := by decide +kernel
theorem dX11_joins_154 : decode cX11_joins 154 = .ok (.invokestatic 494, 3) := by decide +kernel
theorem dX11_joins_157 : decode cX11_joins 157 = .ok (.invokevirtual 490, 3) := by decide +kernel
theorem dX11_joins_160 : decode cX11_joins 160 = .ok (.goto 129, 3) := by decide +kernel
theorem dX11_joins_163 : decode cX11_joins 163 = .ok (.aload_n 0, 1) := by decide +kernel
theorem dX11_joins_164 : decode cX11_joins 164 = .ok (.lload 4, 2) := by decide +kernel
theorem dX11_joins_166 : decode cX11_joins 166 = .ok (.lload_n 2, 1) := by decide +kernel
theorem dX11_joins_167 : decode cX11_joins 167 = .ok (.lcmp, 1) := by decide +kernel
theorem dX11_joins_168 : decode cX11_joins 168 = .ok (.ifCond .ge 8, 3) := by decide +kernel
theorem dX11_joins_171 : decode cX11_joins 171 = .ok (.lload 4, 2) := by decide +kernel
theorem dX11_joins_173 : decode cX11_joins 173 = .ok (.goto 4, 3) := by decide +kernel
theorem dX11_joins_176 : decode cX11_joins 176 = .ok (.lload_n 2, 1) := by decide +kernel
theorem dX11_joins_177 : decode cX11_joins 177 = .ok (.invokevirtual 490, 3) := by decide +kernel
theorem dX11_joins_180 : decode cX11_joins 180 = .ok (.goto 109, 3) := by decide +kernel
theorem dX11_joins_183 : decode cX11_joins 183 = .ok (.aload_n 0, 1) := by decide +kernel
theorem dX11_joins_184 : decode cX11_joins 184 = .ok (.lload 4, 2) := by decide +kernel
theorem dX11_joins_186 : decode cX11_joins 186 = .ok (.lload_n 2, 1) := by decide +kernel
theorem dX11_joins_187 : decode cX11_joins 187 = .ok (.lcmp, 1) := by decide +kernel
theorem dX11_joins_188 : decode cX11_joins 188 = .ok (.ifCond .le 8, 3) := by decide +kernel
theorem dX11_joins_191 : decode cX11_joins 191 = .ok (.lload 4, 2) := by decide +kernel
theorem dX11_joins_193 : decode cX11_joins 193 = .ok (.goto 4, 3) := by decide +kernel
theorem dX11_joins_196 : decode cX11_joins 196 = .ok (.lload_n 2, 1) := by decide +kernel
theorem dX11_joins_197 : decode cX11_joins 197 = .ok (.invokevirtual 490, 3) := by decide +kernel
theorem dX11_joins_200 : decode cX11_joins 200 = .ok (.goto 89, 3) := by decide +kernel
theorem dX11_joins_203 : decode cX11_joins 203 = .ok (.aload_n 0, 1) := by decide +kernel
theorem dX11_joins_204 : decode cX11_joins 204 = .ok (.lload 4, 2) := by decide +kernel
theorem dX11_joins_206 : decode cX11_joins 206 = .ok (.lload_n 2, 1) := by decide +kernel
theorem dX11_joins_207 : decode cX11_joins 207 = .ok (.lcmp, 1) := by decide +kernel
theorem dX11_joins_208 : decode cX11_joins 208 = .ok (.ifCond .ge 7, 3) := by decide +kernel
theorem dX11_joins_211 : decode cX11_joins 211 = .ok (.lconst 1, 1) := by decide +kernel
theorem dX11_joins_212 : decode cX11_joins 212 = .ok (.goto 4, 3) := by decide +kernel
theorem dX11_joins_215 : decode cX11_joins 215 = .ok (.lconst 0, 1) := by decide +kernel
theorem dX11_joins_216 : decode cX11_joins 216 = .ok (.invokevirtual 490, 3) := by decide +kernel
theorem dX11_joins_219 : decode cX11_joins 219 = .ok (.goto 70, 3) := by decide +kernel
theorem dX11_joins_222 : decode cX11_joins 222 = .ok (.aload_n 0, 1) := by decide +kernel
theorem dX11_joins_223 : decode cX11_joins 223 = .ok (.lload 4, 2) := by decide +kernel
theorem dX11_joins_225 : decode cX11_joins 225 = .ok (.lload_n 2, 1) := by decide +kernel
theorem dX11_joins_226 : decode cX11_joins 226 = .ok (.lcmp, 1) := by decide +kernel
theorem dX11_joins_227 : decode cX11_joins 227 = .ok (.ifCond .le 7, 3) := by decide +kernel
theorem dX11_joins_230 : decode cX11_joins 230 = .ok (.lconst 1, 1) := by decide +kernel
theorem dX11_joins_231 : decode cX11_joins 231 = .ok (.goto 4, 3) := by decide +kernel
theorem dX11_joins_234 : decode cX11_joins 234 = .ok (.lconst 0, 1) := by decide +kernel
theorem dX11_joins_235 : decode cX11_joins 235 = .ok (.invokevirtual 490, 3) := by decide +kernel
theorem dX11_joins_238 : decode cX11_joins 238 = .ok (.goto 51, 3) := by decide +kernel
theorem dX11_joins_241 : decode cX11_joins 241 = .ok (.aload_n 0, 1) := by decide +kernel
theorem dX11_joins_242 : decode cX11_joins 242 = .ok (.lload 4, 2) := by decide +kernel
theorem dX11_joins_244 : decode cX11_joins 244 = .ok (.lload_n 2, 1) := by decide +kernel
theorem dX11_joins_245 : decode cX11_joins 245 = .ok (.lcmp, 1) := by decide +kernel
theorem dX11_joins_246 : decode cX11_joins 246 = .ok (.ifCond .ne 7, 3) := by decide +kernel
theorem dX11_joins_249 : decode cX11_joins 249 = .ok (.lconst 1, 1) := by decide +kernel
theorem dX11_joins_250 : decode cX11_joins 250 = .ok (.goto 4, 3) := by decide +kernel
theorem dX11_joins_253 : decode cX11_joins 253 = .ok (.lconst 0, 1) := by decide +kernel
theorem dX11_joins_254 : decode cX11_joins 254 = .ok (.invokevirtual 490, 3) := by decide +kernel
theorem dX11_joins_257 : decode cX11_joins 257 = .ok (.goto 32, 3) := by decide +kernel
theorem dX11_joins_260 : decode cX11_joins 260 = .ok (.aload_n 0, 1) := by decide +kernel
theorem dX11_joins_261 : decode cX11_joins 261 = .ok (.lload 4, 2) := by decide +kernel
theorem dX11_joins_263 : decode cX11_joins 263 = .ok (.lload_n 2, 1) := by decide +kernel
theorem dX11_joins_264 : decode cX11_joins 264 = .ok (.lmul, 1) := by decide +kernel
theorem dX11_joins_265 : decode cX11_joins 265 = .ok (.invokevirtual 490, 3) := by decide +kernel
theorem dX11_joins_268 : decode cX11_joins 268 = .ok (.goto 21, 3) := by decide +kernel
theorem dX11_joins_271 : decode cX11_joins 271 = .ok (.aload_n 0, 1) := by decide +kernel
theorem dX11_joins_272 : decode cX11_joins 272 = .ok (.lload 4, 2) := by decide +kernel
theorem dX11_joins_274 : decode cX11_joins 274 = .ok (.lload_n 2, 1) := by decide +kernel
theorem dX11_joins_275 : decode cX11_joins 275 = .ok (.ladd, 1) := by decide +kernel
theorem dX11_joins_276 : decode cX11_joins 276 = .ok (.lconst 0, 1) := by decide +kernel
theorem dX11_joins_277 : decode cX11_joins 277 = .ok (.lcmp, 1) := by decide +kernel
theorem dX11_joins_278 : decode cX11_joins 278 = .ok (.ifCond .le 7, 3) := by decide +kernel
theorem dX11_joins_281 : decode cX11_joins 281 = .ok (.lconst 1, 1) := by decide +kernel
theorem dX11_joins_282 : decode cX11_joins 282 = .ok (.goto 4, 3) := by decide +kernel
theorem dX11_joins_285 : decode cX11_joins 285 = .ok (.lconst 0, 1) := by decide +kernel
theorem dX11_joins_286 : decode cX11_joins 286 = .ok (.invokevirtual 490, 3) := by decide +kernel
theorem dX11_joins_289 : decode cX11_joins 289 = .ok (.return_, 1) := by decide +kernel
theorem dX11_tells_0 : decode cX11_tells 0 = .ok (.aload_n 0, 1) := by decide +kernel
theorem dX11_tells_1 : decode cX11_tells 1 = .ok (.iconst 0, 1) := by decide +kernel
theorem dX11_tells_2 : decode cX11_tells 2 = .ok (.putfield 483, 3) := by decide +kernel
theorem dX11_tells_5 : decode cX11_tells 5 = .ok (.iload_n 1, 1) := by decide +kernel
theorem dX11_tells_6 : decode cX11_tells 6 = .ok (.istore 6, 2) := by decide +kernel
theorem dX11_tells_8 : decode cX11_tells 8 = .ok (.iload 6, 2) := by decide +kernel
theorem dX11_tells_10 : decode cX11_tells 10 = .ok (.iload_n 2, 1) := by decide +kernel
theorem dX11_tells_11 : decode cX11_tells 11 = .ok (.if_icmp .ge 271, 3) := by decide +kernel
theorem dX11_tells_14 : decode cX11_tells 14 = .ok (.aload_n 0, 1) := by decide +kernel
theorem dX11_tells_15 : decode cX11_tells 15 = .ok (.getfield 115, 3) := by decide +kernel
theorem dX11_tells_18 : decode cX11_tells 18 = .ok (.sipush 700, 3) := by decide +kernel
theorem dX11_tells_21 : decode cX11_tells 21 = .ok (.iload 6, 2) := by decide +kernel
theorem dX11_tells_23 : decode cX11_tells 23 = .ok (.iadd, 1) := by decide +kernel
theorem dX11_tells_24 : decode cX11_tells 24 = .ok (.iaload, 1) := by decide +kernel
theorem dX11_tells_25 : decode cX11_tells 25 = .ok (.istore 7, 2) := by decide +kernel
theorem dX11_tells_27 : decode cX11_tells 27 = .ok (.iload 7, 2) := by decide +kernel
theorem dX11_tells_29 : decode cX11_tells 29 = .ok (.sipush 1000, 3) := by decide +kernel
theorem dX11_tells_32 : decode cX11_tells 32 = .ok (.if_icmp .lt 17, 3) := by decide +kernel
theorem dX11_tells_35 : decode cX11_tells 35 = .ok (.aload_n 0, 1) := by decide +kernel
theorem dX11_tells_36 : decode cX11_tells 36 = .ok (.iload 7, 2) := by decide +kernel
theorem dX11_tells_38 : decode cX11_tells 38 = .ok (.sipush 1000, 3) := by decide +kernel
theorem dX11_tells_41 : decode cX11_tells 41 = .ok (.isub, 1) := by decide +kernel
theorem dX11_tells_42 : decode cX11_tells 42 = .ok (.i2l, 1) := by decide +kernel
theorem dX11_tells_43 : decode cX11_tells 43 = .ok (.invokevirtual 490, 3) := by decide +kernel
theorem dX11_tells_46 : decode cX11_tells 46 = .ok (.goto 230, 3) := by decide +kernel
theorem dX11_tells_49 : decode cX11_tells 49 = .ok (.iload 7, 2) := by decide +kernel
theorem dX11_tells_51 : decode cX11_tells 51 = .ok (.bipush 100, 2) := by decide +kernel
theorem dX11_tells_53 : decode cX11_tells 53 = .ok (.if_icmp .lt 29, 3) := by decide +kernel
theorem dX11_tells_56 : decode cX11_tells 56 = .ok (.aload_n 0, 1) := by decide +kernel
theorem dX11_tells_57 : decode cX11_tells 57 = .ok (.aload_n 0, 1) := by decide +kernel
theorem dX11_tells_58 : decode cX11_tells 58 = .ok (.getfield 151, 3) := by decide +kernel
theorem dX11_tells_61 : decode cX11_tells 61 = .ok (.iload_n 3, 1) := by decide +kernel
theorem dX11_tells_62 : decode cX11_tells 62 = .ok (.iaload, 1) := by decide +kernel
theorem dX11_tells_63 : decode cX11_tells 63 = .ok (.iload 7, 2) := by decide +kernel
theorem dX11_tells_65 : decode cX11_tells 65 = .ok (.bipush 100, 2) := by decide +kernel
theorem dX11_tells_67 : decode cX11_tells 67 = .ok (.isub, 1) := by decide +kernel
theorem dX11_tells_68 : decode cX11_tells 68 = .ok (.if_icmp .ne 7, 3) := by decide +kernel
theorem dX11_tells_71 : decode cX11_tells 71 = .ok (.lconst 1, 1) := by decide +kernel
theorem dX11_tells_72 : decode cX11_tells 72 = .ok (.goto 4, 3) := by decide +kernel
theorem dX11_tells_75 : decode cX11_tells 75 = .ok (.lconst 0, 1) := by decide +kernel
theorem dX11_tells_76 : decode cX11_tells 76 = .ok (.invokevirtual 490, 3) := by decide +kernel
theorem dX11_tells_79 : decode cX11_tells 79 = .ok (.goto 197, 3) := by decide +kernel
theorem dX11_tells_82 : decode cX11_tells 82 = .ok (.iload 7, 2) := by decide +kernel
theorem dX11_tells_84 : decode cX11_tells 84 = .ok (.bipush 7, 2) := by decide +kernel
theorem dX11_tells_86 : decode cX11_tells 86 = .ok (.if_icmp .ne 13, 3) := by decide +kernel
theorem dX11_tells_89 : decode cX11_tells 89 = .ok (.aload_n 0, 1) := by decide +kernel
theorem dX11_tells_90 : decode cX11_tells 90 = .ok (.iload 4, 2) := by decide +kernel
theorem dX11_tells_92 : decode cX11_tells 92 = .ok (.i2l, 1) := by decide +kernel
theorem dX11_tells_93 : decode cX11_tells 93 = .ok (.invokevirtual 490, 3) := by decide +kernel
theorem dX11_tells_96 : decode cX11_tells 96 = .ok (.goto 180, 3) := by decide +kernel
theorem dX11_tells_99 : decode cX11_tells 99 = .ok (.iload 7, 2) := by decide +kernel
theorem dX11_tells_101 : decode cX11_tells 101 = .ok (.bipush 8, 2) := by decide +kernel
theorem dX11_tells_103 : decode cX11_tells 103 = .ok (.if_icmp .ne 13, 3) := by decide +kernel
theorem dX11_tells_106 : decode cX11_tells 106 = .ok (.aload_n 0, 1) := by decide +kernel
theorem dX11_tells_107 : decode cX11_tells 107 = .ok (.iload 5, 2) := by decide +kernel
theorem dX11_tells_109 : decode cX11_tells 109 = .ok (.i2l, 1) := by decide +kernel
theorem dX11_tells_110 : decode cX11_tells 110 = .ok (.invokevirtual 490, 3) := by decide +kernel
theorem dX11_tells_113 : decode cX11_tells 113 = .ok (.goto 163, 3) := by decide +kernel
theorem dX11_tells_116 : decode cX11_tells 116 = .ok (.iload 7, 2) := by decide +kernel
theorem dX11_tells_118 : decode cX11_tells 118 = .ok (.bipush 9, 2) := by decide +kernel
theorem dX11_tells_120 : decode cX11_tells 120 = .ok (.if_icmp .ne 17, 3) := by decide +kernel
theorem dX11_tells_123 : decode cX11_tells 123 = .ok (.aload_n 0, 1) := by decide +kernel
theorem dX11_tells_124 : decode cX11_tells 124 = .ok (.aload_n 0, 1) := by decide +kernel
theorem dX11_tells_125 : decode cX11_tells 125 = .ok (.getfield 160, 3) := by decide +kernel
theorem dX11_tells_128 : decode cX11_tells 128 = .ok (.iload_n 3, 1) := by decide +kernel
theorem dX11_tells_129 : decode cX11_tells 129 = .ok (.iaload, 1) := by decide +kernel
theorem dX11_tells_130 : decode cX11_tells 130 = .ok (.i2l, 1) := by decide +kernel
theorem dX11_tells_131 : decode cX11_tells 131 = .ok (.invokevirtual 490, 3) := by decide +kernel
theorem dX11_tells_134 : decode cX11_tells 134 = .ok (.goto 142, 3) := by decide +kernel
theorem dX11_tells_137 : decode cX11_tells 137 = .ok (.iload 7, 2) := by decide +kernel
theorem dX11_tells_139 : decode cX11_tells 139 = .ok (.bipush 10, 2) := by decide +kernel
theorem dX11_tells_141 : decode cX11_tells 141 = .ok (.if_icmp .ne 17, 3) := by decide +kernel
theorem dX11_tells_144 : decode cX11_tells 144 = .ok (.aload_n 0, 1) := by decide +kernel
theorem dX11_tells_145 : decode cX11_tells 145 = .ok (.aload_n 0, 1) := by decide +kernel
theorem dX11_tells_146 : decode cX11_tells 146 = .ok (.getfield 163, 3) := by decide +kernel
theorem dX11_tells_149 : decode cX11_tells 149 = .ok (.iload_n 3, 1) := by decide +kernel
theorem dX11_tells_150 : decode cX11_tells 150 = .ok (.iaload, 1) := by decide +kernel
theorem dX11_tells_151 : decode cX11_tells 151 = .ok (.i2l, 1) := by decide +kernel
theorem dX11_tells_152 : decode cX11_tells 152 = .ok (.invokevirtual 490, 3) := by decide +kernel
theorem dX11_tells_155 : decode cX11_tells 155 = .ok (.goto 121, 3) := by decide +kernel
theorem dX11_tells_158 : decode cX11_tells 158 = .ok (.iload 7, 2) := by decide +kernel
theorem dX11_tells_160 : decode cX11_tells 160 = .ok (.bipush 18, 2) := by decide +kernel
theorem dX11_tells_162 : decode cX11_tells 162 = .ok (.if_icmp .ne 17, 3) := by decide +kernel
theorem dX11_tells_165 : decode cX11_tells 165 = .ok (.aload_n 0, 1) := by decide +kernel
theorem dX11_tells_166 : decode cX11_tells 166 = .ok (.aload_n 0, 1) := by decide +kernel
theorem dX11_tells_167 : decode cX11_tells 167 = .ok (.getfield 157, 3) := by decide +kernel
theorem dX11_tells_170 : decode cX11_tells 170 = .ok (.iload_n 3, 1) := by decide +kernel
theorem dX11_tells_171 : decode cX11_tells 171 = .ok (.iaload, 1) := by decide +kernel
theorem dX11_tells_172 : decode cX11_tells 172 = .ok (.i2l, 1) := by decide +kernel
theorem dX11_tells_173 : decode cX11_tells 173 = .ok (.invokevirtual 490, 3) := by decide +kernel
theorem dX11_tells_176 : decode cX11_tells 176 = .ok (.goto 100, 3) := by decide +kernel
theorem dX11_tells_179 : decode cX11_tells 179 = .ok (.iload 7, 2) := by decide +kernel
theorem dX11_tells_181 : decode cX11_tells 181 = .ok (.bipush 30, 2) := by decide +kernel
theorem dX11_tells_183 : decode cX11_tells 183 = .ok (.if_icmp .ne 17, 3) := by decide +kernel
theorem dX11_tells_186 : decode cX11_tells 186 = .ok (.aload_n 0, 1) := by decide +kernel
theorem dX11_tells_187 : decode cX11_tells 187 = .ok (.iload_n 3, 1) := by decide +kernel
theorem dX11_tells_188 : decode cX11_tells 188 = .ok (.aload_n 0, 1) := by decide +kernel
theorem dX11_tells_189 : decode cX11_tells 189 = .ok (.getfield 121, 3) := by decide +kernel
theorem dX11_tells_192 : decode cX11_tells 192 = .ok (.idiv, 1) := by decide +kernel
theorem dX11_tells_193 : decode cX11_tells 193 = .ok (.i2l, 1) := by decide +kernel
theorem dX11_tells_194 : decode cX11_tells 194 = .ok (.invokevirtual 490, 3) := by decide +kernel
theorem dX11_tells_197 : decode cX11_tells 197 = .ok (.goto 79, 3) := by decide +kernel
theorem dX11_tells_200 : decode cX11_tells 200 = .ok (.iload 7, 2) := by decide +kernel
theorem dX11_tells_202 : decode cX11_tells 202 = .ok (.bipush 31, 2) := by decide +kernel
theorem dX11_tells_204 : decode cX11_tells 204 = .ok (.if_icmp .ne 17, 3) := by decide +kernel
theorem dX11_tells_207 : decode cX11_tells 207 = .ok (.aload_n 0, 1) := by decide +kernel
theorem dX11_tells_208 : decode cX11_tells 208 = .ok (.iload_n 3, 1) := by decide +kernel
theorem dX11_tells_209 : decode cX11_tells 209 = .ok (.aload_n 0, 1) := by decide +kernel
theorem dX11_tells_210 : decode cX11_tells 210 = .ok (.getfield 121, 3) := by decide +kernel
theorem dX11_tells_213 : decode cX11_tells 213 = .ok (.irem, 1) := by decide +kernel
theorem dX11_tells_214 : decode cX11_tells 214 = .ok (.i2l, 1) := by decide +kernel
theorem dX11_tells_215 : decode cX11_tells 215 = .ok (.invokevirtual 490, 3) := by decide +kernel
theorem dX11_tells_218 : decode cX11_tells 218 = .ok (.goto 58, 3) := by decide +kernel
theorem dX11_tells_221 : decode cX11_tells 221 = .ok (.iload 7, 2) := by decide +kernel
theorem dX11_tells_223 : decode cX11_tells 223 = .ok (.bipush 17, 2) := by decide +kernel
theorem dX11_tells_225 : decode cX11_tells 225 = .ok (.if_icmp .ne 11, 3) := by decide +kernel
theorem dX11_tells_228 : decode cX11_tells 228 = .ok (.aload_n 0, 1) := by decide +kernel
theorem dX11_tells_229 : decode cX11_tells 229 = .ok (.lconst 1, 1) := by decide +kernel
theorem dX11_tells_230 : decode cX11_tells 230 = .ok (.invokevirtual 490, 3) := by decide +kernel
theorem dX11_tells_233 : decode cX11_tells 233 = .ok (.goto 43, 3) := by decide +kernel
theorem dX11_tells_236 : decode cX11_tells 236 = .ok (.iload 7, 2) := by decide +kernel
theorem dX11_tells_238 : decode cX11_tells 238 = .ok (.bipush 16, 2) := by decide +kernel
theorem dX11_tells_240 : decode cX11_tells 240 = .ok (.if_icmp .ne 30, 3) := by decide +kernel
theorem dX11_tells_243 : decode cX11_tells 243 = .ok (.aload_n 0, 1) := by decide +kernel
theorem dX11_tells_244 : decode cX11_tells 244 = .ok (.getfield 169, 3) := by decide +kernel
theorem dX11_tells_247 : decode cX11_tells 247 = .ok (.aload_n 0, 1) := by decide +kernel
theorem dX11_tells_248 : decode cX11_tells 248 = .ok (.getfield 483, 3) := by decide +kernel
theorem dX11_tells_251 : decode cX11_tells 251 = .ok (.iconst 1, 1) := by decide +kernel
theorem dX11_tells_252 : decode cX11_tells 252 = .ok (.isub, 1) := by decide +kernel
theorem dX11_tells_253 : decode cX11_tells 253 = .ok (.lconst 1, 1) := by decide +kernel
theorem dX11_tells_254 : decode cX11_tells 254 = .ok (.aload_n 0, 1) := by decide +kernel
theorem dX11_tells_255 : decode cX11_tells 255 = .ok (.getfield 169, 3) := by decide +kernel
theorem dX11_tells_258 : decode cX11_tells 258 = .ok (.aload_n 0, 1) := by decide +kernel
theorem dX11_tells_259 : decode cX11_tells 259 = .ok (.getfield 483, 3) := by decide +kernel
theorem dX11_tells_262 : decode cX11_tells 262 = .ok (.iconst 1, 1) := by decide +kernel
theorem dX11_tells_263 : decode cX11_tells 263 = .ok (.isub, 1) := by decide +kernel
theorem dX11_tells_264 : decode cX11_tells 264 = .ok (.laload, 1) := by decide +kernel
theorem dX11_tells_265 : decode cX11_tells 265 = .ok (.lsub, 1) := by decide +kernel
theorem dX11_tells_266 : decode cX11_tells 266 = .ok (.lastore, 1) := by decide +kernel
theorem dX11_tells_267 : decode cX11_tells 267 = .ok (.goto 9, 3) := by decide +kernel
theorem dX11_tells_270 : decode cX11_tells 270 = .ok (.aload_n 0, 1) := by decide +kernel
theorem dX11_tells_271 : decode cX11_tells 271 = .ok (.iload 7, 2) := by decide +kernel
theorem dX11_tells_273 : decode cX11_tells 273 = .ok (.invokevirtual 498, 3) := by decide +kernel
theorem dX11_tells_276 : decode cX11_tells 276 = .ok (.iinc 6 1, 3) := by decide +kernel
theorem dX11_tells_279 : decode cX11_tells 279 = .ok (.goto (-271), 3) := by decide +kernel
theorem dX11_tells_282 : decode cX11_tells 282 = .ok (.aload_n 0, 1) := by decide +kernel
theorem dX11_tells_283 : decode cX11_tells 283 = .ok (.getfield 169, 3) := by decide +kernel
theorem dX11_tells_286 : decode cX11_tells 286 = .ok (.iconst 0, 1) := by decide +kernel
theorem dX11_tells_287 : decode cX11_tells 287 = .ok (.laload, 1) := by decide +kernel
theorem dX11_tells_288 : decode cX11_tells 288 = .ok (.lreturn, 1) := by decide +kernel
theorem dX11_tellsRule_0 : decode cX11_tellsRule 0 = .ok (.iconst 0, 1) := by decide +kernel
theorem dX11_tellsRule_1 : decode cX11_tellsRule 1 = .ok (.istore 5, 2) := by decide +kernel
theorem dX11_tellsRule_3 : decode cX11_tellsRule 3 = .ok (.iload 5, 2) := by decide +kernel
theorem dX11_tellsRule_5 : decode cX11_tellsRule 5 = .ok (.aload_n 0, 1) := by decide +kernel
theorem dX11_tellsRule_6 : decode cX11_tellsRule 6 = .ok (.getfield 100, 3) := by decide +kernel
theorem dX11_tellsRule_9 : decode cX11_tellsRule 9 = .ok (.iconst 1, 1) := by decide +kernel
theorem dX11_tellsRule_10 : decode cX11_tellsRule 10 = .ok (.iaload, 1) := by decide +kernel
theorem dX11_tellsRule_11 : decode cX11_tellsRule 11 = .ok (.if_icmp .ge 77, 3) := by decide +kernel
theorem dX11_tellsRule_14 : decode cX11_tellsRule 14 = .ok (.bipush 24, 2) := by decide +kernel
theorem dX11_tellsRule_16 : decode cX11_tellsRule 16 = .ok (.iload 5, 2) := by decide +kernel
theorem dX11_tellsRule_18 : decode cX11_tellsRule 18 = .ok (.iadd, 1) := by decide +kernel
theorem dX11_tellsRule_19 : decode cX11_tellsRule 19 = .ok (.istore 6, 2) := by decide +kernel
theorem dX11_tellsRule_21 : decode cX11_tellsRule 21 = .ok (.aload_n 0, 1) := by decide +kernel
theorem dX11_tellsRule_22 : decode cX11_tellsRule 22 = .ok (.getfield 103, 3) := by decide +kernel
theorem dX11_tellsRule_25 : decode cX11_tellsRule 25 = .ok (.iload 6, 2) := by decide +kernel
theorem dX11_tellsRule_27 : decode cX11_tellsRule 27 = .ok (.iaload, 1) := by decide +kernel
theorem dX11_tellsRule_28 : decode cX11_tellsRule 28 = .ok (.iload_n 1, 1) := by decide +kernel
theorem dX11_tellsRule_29 : decode cX11_tellsRule 29 = .ok (.if_icmp .ne 53, 3) := by decide +kernel
theorem dX11_tellsRule_32 : decode cX11_tellsRule 32 = .ok (.aload_n 0, 1) := by decide +kernel
theorem dX11_tellsRule_33 : decode cX11_tellsRule 33 = .ok (.aload_n 0, 1) := by decide +kernel
theorem dX11_tellsRule_34 : decode cX11_tellsRule 34 = .ok (.getfield 109, 3) := by decide +kernel
theorem dX11_tellsRule_37 : decode cX11_tellsRule 37 = .ok (.iload 6, 2) := by decide +kernel
theorem dX11_tellsRule_39 : decode cX11_tellsRule 39 = .ok (.iaload, 1) := by decide +kernel
theorem dX11_tellsRule_40 : decode cX11_tellsRule 40 = .ok (.aload_n 0, 1) := by decide +kernel
theorem dX11_tellsRule_41 : decode cX11_tellsRule 41 = .ok (.getfield 112, 3) := by decide +kernel
theorem dX11_tellsRule_44 : decode cX11_tellsRule 44 = .ok (.iload 6, 2) := by decide +kernel
theorem dX11_tellsRule_46 : decode cX11_tellsRule 46 = .ok (.iaload, 1) := by decide +kernel
theorem dX11_tellsRule_47 : decode cX11_tellsRule 47 = .ok (.iload_n 2, 1) := by decide +kernel
theorem dX11_tellsRule_48 : decode cX11_tellsRule 48 = .ok (.iload_n 3, 1) := by decide +kernel
theorem dX11_tellsRule_49 : decode cX11_tellsRule 49 = .ok (.iload 4, 2) := by decide +kernel
theorem dX11_tellsRule_51 : decode cX11_tellsRule 51 = .ok (.invokevirtual 501, 3) := by decide +kernel
theorem dX11_tellsRule_54 : decode cX11_tellsRule 54 = .ok (.lconst 1, 1) := by decide +kernel
theorem dX11_tellsRule_55 : decode cX11_tellsRule 55 = .ok (.lcmp, 1) := by decide +kernel
theorem dX11_tellsRule_56 : decode cX11_tellsRule 56 = .ok (.ifCond .ne 26, 3) := by decide +kernel
theorem dX11_tellsRule_59 : decode cX11_tellsRule 59 = .ok (.aload_n 0, 1) := by decide +kernel
theorem dX11_tellsRule_60 : decode cX11_tellsRule 60 = .ok (.aload_n 0, 1) := by decide +kernel
theorem dX11_tellsRule_61 : decode cX11_tellsRule 61 = .ok (.getfield 106, 3) := by decide +kernel
theorem dX11_tellsRule_64 : decode cX11_tellsRule 64 = .ok (.iload 6, 2) := by decide +kernel
theorem dX11_tellsRule_66 : decode cX11_tellsRule 66 = .ok (.iaload, 1) := by decide +kernel
theorem dX11_tellsRule_67 : decode cX11_tellsRule 67 = .ok (.aload_n 0, 1) := by decide +kernel
theorem dX11_tellsRule_68 : decode cX11_tellsRule 68 = .ok (.getfield 109, 3) := by decide +kernel
theorem dX11_tellsRule_71 : decode cX11_tellsRule 71 = .ok (.iload 6, 2) := by decide +kernel
theorem dX11_tellsRule_73 : decode cX11_tellsRule 73 = .ok (.iaload, 1) := by decide +kernel
theorem dX11_tellsRule_74 : decode cX11_tellsRule 74 = .ok (.iload_n 2, 1) := by decide +kernel
theorem dX11_tellsRule_75 : decode cX11_tellsRule 75 = .ok (.iload_n 3, 1) := by decide +kernel
theorem dX11_tellsRule_76 : decode cX11_tellsRule 76 = .ok (.iload 4, 2) := by decide +kernel
theorem dX11_tellsRule_78 : decode cX11_tellsRule 78 = .ok (.invokevirtual 501, 3) := by decide +kernel
theorem dX11_tellsRule_81 : decode cX11_tellsRule 81 = .ok (.lreturn, 1) := by decide +kernel
theorem dX11_tellsRule_82 : decode cX11_tellsRule 82 = .ok (.iinc 5 1, 3) := by decide +kernel
theorem dX11_tellsRule_85 : decode cX11_tellsRule 85 = .ok (.goto (-82), 3) := by decide +kernel
theorem dX11_tellsRule_88 : decode cX11_tellsRule 88 = .ok (.lconst 0, 1) := by decide +kernel
theorem dX11_tellsRule_89 : decode cX11_tellsRule 89 = .ok (.lreturn, 1) := by decide +kernel
theorem dX11_chanceOf_0 : decode cX11_chanceOf 0 = .ok (.aload_n 0, 1) := by decide +kernel
theorem dX11_chanceOf_1 : decode cX11_chanceOf 1 = .ok (.getfield 160, 3) := by decide +kernel
theorem dX11_chanceOf_4 : decode cX11_chanceOf 4 = .ok (.iload_n 1, 1) := by decide +kernel
theorem dX11_chanceOf_5 : decode cX11_chanceOf 5 = .ok (.iaload, 1) := by decide +kernel
theorem dX11_chanceOf_6 : decode cX11_chanceOf 6 = .ok (.ifCond .ne 5, 3) := by decide +kernel
theorem dX11_chanceOf_9 : decode cX11_chanceOf 9 = .ok (.iconst 0, 1) := by decide +kernel
theorem dX11_chanceOf_10 : decode cX11_chanceOf 10 = .ok (.ireturn, 1) := by decide +kernel
theorem dX11_chanceOf_11 : decode cX11_chanceOf 11 = .ok (.aload_n 0, 1) := by decide +kernel
theorem dX11_chanceOf_12 : decode cX11_chanceOf 12 = .ok (.iconst 0, 1) := by decide +kernel
theorem dX11_chanceOf_13 : decode cX11_chanceOf 13 = .ok (.iload_n 1, 1) := by decide +kernel
theorem dX11_chanceOf_14 : decode cX11_chanceOf 14 = .ok (.iload_n 2, 1) := by decide +kernel
theorem dX11_chanceOf_15 : decode cX11_chanceOf 15 = .ok (.iload_n 3, 1) := by decide +kernel
theorem dX11_chanceOf_16 : decode cX11_chanceOf 16 = .ok (.invokevirtual 468, 3) := by decide +kernel
theorem dX11_chanceOf_19 : decode cX11_chanceOf 19 = .ok (.lstore 4, 2) := by decide +kernel
theorem dX11_chanceOf_21 : decode cX11_chanceOf 21 = .ok (.lload 4, 2) := by decide +kernel
theorem dX11_chanceOf_23 : decode cX11_chanceOf 23 = .ok (.lconst 0, 1) := by decide +kernel
theorem dX11_chanceOf_24 : decode cX11_chanceOf 24 = .ok (.lcmp, 1) := by decide +kernel
theorem dX11_chanceOf_25 : decode cX11_chanceOf 25 = .ok (.ifCond .ge 7, 3) := by decide +kernel
theorem dX11_chanceOf_28 : decode cX11_chanceOf 28 = .ok (.iconst 0, 1) := by decide +kernel
theorem dX11_chanceOf_29 : decode cX11_chanceOf 29 = .ok (.goto 21, 3) := by decide +kernel
theorem dX11_chanceOf_32 : decode cX11_chanceOf 32 = .ok (.lload 4, 2) := by decide +kernel
theorem dX11_chanceOf_34 : decode cX11_chanceOf 34 = .ok (.ldc2_w 505, 3) := by decide +kernel
theorem dX11_chanceOf_37 : decode cX11_chanceOf 37 = .ok (.lcmp, 1) := by decide +kernel
theorem dX11_chanceOf_38 : decode cX11_chanceOf 38 = .ok (.ifCond .le 9, 3) := by decide +kernel
theorem dX11_chanceOf_41 : decode cX11_chanceOf 41 = .ok (.sipush 1000, 3) := by decide +kernel
theorem dX11_chanceOf_44 : decode cX11_chanceOf 44 = .ok (.goto 6, 3) := by decide +kernel
theorem dX11_chanceOf_47 : decode cX11_chanceOf 47 = .ok (.lload 4, 2) := by decide +kernel
theorem dX11_chanceOf_49 : decode cX11_chanceOf 49 = .ok (.l2i, 1) := by decide +kernel
theorem dX11_chanceOf_50 : decode cX11_chanceOf 50 = .ok (.ireturn, 1) := by decide +kernel
theorem dX11_chance_0 : decode cX11_chance 0 = .ok (.aload_n 0, 1) := by decide +kernel
theorem dX11_chance_1 : decode cX11_chance 1 = .ok (.iload_n 1, 1) := by decide +kernel
theorem dX11_chance_2 : decode cX11_chance 2 = .ok (.invokevirtual 422, 3) := by decide +kernel
theorem dX11_chance_5 : decode cX11_chance 5 = .ok (.ifCond .eq 11, 3) := by decide +kernel
theorem dX11_chance_8 : decode cX11_chance 8 = .ok (.iload_n 2, 1) := by decide +kernel
theorem dX11_chance_9 : decode cX11_chance 9 = .ok (.iload_n 3, 1) := by decide +kernel
theorem dX11_chance_10 : decode cX11_chance 10 = .ok (.invokestatic 435, 3) := by decide +kernel
theorem dX11_chance_13 : decode cX11_chance 13 = .ok (.ifCond .ne 5, 3) := by decide +kernel
theorem dX11_chance_16 : decode cX11_chance 16 = .ok (.iconst (-1), 1) := by decide +kernel
theorem dX11_chance_17 : decode cX11_chance 17 = .ok (.ireturn, 1) := by decide +kernel
theorem dX11_chance_18 : decode cX11_chance 18 = .ok (.aload_n 0, 1) := by decide +kernel
theorem dX11_chance_19 : decode cX11_chance 19 = .ok (.invokevirtual 472, 3) := by decide +kernel
theorem dX11_chance_22 : decode cX11_chance 22 = .ok (.aload_n 0, 1) := by decide +kernel
theorem dX11_chance_23 : decode cX11_chance 23 = .ok (.getfield 151, 3) := by decide +kernel
theorem dX11_chance_26 : decode cX11_chance 26 = .ok (.iload_n 1, 1) := by decide +kernel
theorem dX11_chance_27 : decode cX11_chance 27 = .ok (.iaload, 1) := by decide +kernel
theorem dX11_chance_28 : decode cX11_chance 28 = .ok (.iconst (-1), 1) := by decide +kernel
theorem dX11_chance_29 : decode cX11_chance 29 = .ok (.if_icmp .ne 7, 3) := by decide +kernel
theorem dX11_chance_32 : decode cX11_chance 32 = .ok (.iconst (-1), 1) := by decide +kernel
theorem dX11_chance_33 : decode cX11_chance 33 = .ok (.goto 10, 3) := by decide +kernel
theorem dX11_chance_36 : decode cX11_chance 36 = .ok (.aload_n 0, 1) := by decide +kernel
theorem dX11_chance_37 : decode cX11_chance 37 = .ok (.iload_n 1, 1) := by decide +kernel
theorem dX11_chance_38 : decode cX11_chance 38 = .ok (.iload_n 2, 1) := by decide +kernel
theorem dX11_chance_39 : decode cX11_chance 39 = .ok (.iload_n 3, 1) := by decide +kernel
theorem dX11_chance_40 : decode cX11_chance 40 = .ok (.invokevirtual 507, 3) := by decide +kernel
theorem dX11_chance_43 : decode cX11_chance 43 = .ok (.ireturn, 1) := by decide +kernel
theorem dX11_table_0 : decode cX11_table 0 = .ok (.iload_n 1, 1) := by decide +kernel
theorem dX11_table_1 : decode cX11_table 1 = .ok (.iload_n 2, 1) := by decide +kernel
theorem dX11_table_2 : decode cX11_table 2 = .ok (.invokestatic 435, 3) := by decide +kernel
theorem dX11_table_5 : decode cX11_table 5 = .ok (.ifCond .ne 5, 3) := by decide +kernel
theorem dX11_table_8 : decode cX11_table 8 = .ok (.iconst (-1), 1) := by decide +kernel
theorem dX11_table_9 : decode cX11_table 9 = .ok (.ireturn, 1) := by decide +kernel
theorem dX11_table_10 : decode cX11_table 10 = .ok (.aload_n 0, 1) := by decide +kernel
theorem dX11_table_11 : decode cX11_table 11 = .ok (.invokevirtual 472, 3) := by decide +kernel
theorem dX11_table_14 : decode cX11_table 14 = .ok (.aload_n 0, 1) := by decide +kernel
theorem dX11_table_15 : decode cX11_table 15 = .ok (.iconst 0, 1) := by decide +kernel
theorem dX11_table_16 : decode cX11_table 16 = .ok (.putfield 172, 3) := by decide +kernel
theorem dX11_table_19 : decode cX11_table 19 = .ok (.iconst 0, 1) := by decide +kernel
theorem dX11_table_20 : decode cX11_table 20 = .ok (.istore_n 3, 1) := by decide +kernel
theorem dX11_table_21 : decode cX11_table 21 = .ok (.iload_n 3, 1) := by decide +kernel
theorem dX11_table_22 : decode cX11_table 22 = .ok (.bipush 66, 2) := by decide +kernel
theorem dX11_table_24 : decode cX11_table 24 = .ok (.if_icmp .ge 26, 3) := by decide +kernel
theorem dX11_table_27 : decode cX11_table 27 = .ok (.aload_n 0, 1) := by decide +kernel
theorem dX11_table_28 : decode cX11_table 28 = .ok (.getfield 175, 3) := by decide +kernel
theorem dX11_table_31 : decode cX11_table 31 = .ok (.iload_n 3, 1) := by decide +kernel
theorem dX11_table_32 : decode cX11_table 32 = .ok (.iload_n 3, 1) := by decide +kernel
theorem dX11_table_33 : decode cX11_table 33 = .ok (.ifCond .ne 9, 3) := by decide +kernel
theorem dX11_table_36 : decode cX11_table 36 = .ok (.ldc2_w 511, 3) := by decide +kernel
theorem dX11_table_39 : decode cX11_table 39 = .ok (.goto 4, 3) := by decide +kernel
theorem dX11_table_42 : decode cX11_table 42 = .ok (.lconst 0, 1) := by decide +kernel
theorem dX11_table_43 : decode cX11_table 43 = .ok (.lastore, 1) := by decide +kernel
theorem dX11_table_44 : decode cX11_table 44 = .ok (.iinc 3 1, 3) := by decide +kernel
theorem dX11_table_47 : decode cX11_table 47 = .ok (.goto (-26), 3) := by decide +kernel
theorem dX11_table_50 : decode cX11_table 50 = .ok (.iconst 0, 1) := by decide +kernel
theorem dX11_table_51 : decode cX11_table 51 = .ok (.istore_n 3, 1) := by decide +kernel
theorem dX11_table_52 : decode cX11_table 52 = .ok (.iload_n 3, 1) := by decide +kernel
theorem dX11_table_53 : decode cX11_table 53 = .ok (.aload_n 0, 1) := by decide +kernel
theorem dX11_table_54 : decode cX11_table 54 = .ok (.invokevirtual 419, 3) := by decide +kernel
theorem dX11_table_57 : decode cX11_table 57 = .ok (.if_icmp .ge 110, 3) := by decide +kernel
theorem dX11_table_60 : decode cX11_table 60 = .ok (.aload_n 0, 1) := by decide +kernel
theorem dX11_table_61 : decode cX11_table 61 = .ok (.getfield 151, 3) := by decide +kernel
theorem dX11_table_64 : decode cX11_table 64 = .ok (.iload_n 3, 1) := by decide +kernel
theorem dX11_table_65 : decode cX11_table 65 = .ok (.iaload, 1) := by decide +kernel
theorem dX11_table_66 : decode cX11_table 66 = .ok (.iconst (-1), 1) := by decide +kernel
theorem dX11_table_67 : decode cX11_table 67 = .ok (.if_icmp .ne 6, 3) := by decide +kernel
theorem dX11_table_70 : decode cX11_table 70 = .ok (.goto 91, 3) := by decide +kernel
theorem dX11_table_73 : decode cX11_table 73 = .ok (.aload_n 0, 1) := by decide +kernel
theorem dX11_table_74 : decode cX11_table 74 = .ok (.iload_n 3, 1) := by decide +kernel
theorem dX11_table_75 : decode cX11_table 75 = .ok (.iload_n 1, 1) := by decide +kernel
theorem dX11_table_76 : decode cX11_table 76 = .ok (.iload_n 2, 1) := by decide +kernel
theorem dX11_table_77 : decode cX11_table 77 = .ok (.invokevirtual 507, 3) := by decide +kernel
theorem dX11_table_80 : decode cX11_table 80 = .ok (.i2l, 1) := by decide +kernel
theorem dX11_table_81 : decode cX11_table 81 = .ok (.lstore 4, 2) := by decide +kernel
theorem dX11_table_83 : decode cX11_table 83 = .ok (.aload_n 0, 1) := by decide +kernel
theorem dX11_table_84 : decode cX11_table 84 = .ok (.dup, 1) := by decide +kernel
theorem dX11_table_85 : decode cX11_table 85 = .ok (.getfield 172, 3) := by decide +kernel
theorem dX11_table_88 : decode cX11_table 88 = .ok (.iconst 1, 1) := by decide +kernel
theorem dX11_table_89 : decode cX11_table 89 = .ok (.iadd, 1) := by decide +kernel
theorem dX11_table_90 : decode cX11_table 90 = .ok (.putfield 172, 3) := by decide +kernel
theorem dX11_table_93 : decode cX11_table 93 = .ok (.aload_n 0, 1) := by decide +kernel
theorem dX11_table_94 : decode cX11_table 94 = .ok (.getfield 172, 3) := by decide +kernel
theorem dX11_table_97 : decode cX11_table 97 = .ok (.istore 6, 2) := by decide +kernel
theorem dX11_table_99 : decode cX11_table 99 = .ok (.iload 6, 2) := by decide +kernel
theorem dX11_table_101 : decode cX11_table 101 = .ok (.ifCond .lt 60, 3) := by decide +kernel
theorem dX11_table_104 : decode cX11_table 104 = .ok (.aload_n 0, 1) := by decide +kernel
theorem dX11_table_105 : decode cX11_table 105 = .ok (.getfield 175, 3) := by decide +kernel
theorem dX11_table_108 : decode cX11_table 108 = .ok (.iload 6, 2) := by decide +kernel
theorem dX11_table_110 : decode cX11_table 110 = .ok (.aload_n 0, 1) := by decide +kernel
theorem dX11_table_111 : decode cX11_table 111 = .ok (.getfield 175, 3) := by decide +kernel
theorem dX11_table_114 : decode cX11_table 114 = .ok (.iload 6, 2) := by decide +kernel
theorem dX11_table_116 : decode cX11_table 116 = .ok (.laload, 1) := by decide +kernel
theorem dX11_table_117 : decode cX11_table 117 = .ok (.ldc2_w 505, 3) := by decide +kernel
theorem dX11_table_120 : decode cX11_table 120 = .ok (.lload 4, 2) := by decide +kernel
theorem dX11_table_122 : decode cX11_table 122 = .ok (.lsub, 1) := by decide +kernel
theorem dX11_table_123 : decode cX11_table 123 = .ok (.lmul, 1) := by decide +kernel
theorem dX11_table_124 : decode cX11_table 124 = .ok (.ldc2_w 505, 3) := by decide +kernel
theorem dX11_table_127 : decode cX11_table 127 = .ok (.ldiv, 1) := by decide +kernel
theorem dX11_table_128 : decode cX11_table 128 = .ok (.iload 6, 2) := by decide +kernel
theorem dX11_table_130 : decode cX11_table 130 = .ok (.ifCond .le 22, 3) := by decide +kernel
theorem dX11_table_133 : decode cX11_table 133 = .ok (.aload_n 0, 1) := by decide +kernel
theorem dX11_table_134 : decode cX11_table 134 = .ok (.getfield 175, 3) := by decide +kernel
theorem dX11_table_137 : decode cX11_table 137 = .ok (.iload 6, 2) := by decide +kernel
theorem dX11_table_139 : decode cX11_table 139 = .ok (.iconst 1, 1) := by decide +kernel
theorem dX11_table_140 : decode cX11_table 140 = .ok (.isub, 1) := by decide +kernel
theorem dX11_table_141 : decode cX11_table 141 = .ok (.laload, 1) := by decide +kernel
theorem dX11_table_142 : decode cX11_table 142 = .ok (.lload 4, 2) := by decide +kernel
theorem dX11_table_144 : decode cX11_table 144 = .ok (.lmul, 1) := by decide +kernel
theorem dX11_table_145 : decode cX11_table 145 = .ok (.ldc2_w 505, 3) := by decide +kernel
theorem dX11_table_148 : decode cX11_table 148 = .ok (.ldiv, 1) := by decide +kernel
theorem dX11_table_149 : decode cX11_table 149 = .ok (.goto 4, 3) := by decide +kernel
theorem dX11_table_152 : decode cX11_table 152 = .ok (.lconst 0, 1) := by decide +kernel
theorem dX11_table_153 : decode cX11_table 153 = .ok (.ladd, 1) := by decide +kernel
theorem dX11_table_154 : decode cX11_table 154 = .ok (.lastore, 1) := by decide +kernel
theorem dX11_table_155 : decode cX11_table 155 = .ok (.iinc 6 (-1), 3) := by decide +kernel
theorem dX11_table_158 : decode cX11_table 158 = .ok (.goto (-59), 3) := by decide +kernel
theorem dX11_table_161 : decode cX11_table 161 = .ok (.iinc 3 1, 3) := by decide +kernel
theorem dX11_table_164 : decode cX11_table 164 = .ok (.goto (-112), 3) := by decide +kernel
theorem dX11_table_167 : decode cX11_table 167 = .ok (.aload_n 0, 1) := by decide +kernel
theorem dX11_table_168 : decode cX11_table 168 = .ok (.getfield 172, 3) := by decide +kernel
theorem dX11_table_171 : decode cX11_table 171 = .ok (.ireturn, 1) := by decide +kernel
theorem dX11_odds_0 : decode cX11_odds 0 = .ok (.iload_n 1, 1) := by decide +kernel
theorem dX11_odds_1 : decode cX11_odds 1 = .ok (.i2l, 1) := by decide +kernel
theorem dX11_odds_2 : decode cX11_odds 2 = .ok (.lconst 0, 1) := by decide +kernel
theorem dX11_odds_3 : decode cX11_odds 3 = .ok (.aload_n 0, 1) := by decide +kernel
theorem dX11_odds_4 : decode cX11_odds 4 = .ok (.getfield 172, 3) := by decide +kernel
theorem dX11_odds_7 : decode cX11_odds 7 = .ok (.i2l, 1) := by decide +kernel
theorem dX11_odds_8 : decode cX11_odds 8 = .ok (.invokestatic 300, 3) := by decide +kernel
theorem dX11_odds_11 : decode cX11_odds 11 = .ok (.ifCond .ne 7, 3) := by decide +kernel
theorem dX11_odds_14 : decode cX11_odds 14 = .ok (.ldc2_w 439, 3) := by decide +kernel
theorem dX11_odds_17 : decode cX11_odds 17 = .ok (.lreturn, 1) := by decide +kernel
theorem dX11_odds_18 : decode cX11_odds 18 = .ok (.lconst 0, 1) := by decide +kernel
theorem dX11_odds_19 : decode cX11_odds 19 = .ok (.lstore_n 2, 1) := by decide +kernel
theorem dX11_odds_20 : decode cX11_odds 20 = .ok (.iload_n 1, 1) := by decide +kernel
theorem dX11_odds_21 : decode cX11_odds 21 = .ok (.istore 4, 2) := by decide +kernel
theorem dX11_odds_23 : decode cX11_odds 23 = .ok (.iload 4, 2) := by decide +kernel
theorem dX11_odds_25 : decode cX11_odds 25 = .ok (.aload_n 0, 1) := by decide +kernel
theorem dX11_odds_26 : decode cX11_odds 26 = .ok (.getfield 172, 3) := by decide +kernel
theorem dX11_odds_29 : decode cX11_odds 29 = .ok (.if_icmp .gt 19, 3) := by decide +kernel
theorem dX11_odds_32 : decode cX11_odds 32 = .ok (.lload_n 2, 1) := by decide +kernel
theorem dX11_odds_33 : decode cX11_odds 33 = .ok (.aload_n 0, 1) := by decide +kernel
theorem dX11_odds_34 : decode cX11_odds 34 = .ok (.getfield 175, 3) := by decide +kernel
theorem dX11_odds_37 : decode cX11_odds 37 = .ok (.iload 4, 2) := by decide +kernel
theorem dX11_odds_39 : decode cX11_odds 39 = .ok (.laload, 1) := by decide +kernel
theorem dX11_odds_40 : decode cX11_odds 40 = .ok (.ladd, 1) := by decide +kernel
theorem dX11_odds_41 : decode cX11_odds 41 = .ok (.lstore_n 2, 1) := by decide +kernel
theorem dX11_odds_42 : decode cX11_odds 42 = .ok (.iinc 4 1, 3) := by decide +kernel
theorem dX11_odds_45 : decode cX11_odds 45 = .ok (.goto (-22), 3) := by decide +kernel
theorem dX11_odds_48 : decode cX11_odds 48 = .ok (.lload_n 2, 1) := by decide +kernel
theorem dX11_odds_49 : decode cX11_odds 49 = .ok (.lreturn, 1) := by decide +kernel
theorem dX11_sure_0 : decode cX11_sure 0 = .ok (.aload_n 0, 1) := by decide +kernel
theorem dX11_sure_1 : decode cX11_sure 1 = .ok (.getfield 172, 3) := by decide +kernel
theorem dX11_sure_4 : decode cX11_sure 4 = .ok (.iconst (-1), 1) := by decide +kernel
theorem dX11_sure_5 : decode cX11_sure 5 = .ok (.if_icmp .eq 15, 3) := by decide +kernel
theorem dX11_sure_8 : decode cX11_sure 8 = .ok (.iload_n 1, 1) := by decide +kernel
theorem dX11_sure_9 : decode cX11_sure 9 = .ok (.i2l, 1) := by decide +kernel
theorem dX11_sure_10 : decode cX11_sure 10 = .ok (.lconst 1, 1) := by decide +kernel
theorem dX11_sure_11 : decode cX11_sure 11 = .ok (.ldc2_w 505, 3) := by decide +kernel
theorem dX11_sure_14 : decode cX11_sure 14 = .ok (.invokestatic 300, 3) := by decide +kernel
theorem dX11_sure_17 : decode cX11_sure 17 = .ok (.ifCond .ne 5, 3) := by decide +kernel
theorem dX11_sure_20 : decode cX11_sure 20 = .ok (.iconst (-1), 1) := by decide +kernel
theorem dX11_sure_21 : decode cX11_sure 21 = .ok (.ireturn, 1) := by decide +kernel
theorem dX11_sure_22 : decode cX11_sure 22 = .ok (.aload_n 0, 1) := by decide +kernel
theorem dX11_sure_23 : decode cX11_sure 23 = .ok (.getfield 172, 3) := by decide +kernel
theorem dX11_sure_26 : decode cX11_sure 26 = .ok (.istore_n 2, 1) := by decide +kernel
theorem dX11_sure_27 : decode cX11_sure 27 = .ok (.iload_n 2, 1) := by decide +kernel
theorem dX11_sure_28 : decode cX11_sure 28 = .ok (.ifCond .le 30, 3) := by decide +kernel
theorem dX11_sure_31 : decode cX11_sure 31 = .ok (.aload_n 0, 1) := by decide +kernel
theorem dX11_sure_32 : decode cX11_sure 32 = .ok (.iload_n 2, 1) := by decide +kernel
theorem dX11_sure_33 : decode cX11_sure 33 = .ok (.invokevirtual 513, 3) := by decide +kernel
theorem dX11_sure_36 : decode cX11_sure 36 = .ok (.ldc2_w 511, 3) := by decide +kernel
theorem dX11_sure_39 : decode cX11_sure 39 = .ok (.iload_n 1, 1) := by decide +kernel
theorem dX11_sure_40 : decode cX11_sure 40 = .ok (.i2l, 1) := by decide +kernel
theorem dX11_sure_41 : decode cX11_sure 41 = .ok (.lmul, 1) := by decide +kernel
theorem dX11_sure_42 : decode cX11_sure 42 = .ok (.ldc2_w 505, 3) := by decide +kernel
theorem dX11_sure_45 : decode cX11_sure 45 = .ok (.ldiv, 1) := by decide +kernel
theorem dX11_sure_46 : decode cX11_sure 46 = .ok (.lcmp, 1) := by decide +kernel
theorem dX11_sure_47 : decode cX11_sure 47 = .ok (.ifCond .lt 5, 3) := by decide +kernel
theorem dX11_sure_50 : decode cX11_sure 50 = .ok (.iload_n 2, 1) := by decide +kernel
theorem dX11_sure_51 : decode cX11_sure 51 = .ok (.ireturn, 1) := by decide +kernel
theorem dX11_sure_52 : decode cX11_sure 52 = .ok (.iinc 2 (-1), 3) := by decide +kernel
theorem dX11_sure_55 : decode cX11_sure 55 = .ok (.goto (-28), 3) := by decide +kernel
theorem dX11_sure_58 : decode cX11_sure 58 = .ok (.iconst 0, 1) := by decide +kernel
theorem dX11_sure_59 : decode cX11_sure 59 = .ok (.ireturn, 1) := by decide +kernel
theorem dX11_draws_0 : decode cX11_draws 0 = .ok (.lload_n 3, 1) := by decide +kernel
theorem dX11_draws_1 : decode cX11_draws 1 = .ok (.lstore 5, 2) := by decide +kernel
theorem dX11_draws_3 : decode cX11_draws 3 = .ok (.iconst 0, 1) := by decide +kernel
theorem dX11_draws_4 : decode cX11_draws 4 = .ok (.istore 7, 2) := by decide +kernel
theorem dX11_draws_6 : decode cX11_draws 6 = .ok (.iload 7, 2) := by decide +kernel
theorem dX11_draws_8 : decode cX11_draws 8 = .ok (.aload_n 0, 1) := by decide +kernel
theorem dX11_draws_9 : decode cX11_draws 9 = .ok (.invokevirtual 419, 3) := by decide +kernel
theorem dX11_draws_12 : decode cX11_draws 12 = .ok (.if_icmp .ge 82, 3) := by decide +kernel
theorem dX11_draws_15 : decode cX11_draws 15 = .ok (.aload_n 0, 1) := by decide +kernel
theorem dX11_draws_16 : decode cX11_draws 16 = .ok (.getfield 178, 3) := by decide +kernel
theorem dX11_draws_19 : decode cX11_draws 19 = .ok (.iload 7, 2) := by decide +kernel
theorem dX11_draws_21 : decode cX11_draws 21 = .ok (.iconst 0, 1) := by decide +kernel
theorem dX11_draws_22 : decode cX11_draws 22 = .ok (.bastore, 1) := by decide +kernel
theorem dX11_draws_23 : decode cX11_draws 23 = .ok (.aload_n 0, 1) := by decide +kernel
theorem dX11_draws_24 : decode cX11_draws 24 = .ok (.getfield 151, 3) := by decide +kernel
theorem dX11_draws_27 : decode cX11_draws 27 = .ok (.iload 7, 2) := by decide +kernel
theorem dX11_draws_29 : decode cX11_draws 29 = .ok (.iaload, 1) := by decide +kernel
theorem dX11_draws_30 : decode cX11_draws 30 = .ok (.iconst (-1), 1) := by decide +kernel
theorem dX11_draws_31 : decode cX11_draws 31 = .ok (.if_icmp .ne 6, 3) := by decide +kernel
theorem dX11_draws_34 : decode cX11_draws 34 = .ok (.goto 54, 3) := by decide +kernel
theorem dX11_draws_37 : decode cX11_draws 37 = .ok (.ldc2_w 517, 3) := by decide +kernel
theorem dX11_draws_40 : decode cX11_draws 40 = .ok (.lload 5, 2) := by decide +kernel
theorem dX11_draws_42 : decode cX11_draws 42 = .ok (.lmul, 1) := by decide +kernel
theorem dX11_draws_43 : decode cX11_draws 43 = .ok (.ldc2_w 519, 3) := by decide +kernel
theorem dX11_draws_46 : decode cX11_draws 46 = .ok (.ladd, 1) := by decide +kernel
theorem dX11_draws_47 : decode cX11_draws 47 = .ok (.ldc2_w 521, 3) := by decide +kernel
theorem dX11_draws_50 : decode cX11_draws 50 = .ok (.lrem, 1) := by decide +kernel
theorem dX11_draws_51 : decode cX11_draws 51 = .ok (.lstore 5, 2) := by decide +kernel
theorem dX11_draws_53 : decode cX11_draws 53 = .ok (.aload_n 0, 1) := by decide +kernel
theorem dX11_draws_54 : decode cX11_draws 54 = .ok (.getfield 178, 3) := by decide +kernel
theorem dX11_draws_57 : decode cX11_draws 57 = .ok (.iload 7, 2) := by decide +kernel
theorem dX11_draws_59 : decode cX11_draws 59 = .ok (.lload 5, 2) := by decide +kernel
theorem dX11_draws_61 : decode cX11_draws 61 = .ok (.ldc2_w 523, 3) := by decide +kernel
theorem dX11_draws_64 : decode cX11_draws 64 = .ok (.ldiv, 1) := by decide +kernel
theorem dX11_draws_65 : decode cX11_draws 65 = .ok (.ldc2_w 505, 3) := by decide +kernel
theorem dX11_draws_68 : decode cX11_draws 68 = .ok (.lrem, 1) := by decide +kernel
theorem dX11_draws_69 : decode cX11_draws 69 = .ok (.aload_n 0, 1) := by decide +kernel
theorem dX11_draws_70 : decode cX11_draws 70 = .ok (.iload 7, 2) := by decide +kernel
theorem dX11_draws_72 : decode cX11_draws 72 = .ok (.iload_n 1, 1) := by decide +kernel
theorem dX11_draws_73 : decode cX11_draws 73 = .ok (.iload_n 2, 1) := by decide +kernel
theorem dX11_draws_74 : decode cX11_draws 74 = .ok (.invokevirtual 507, 3) := by decide +kernel
theorem dX11_draws_77 : decode cX11_draws 77 = .ok (.i2l, 1) := by decide +kernel
theorem dX11_draws_78 : decode cX11_draws 78 = .ok (.lcmp, 1) := by decide +kernel
theorem dX11_draws_79 : decode cX11_draws 79 = .ok (.ifCond .ge 7, 3) := by decide +kernel
theorem dX11_draws_82 : decode cX11_draws 82 = .ok (.iconst 1, 1) := by decide +kernel
theorem dX11_draws_83 : decode cX11_draws 83 = .ok (.goto 4, 3) := by decide +kernel
theorem dX11_draws_86 : decode cX11_draws 86 = .ok (.iconst 0, 1) := by decide +kernel
theorem dX11_draws_87 : decode cX11_draws 87 = .ok (.bastore, 1) := by decide +kernel
theorem dX11_draws_88 : decode cX11_draws 88 = .ok (.iinc 7 1, 3) := by decide +kernel
theorem dX11_draws_91 : decode cX11_draws 91 = .ok (.goto (-85), 3) := by decide +kernel
theorem dX11_draws_94 : decode cX11_draws 94 = .ok (.lload 5, 2) := by decide +kernel
theorem dX11_draws_96 : decode cX11_draws 96 = .ok (.lreturn, 1) := by decide +kernel
theorem dX11_takes__0 : decode cX11_takes_ 0 = .ok (.aload_n 0, 1) := by decide +kernel
theorem dX11_takes__1 : decode cX11_takes_ 1 = .ok (.iconst 0, 1) := by decide +kernel
theorem dX11_takes__2 : decode cX11_takes_ 2 = .ok (.putfield 525, 3) := by decide +kernel
theorem dX11_takes__5 : decode cX11_takes_ 5 = .ok (.iconst 0, 1) := by decide +kernel
theorem dX11_takes__6 : decode cX11_takes_ 6 = .ok (.istore_n 1, 1) := by decide +kernel
theorem dX11_takes__7 : decode cX11_takes_ 7 = .ok (.iload_n 1, 1) := by decide +kernel
theorem dX11_takes__8 : decode cX11_takes_ 8 = .ok (.aload_n 0, 1) := by decide +kernel
theorem dX11_takes__9 : decode cX11_takes_ 9 = .ok (.invokevirtual 419, 3) := by decide +kernel
theorem dX11_takes__12 : decode cX11_takes_ 12 = .ok (.if_icmp .ge 93, 3) := by decide +kernel
