theorem dJ7_fill_53178_0 : decode cJ7_fill_53178 0 = .ok (.iconst 0, 1) := by decide +kernel
theorem dJ7_fill_53178_1 : decode cJ7_fill_53178 1 = .ok (.istore_n 2, 1) := by decide +kernel
theorem dJ7_fill_53178_2 : decode cJ7_fill_53178 2 = .ok (.aload_n 0, 1) := by decide +kernel
theorem dJ7_fill_53178_3 : decode cJ7_fill_53178 3 = .ok (.arraylength, 1) := by decide +kernel
theorem dJ7_fill_53178_4 : decode cJ7_fill_53178 4 = .ok (.istore_n 3, 1) := by decide +kernel
theorem dJ7_fill_53178_5 : decode cJ7_fill_53178 5 = .ok (.iload_n 2, 1) := by decide +kernel
theorem dJ7_fill_53178_6 : decode cJ7_fill_53178 6 = .ok (.iload_n 3, 1) := by decide +kernel
theorem dJ7_fill_53178_7 : decode cJ7_fill_53178 7 = .ok (.if_icmp .ge 13, 3) := by decide +kernel
theorem dJ7_fill_53178_10 : decode cJ7_fill_53178 10 = .ok (.aload_n 0, 1) := by decide +kernel
theorem dJ7_fill_53178_11 : decode cJ7_fill_53178 11 = .ok (.iload_n 2, 1) := by decide +kernel
theorem dJ7_fill_53178_12 : decode cJ7_fill_53178 12 = .ok (.iload_n 1, 1) := by decide +kernel
theorem dJ7_fill_53178_13 : decode cJ7_fill_53178 13 = .ok (.iastore, 1) := by decide +kernel
theorem dJ7_fill_53178_14 : decode cJ7_fill_53178 14 = .ok (.iinc 2 1, 3) := by decide +kernel
theorem dJ7_fill_53178_17 : decode cJ7_fill_53178 17 = .ok (.goto (-12), 3) := by decide +kernel
theorem dJ7_fill_53178_20 : decode cJ7_fill_53178 20 = .ok (.return_, 1) := by decide +kernel
theorem dX10_init_0 : decode cX10_init 0 = .ok (.aload_n 0, 1) := by decide +kernel
theorem dX10_init_1 : decode cX10_init 1 = .ok (.invokespecial 3, 3) := by decide +kernel
theorem dX10_init_4 : decode cX10_init 4 = .ok (.aload_n 0, 1) := by decide +kernel
theorem dX10_init_5 : decode cX10_init 5 = .ok (.new 9, 3) := by decide +kernel
theorem dX10_init_8 : decode cX10_init 8 = .ok (.dup, 1) := by decide +kernel
theorem dX10_init_9 : decode cX10_init 9 = .ok (.invokespecial 11, 3) := by decide +kernel
theorem dX10_init_12 : decode cX10_init 12 = .ok (.putfield 12, 3) := by decide +kernel
theorem dX10_init_15 : decode cX10_init 15 = .ok (.aload_n 0, 1) := by decide +kernel
theorem dX10_init_16 : decode cX10_init 16 = .ok (.new 16, 3) := by decide +kernel
theorem dX10_init_19 : decode cX10_init 19 = .ok (.dup, 1) := by decide +kernel
theorem dX10_init_20 : decode cX10_init 20 = .ok (.invokespecial 18, 3) := by decide +kernel
theorem dX10_init_23 : decode cX10_init 23 = .ok (.putfield 19, 3) := by decide +kernel
theorem dX10_init_26 : decode cX10_init 26 = .ok (.aload_n 0, 1) := by decide +kernel
theorem dX10_init_27 : decode cX10_init 27 = .ok (.new 23, 3) := by decide +kernel
theorem dX10_init_30 : decode cX10_init 30 = .ok (.dup, 1) := by decide +kernel
theorem dX10_init_31 : decode cX10_init 31 = .ok (.invokespecial 25, 3) := by decide +kernel
theorem dX10_init_34 : decode cX10_init 34 = .ok (.putfield 26, 3) := by decide +kernel
theorem dX10_init_37 : decode cX10_init 37 = .ok (.aload_n 0, 1) := by decide +kernel
theorem dX10_init_38 : decode cX10_init 38 = .ok (.new 30, 3) := by decide +kernel
theorem dX10_init_41 : decode cX10_init 41 = .ok (.dup, 1) := by decide +kernel
theorem dX10_init_42 : decode cX10_init 42 = .ok (.invokespecial 32, 3) := by decide +kernel
theorem dX10_init_45 : decode cX10_init 45 = .ok (.putfield 33, 3) := by decide +kernel
theorem dX10_init_48 : decode cX10_init 48 = .ok (.aload_n 0, 1) := by decide +kernel
theorem dX10_init_49 : decode cX10_init 49 = .ok (.new 37, 3) := by decide +kernel
theorem dX10_init_52 : decode cX10_init 52 = .ok (.dup, 1) := by decide +kernel
theorem dX10_init_53 : decode cX10_init 53 = .ok (.invokespecial 39, 3) := by decide +kernel
theorem dX10_init_56 : decode cX10_init 56 = .ok (.putfield 40, 3) := by decide +kernel
theorem dX10_init_59 : decode cX10_init 59 = .ok (.aload_n 0, 1) := by decide +kernel
theorem dX10_init_60 : decode cX10_init 60 = .ok (.new 44, 3) := by decide +kernel
theorem dX10_init_63 : decode cX10_init 63 = .ok (.dup, 1) := by decide +kernel
theorem dX10_init_64 : decode cX10_init 64 = .ok (.invokespecial 46, 3) := by decide +kernel
theorem dX10_init_67 : decode cX10_init 67 = .ok (.putfield 47, 3) := by decide +kernel
theorem dX10_init_70 : decode cX10_init 70 = .ok (.aload_n 0, 1) := by decide +kernel
theorem dX10_init_71 : decode cX10_init 71 = .ok (.new 51, 3) := by decide +kernel
theorem dX10_init_74 : decode cX10_init 74 = .ok (.dup, 1) := by decide +kernel
theorem dX10_init_75 : decode cX10_init 75 = .ok (.invokespecial 53, 3) := by decide +kernel
theorem dX10_init_78 : decode cX10_init 78 = .ok (.putfield 54, 3) := by decide +kernel
theorem dX10_init_81 : decode cX10_init 81 = .ok (.aload_n 0, 1) := by decide +kernel
theorem dX10_init_82 : decode cX10_init 82 = .ok (.new 58, 3) := by decide +kernel
theorem dX10_init_85 : decode cX10_init 85 = .ok (.dup, 1) := by decide +kernel
theorem dX10_init_86 : decode cX10_init 86 = .ok (.invokespecial 60, 3) := by decide +kernel
theorem dX10_init_89 : decode cX10_init 89 = .ok (.putfield 61, 3) := by decide +kernel
theorem dX10_init_92 : decode cX10_init 92 = .ok (.aload_n 0, 1) := by decide +kernel
theorem dX10_init_93 : decode cX10_init 93 = .ok (.new 65, 3) := by decide +kernel
theorem dX10_init_96 : decode cX10_init 96 = .ok (.dup, 1) := by decide +kernel
theorem dX10_init_97 : decode cX10_init 97 = .ok (.invokespecial 67, 3) := by decide +kernel
theorem dX10_init_100 : decode cX10_init 100 = .ok (.putfield 68, 3) := by decide +kernel
theorem dX10_init_103 : decode cX10_init 103 = .ok (.aload_n 0, 1) := by decide +kernel
theorem dX10_init_104 : decode cX10_init 104 = .ok (.new 65, 3) := by decide +kernel
theorem dX10_init_107 : decode cX10_init 107 = .ok (.dup, 1) := by decide +kernel
theorem dX10_init_108 : decode cX10_init 108 = .ok (.invokespecial 67, 3) := by decide +kernel
theorem dX10_init_111 : decode cX10_init 111 = .ok (.putfield 72, 3) := by decide +kernel
theorem dX10_init_114 : decode cX10_init 114 = .ok (.aload_n 0, 1) := by decide +kernel
theorem dX10_init_115 : decode cX10_init 115 = .ok (.new 75, 3) := by decide +kernel
theorem dX10_init_118 : decode cX10_init 118 = .ok (.dup, 1) := by decide +kernel
theorem dX10_init_119 : decode cX10_init 119 = .ok (.aload_n 0, 1) := by decide +kernel
theorem dX10_init_120 : decode cX10_init 120 = .ok (.getfield 12, 3) := by decide +kernel
theorem dX10_init_123 : decode cX10_init 123 = .ok (.aload_n 0, 1) := by decide +kernel
theorem dX10_init_124 : decode cX10_init 124 = .ok (.getfield 72, 3) := by decide +kernel
theorem dX10_init_127 : decode cX10_init 127 = .ok (.invokespecial 77, 3) := by decide +kernel
theorem dX10_init_130 : decode cX10_init 130 = .ok (.putfield 80, 3) := by decide +kernel
theorem dX10_init_133 : decode cX10_init 133 = .ok (.aload_n 0, 1) := by decide +kernel
theorem dX10_init_134 : decode cX10_init 134 = .ok (.iconst 1, 1) := by decide +kernel
theorem dX10_init_135 : decode cX10_init 135 = .ok (.putfield 84, 3) := by decide +kernel
theorem dX10_init_138 : decode cX10_init 138 = .ok (.aload_n 0, 1) := by decide +kernel
theorem dX10_init_139 : decode cX10_init 139 = .ok (.iconst (-1), 1) := by decide +kernel
theorem dX10_init_140 : decode cX10_init 140 = .ok (.putfield 88, 3) := by decide +kernel
theorem dX10_init_143 : decode cX10_init 143 = .ok (.aload_n 0, 1) := by decide +kernel
theorem dX10_init_144 : decode cX10_init 144 = .ok (.iconst 0, 1) := by decide +kernel
theorem dX10_init_145 : decode cX10_init 145 = .ok (.putfield 91, 3) := by decide +kernel
theorem dX10_init_148 : decode cX10_init 148 = .ok (.aload_n 0, 1) := by decide +kernel
theorem dX10_init_149 : decode cX10_init 149 = .ok (.iconst (-1), 1) := by decide +kernel
theorem dX10_init_150 : decode cX10_init 150 = .ok (.putfield 94, 3) := by decide +kernel
theorem dX10_init_153 : decode cX10_init 153 = .ok (.aload_n 0, 1) := by decide +kernel
theorem dX10_init_154 : decode cX10_init 154 = .ok (.getfield 26, 3) := by decide +kernel
theorem dX10_init_157 : decode cX10_init 157 = .ok (.iconst 1, 1) := by decide +kernel
theorem dX10_init_158 : decode cX10_init 158 = .ok (.iconst 1, 1) := by decide +kernel
theorem dX10_init_159 : decode cX10_init 159 = .ok (.invokevirtual 97, 3) := by decide +kernel
theorem dX10_init_162 : decode cX10_init 162 = .ok (.return_, 1) := by decide +kernel
theorem dX9_init_0 : decode cX9_init 0 = .ok (.aload_n 0, 1) := by decide +kernel
theorem dX9_init_1 : decode cX9_init 1 = .ok (.invokespecial 3, 3) := by decide +kernel
theorem dX9_init_4 : decode cX9_init 4 = .ok (.aload_n 0, 1) := by decide +kernel
theorem dX9_init_5 : decode cX9_init 5 = .ok (.sipush 700, 3) := by decide +kernel
theorem dX9_init_8 : decode cX9_init 8 = .ok (.newarray .byte, 2) := by decide +kernel
theorem dX9_init_10 : decode cX9_init 10 = .ok (.putfield 11, 3) := by decide +kernel
theorem dX9_init_13 : decode cX9_init 13 = .ok (.aload_n 0, 1) := by decide +kernel
theorem dX9_init_14 : decode cX9_init 14 = .ok (.iconst 0, 1) := by decide +kernel
theorem dX9_init_15 : decode cX9_init 15 = .ok (.putfield 15, 3) := by decide +kernel
theorem dX9_init_18 : decode cX9_init 18 = .ok (.return_, 1) := by decide +kernel
theorem dX0_init_0 : decode cX0_init 0 = .ok (.aload_n 0, 1) := by decide +kernel
theorem dX0_init_1 : decode cX0_init 1 = .ok (.invokespecial 3, 3) := by decide +kernel
theorem dX0_init_4 : decode cX0_init 4 = .ok (.aload_n 0, 1) := by decide +kernel
theorem dX0_init_5 : decode cX0_init 5 = .ok (.bipush 121, 2) := by decide +kernel
theorem dX0_init_7 : decode cX0_init 7 = .ok (.newarray .int, 2) := by decide +kernel
theorem dX0_init_9 : decode cX0_init 9 = .ok (.putfield 11, 3) := by decide +kernel
theorem dX0_init_12 : decode cX0_init 12 = .ok (.aload_n 0, 1) := by decide +kernel
theorem dX0_init_13 : decode cX0_init 13 = .ok (.bipush 121, 2) := by decide +kernel
theorem dX0_init_15 : decode cX0_init 15 = .ok (.newarray .int, 2) := by decide +kernel
theorem dX0_init_17 : decode cX0_init 17 = .ok (.putfield 15, 3) := by decide +kernel
theorem dX0_init_20 : decode cX0_init 20 = .ok (.aload_n 0, 1) := by decide +kernel
theorem dX0_init_21 : decode cX0_init 21 = .ok (.bipush 121, 2) := by decide +kernel
theorem dX0_init_23 : decode cX0_init 23 = .ok (.newarray .int, 2) := by decide +kernel
theorem dX0_init_25 : decode cX0_init 25 = .ok (.putfield 18, 3) := by decide +kernel
theorem dX0_init_28 : decode cX0_init 28 = .ok (.aload_n 0, 1) := by decide +kernel
theorem dX0_init_29 : decode cX0_init 29 = .ok (.bipush 121, 2) := by decide +kernel
theorem dX0_init_31 : decode cX0_init 31 = .ok (.newarray .int, 2) := by decide +kernel
theorem dX0_init_33 : decode cX0_init 33 = .ok (.putfield 21, 3) := by decide +kernel
theorem dX0_init_36 : decode cX0_init 36 = .ok (.aload_n 0, 1) := by decide +kernel
theorem dX0_init_37 : decode cX0_init 37 = .ok (.bipush 121, 2) := by decide +kernel
theorem dX0_init_39 : decode cX0_init 39 = .ok (.newarray .int, 2) := by decide +kernel
theorem dX0_init_41 : decode cX0_init 41 = .ok (.putfield 24, 3) := by decide +kernel
theorem dX0_init_44 : decode cX0_init 44 = .ok (.aload_n 0, 1) := by decide +kernel
theorem dX0_init_45 : decode cX0_init 45 = .ok (.bipush 121, 2) := by decide +kernel
theorem dX0_init_47 : decode cX0_init 47 = .ok (.newarray .int, 2) := by decide +kernel
theorem dX0_init_49 : decode cX0_init 49 = .ok (.putfield 27, 3) := by decide +kernel
theorem dX0_init_52 : decode cX0_init 52 = .ok (.aload_n 0, 1) := by decide +kernel
theorem dX0_init_53 : decode cX0_init 53 = .ok (.iconst 0, 1) := by decide +kernel
theorem dX0_init_54 : decode cX0_init 54 = .ok (.putfield 30, 3) := by decide +kernel
theorem dX0_init_57 : decode cX0_init 57 = .ok (.return_, 1) := by decide +kernel
theorem dX2_init_0 : decode cX2_init 0 = .ok (.aload_n 0, 1) := by decide +kernel
theorem dX2_init_1 : decode cX2_init 1 = .ok (.invokespecial 3, 3) := by decide +kernel
theorem dX2_init_4 : decode cX2_init 4 = .ok (.aload_n 0, 1) := by decide +kernel
theorem dX2_init_5 : decode cX2_init 5 = .ok (.bipush 64, 2) := by decide +kernel
theorem dX2_init_7 : decode cX2_init 7 = .ok (.newarray .int, 2) := by decide +kernel
theorem dX2_init_9 : decode cX2_init 9 = .ok (.putfield 9, 3) := by decide +kernel
theorem dX2_init_12 : decode cX2_init 12 = .ok (.aload_n 0, 1) := by decide +kernel
theorem dX2_init_13 : decode cX2_init 13 = .ok (.bipush 64, 2) := by decide +kernel
theorem dX2_init_15 : decode cX2_init 15 = .ok (.newarray .int, 2) := by decide +kernel
theorem dX2_init_17 : decode cX2_init 17 = .ok (.putfield 15, 3) := by decide +kernel
theorem dX2_init_20 : decode cX2_init 20 = .ok (.aload_n 0, 1) := by decide +kernel
theorem dX2_init_21 : decode cX2_init 21 = .ok (.bipush 64, 2) := by decide +kernel
theorem dX2_init_23 : decode cX2_init 23 = .ok (.newarray .int, 2) := by decide +kernel
theorem dX2_init_25 : decode cX2_init 25 = .ok (.putfield 18, 3) := by decide +kernel
theorem dX2_init_28 : decode cX2_init 28 = .ok (.aload_n 0, 1) := by decide +kernel
theorem dX2_init_29 : decode cX2_init 29 = .ok (.bipush 64, 2) := by decide +kernel
theorem dX2_init_31 : decode cX2_init 31 = .ok (.newarray .int, 2) := by decide +kernel
theorem dX2_init_33 : decode cX2_init 33 = .ok (.putfield 21, 3) := by decide +kernel
theorem dX2_init_36 : decode cX2_init 36 = .ok (.aload_n 0, 1) := by decide +kernel
theorem dX2_init_37 : decode cX2_init 37 = .ok (.bipush 64, 2) := by decide +kernel
theorem dX2_init_39 : decode cX2_init 39 = .ok (.newarray .int, 2) := by decide +kernel
theorem dX2_init_41 : decode cX2_init 41 = .ok (.putfield 24, 3) := by decide +kernel
theorem dX2_init_44 : decode cX2_init 44 = .ok (.aload_n 0, 1) := by decide +kernel
theorem dX2_init_45 : decode cX2_init 45 = .ok (.sipush 1200, 3) := by decide +kernel
theorem dX2_init_48 : decode cX2_init 48 = .ok (.newarray .int, 2) := by decide +kernel
theorem dX2_init_50 : decode cX2_init 50 = .ok (.putfield 29, 3) := by decide +kernel
theorem dX2_init_53 : decode cX2_init 53 = .ok (.aload_n 0, 1) := by decide +kernel
theorem dX2_init_54 : decode cX2_init 54 = .ok (.new 32, 3) := by decide +kernel
theorem dX2_init_57 : decode cX2_init 57 = .ok (.dup, 1) := by decide +kernel
theorem dX2_init_58 : decode cX2_init 58 = .ok (.invokespecial 34, 3) := by decide +kernel
theorem dX2_init_61 : decode cX2_init 61 = .ok (.putfield 35, 3) := by decide +kernel
theorem dX2_init_64 : decode cX2_init 64 = .ok (.aload_n 0, 1) := by decide +kernel
theorem dX2_init_65 : decode cX2_init 65 = .ok (.new 39, 3) := by decide +kernel
theorem dX2_init_68 : decode cX2_init 68 = .ok (.dup, 1) := by decide +kernel
theorem dX2_init_69 : decode cX2_init 69 = .ok (.invokespecial 41, 3) := by decide +kernel
theorem dX2_init_72 : decode cX2_init 72 = .ok (.putfield 42, 3) := by decide +kernel
theorem dX2_init_75 : decode cX2_init 75 = .ok (.aload_n 0, 1) := by decide +kernel
theorem dX2_init_76 : decode cX2_init 76 = .ok (.iconst 0, 1) := by decide +kernel
theorem dX2_init_77 : decode cX2_init 77 = .ok (.putfield 46, 3) := by decide +kernel
theorem dX2_init_80 : decode cX2_init 80 = .ok (.aload_n 0, 1) := by decide +kernel
theorem dX2_init_81 : decode cX2_init 81 = .ok (.iconst 1, 1) := by decide +kernel
theorem dX2_init_82 : decode cX2_init 82 = .ok (.putfield 50, 3) := by decide +kernel
theorem dX2_init_85 : decode cX2_init 85 = .ok (.aload_n 0, 1) := by decide +kernel
theorem dX2_init_86 : decode cX2_init 86 = .ok (.iconst 1, 1) := by decide +kernel
theorem dX2_init_87 : decode cX2_init 87 = .ok (.putfield 53, 3) := by decide +kernel
theorem dX2_init_90 : decode cX2_init 90 = .ok (.aload_n 0, 1) := by decide +kernel
theorem dX2_init_91 : decode cX2_init 91 = .ok (.iconst 0, 1) := by decide +kernel
theorem dX2_init_92 : decode cX2_init 92 = .ok (.putfield 56, 3) := by decide +kernel
theorem dX2_init_95 : decode cX2_init 95 = .ok (.return_, 1) := by decide +kernel
theorem dX1_init_0 : decode cX1_init 0 = .ok (.aload_n 0, 1) := by decide +kernel
theorem dX1_init_1 : decode cX1_init 1 = .ok (.invokespecial 3, 3) := by decide +kernel
theorem dX1_init_4 : decode cX1_init 4 = .ok (.aload_n 0, 1) := by decide +kernel
theorem dX1_init_5 : decode cX1_init 5 = .ok (.bipush 64, 2) := by decide +kernel
theorem dX1_init_7 : decode cX1_init 7 = .ok (.newarray .int, 2) := by decide +kernel
theorem dX1_init_9 : decode cX1_init 9 = .ok (.putfield 9, 3) := by decide +kernel
theorem dX1_init_12 : decode cX1_init 12 = .ok (.aload_n 0, 1) := by decide +kernel
theorem dX1_init_13 : decode cX1_init 13 = .ok (.bipush 64, 2) := by decide +kernel
theorem dX1_init_15 : decode cX1_init 15 = .ok (.newarray .int, 2) := by decide +kernel
theorem dX1_init_17 : decode cX1_init 17 = .ok (.putfield 15, 3) := by decide +kernel
theorem dX1_init_20 : decode cX1_init 20 = .ok (.aload_n 0, 1) := by decide +kernel
theorem dX1_init_21 : decode cX1_init 21 = .ok (.bipush 64, 2) := by decide +kernel
theorem dX1_init_23 : decode cX1_init 23 = .ok (.newarray .int, 2) := by decide +kernel
theorem dX1_init_25 : decode cX1_init 25 = .ok (.putfield 18, 3) := by decide +kernel
theorem dX1_init_28 : decode cX1_init 28 = .ok (.aload_n 0, 1) := by decide +kernel
theorem dX1_init_29 : decode cX1_init 29 = .ok (.bipush 64, 2) := by decide +kernel
theorem dX1_init_31 : decode cX1_init 31 = .ok (.newarray .int, 2) := by decide +kernel
theorem dX1_init_33 : decode cX1_init 33 = .ok (.putfield 21, 3) := by decide +kernel
theorem dX1_init_36 : decode cX1_init 36 = .ok (.aload_n 0, 1) := by decide +kernel
theorem dX1_init_37 : decode cX1_init 37 = .ok (.iconst 0, 1) := by decide +kernel
theorem dX1_init_38 : decode cX1_init 38 = .ok (.putfield 24, 3) := by decide +kernel
theorem dX1_init_41 : decode cX1_init 41 = .ok (.aload_n 0, 1) := by decide +kernel
theorem dX1_init_42 : decode cX1_init 42 = .ok (.iconst 1, 1) := by decide +kernel
theorem dX1_init_43 : decode cX1_init 43 = .ok (.putfield 28, 3) := by decide +kernel
theorem dX1_init_46 : decode cX1_init 46 = .ok (.aload_n 0, 1) := by decide +kernel
theorem dX1_init_47 : decode cX1_init 47 = .ok (.iconst 0, 1) := by decide +kernel
theorem dX1_init_48 : decode cX1_init 48 = .ok (.putfield 31, 3) := by decide +kernel
theorem dX1_init_51 : decode cX1_init 51 = .ok (.aload_n 0, 1) := by decide +kernel
theorem dX1_init_52 : decode cX1_init 52 = .ok (.iconst 0, 1) := by decide +kernel
theorem dX1_init_53 : decode cX1_init 53 = .ok (.putfield 34, 3) := by decide +kernel
theorem dX1_init_56 : decode cX1_init 56 = .ok (.return_, 1) := by decide +kernel
theorem dX6_init_0 : decode cX6_init 0 = .ok (.aload_n 0, 1) := by decide +kernel
theorem dX6_init_1 : decode cX6_init 1 = .ok (.invokespecial 3, 3) := by decide +kernel
theorem dX6_init_4 : decode cX6_init 4 = .ok (.aload_n 0, 1) := by decide +kernel
theorem dX6_init_5 : decode cX6_init 5 = .ok (.bipush 64, 2) := by decide +kernel
theorem dX6_init_7 : decode cX6_init 7 = .ok (.newarray .int, 2) := by decide +kernel
theorem dX6_init_9 : decode cX6_init 9 = .ok (.putfield 9, 3) := by decide +kernel
theorem dX6_init_12 : decode cX6_init 12 = .ok (.aload_n 0, 1) := by decide +kernel
theorem dX6_init_13 : decode cX6_init 13 = .ok (.bipush 64, 2) := by decide +kernel
theorem dX6_init_15 : decode cX6_init 15 = .ok (.newarray .int, 2) := by decide +kernel
theorem dX6_init_17 : decode cX6_init 17 = .ok (.putfield 15, 3) := by decide +kernel
theorem dX6_init_20 : decode cX6_init 20 = .ok (.aload_n 0, 1) := by decide +kernel
theorem dX6_init_21 : decode cX6_init 21 = .ok (.bipush 64, 2) := by decide +kernel
theorem dX6_init_23 : decode cX6_init 23 = .ok (.newarray .int, 2) := by decide +kernel
theorem dX6_init_25 : decode cX6_init 25 = .ok (.putfield 18, 3) := by decide +kernel
theorem dX6_init_28 : decode cX6_init 28 = .ok (.aload_n 0, 1) := by decide +kernel
theorem dX6_init_29 : decode cX6_init 29 = .ok (.bipush 64, 2) := by decide +kernel
theorem dX6_init_31 : decode cX6_init 31 = .ok (.newarray .int, 2) := by decide +kernel
theorem dX6_init_33 : decode cX6_init 33 = .ok (.putfield 21, 3) := by decide +kernel
theorem dX6_init_36 : decode cX6_init 36 = .ok (.aload_n 0, 1) := by decide +kernel
theorem dX6_init_37 : decode cX6_init 37 = .ok (.iconst 0, 1) := by decide +kernel
theorem dX6_init_38 : decode cX6_init 38 = .ok (.putfield 24, 3) := by decide +kernel
theorem dX6_init_41 : decode cX6_init 41 = .ok (.aload_n 0, 1) := by decide +kernel
theorem dX6_init_42 : decode cX6_init 42 = .ok (.lconst 0, 1) := by decide +kernel
theorem dX6_init_43 : decode cX6_init 43 = .ok (.putfield 28, 3) := by decide +kernel
theorem dX6_init_46 : decode cX6_init 46 = .ok (.aload_n 0, 1) := by decide +kernel
theorem dX6_init_47 : decode cX6_init 47 = .ok (.iconst 0, 1) := by decide +kernel
theorem dX6_init_48 : decode cX6_init 48 = .ok (.putfield 32, 3) := by decide +kernel
theorem dX6_init_51 : decode cX6_init 51 = .ok (.return_, 1) := by decide +kernel
theorem dX3_init_0 : decode cX3_init 0 = .ok (.aload_n 0, 1) := by decide +kernel
theorem dX3_init_1 : decode cX3_init 1 = .ok (.invokespecial 3, 3) := by decide +kernel
theorem dX3_init_4 : decode cX3_init 4 = .ok (.aload_n 0, 1) := by decide +kernel
theorem dX3_init_5 : decode cX3_init 5 = .ok (.bipush 65, 2) := by decide +kernel
theorem dX3_init_7 : decode cX3_init 7 = .ok (.newarray .long, 2) := by decide +kernel
theorem dX3_init_9 : decode cX3_init 9 = .ok (.putfield 9, 3) := by decide +kernel
theorem dX3_init_12 : decode cX3_init 12 = .ok (.aload_n 0, 1) := by decide +kernel
theorem dX3_init_13 : decode cX3_init 13 = .ok (.iconst 0, 1) := by decide +kernel
theorem dX3_init_14 : decode cX3_init 14 = .ok (.putfield 15, 3) := by decide +kernel
theorem dX3_init_17 : decode cX3_init 17 = .ok (.aload_n 0, 1) := by decide +kernel
theorem dX3_init_18 : decode cX3_init 18 = .ok (.iconst 0, 1) := by decide +kernel
theorem dX3_init_19 : decode cX3_init 19 = .ok (.putfield 19, 3) := by decide +kernel
theorem dX3_init_22 : decode cX3_init 22 = .ok (.return_, 1) := by decide +kernel
theorem dX5_init_0 : decode cX5_init 0 = .ok (.aload_n 0, 1) := by decide +kernel
theorem dX5_init_1 : decode cX5_init 1 = .ok (.invokespecial 3, 3) := by decide +kernel
theorem dX5_init_4 : decode cX5_init 4 = .ok (.aload_n 0, 1) := by decide +kernel
theorem dX5_init_5 : decode cX5_init 5 = .ok (.bipush 8, 2) := by decide +kernel
theorem dX5_init_7 : decode cX5_init 7 = .ok (.newarray .int, 2) := by decide +kernel
theorem dX5_init_9 : decode cX5_init 9 = .ok (.putfield 9, 3) := by decide +kernel
theorem dX5_init_12 : decode cX5_init 12 = .ok (.aload_n 0, 1) := by decide +kernel
theorem dX5_init_13 : decode cX5_init 13 = .ok (.bipush 8, 2) := by decide +kernel
theorem dX5_init_15 : decode cX5_init 15 = .ok (.newarray .int, 2) := by decide +kernel
theorem dX5_init_17 : decode cX5_init 17 = .ok (.putfield 15, 3) := by decide +kernel
theorem dX5_init_20 : decode cX5_init 20 = .ok (.aload_n 0, 1) := by decide +kernel
theorem dX5_init_21 : decode cX5_init 21 = .ok (.bipush 8, 2) := by decide +kernel
theorem dX5_init_23 : decode cX5_init 23 = .ok (.newarray .int, 2) := by decide +kernel
theorem dX5_init_25 : decode cX5_init 25 = .ok (.putfield 18, 3) := by decide +kernel
theorem dX5_init_28 : decode cX5_init 28 = .ok (.aload_n 0, 1) := by decide +kernel
theorem dX5_init_29 : decode cX5_init 29 = .ok (.bipush 8, 2) := by decide +kernel
theorem dX5_init_31 : decode cX5_init 31 = .ok (.newarray .int, 2) := by decide +kernel
theorem dX5_init_33 : decode cX5_init 33 = .ok (.putfield 21, 3) := by decide +kernel
theorem dX5_init_36 : decode cX5_init 36 = .ok (.aload_n 0, 1) := by decide +kernel
theorem dX5_init_37 : decode cX5_init 37 = .ok (.iconst 4, 1) := by decide +kernel
theorem dX5_init_38 : decode cX5_init 38 = .ok (.newarray .int, 2) := by decide +kernel
theorem dX5_init_40 : decode cX5_init 40 = .ok (.putfield 24, 3) := by decide +kernel
theorem dX5_init_43 : decode cX5_init 43 = .ok (.aload_n 0, 1) := by decide +kernel
theorem dX5_init_44 : decode cX5_init 44 = .ok (.iconst 0, 1) := by decide +kernel
theorem dX5_init_45 : decode cX5_init 45 = .ok (.putfield 27, 3) := by decide +kernel
theorem dX5_init_48 : decode cX5_init 48 = .ok (.aload_n 0, 1) := by decide +kernel
theorem dX5_init_49 : decode cX5_init 49 = .ok (.lconst 0, 1) := by decide +kernel
theorem dX5_init_50 : decode cX5_init 50 = .ok (.putfield 31, 3) := by decide +kernel
theorem dX5_init_53 : decode cX5_init 53 = .ok (.aload_n 0, 1) := by decide +kernel
theorem dX5_init_54 : decode cX5_init 54 = .ok (.iconst 0, 1) := by decide +kernel
theorem dX5_init_55 : decode cX5_init 55 = .ok (.putfield 35, 3) := by decide +kernel
theorem dX5_init_58 : decode cX5_init 58 = .ok (.return_, 1) := by decide +kernel
theorem dX4_init_0 : decode cX4_init 0 = .ok (.aload_n 0, 1) := by decide +kernel
theorem dX4_init_1 : decode cX4_init 1 = .ok (.invokespecial 3, 3) := by decide +kernel
theorem dX4_init_4 : decode cX4_init 4 = .ok (.aload_n 0, 1) := by decide +kernel
theorem dX4_init_5 : decode cX4_init 5 = .ok (.bipush 12, 2) := by decide +kernel
theorem dX4_init_7 : decode cX4_init 7 = .ok (.newarray .int, 2) := by decide +kernel
theorem dX4_init_9 : decode cX4_init 9 = .ok (.putfield 11, 3) := by decide +kernel
theorem dX4_init_12 : decode cX4_init 12 = .ok (.aload_n 0, 1) := by decide +kernel
theorem dX4_init_13 : decode cX4_init 13 = .ok (.bipush 12, 2) := by decide +kernel
theorem dX4_init_15 : decode cX4_init 15 = .ok (.newarray .int, 2) := by decide +kernel
theorem dX4_init_17 : decode cX4_init 17 = .ok (.putfield 15, 3) := by decide +kernel
theorem dX4_init_20 : decode cX4_init 20 = .ok (.aload_n 0, 1) := by decide +kernel
theorem dX4_init_21 : decode cX4_init 21 = .ok (.bipush 12, 2) := by decide +kernel
theorem dX4_init_23 : decode cX4_init 23 = .ok (.newarray .int, 2) := by decide +kernel
theorem dX4_init_25 : decode cX4_init 25 = .ok (.putfield 18, 3) := by decide +kernel
theorem dX4_init_28 : decode cX4_init 28 = .ok (.aload_n 0, 1) := by decide +kernel
theorem dX4_init_29 : decode cX4_init 29 = .ok (.bipush 8, 2) := by decide +kernel
theorem dX4_init_31 : decode cX4_init 31 = .ok (.newarray .int, 2) := by decide +kernel
theorem dX4_init_33 : decode cX4_init 33 = .ok (.putfield 21, 3) := by decide +kernel
theorem dX4_init_36 : decode cX4_init 36 = .ok (.aload_n 0, 1) := by decide +kernel
theorem dX4_init_37 : decode cX4_init 37 = .ok (.bipush 8, 2) := by decide +kernel
theorem dX4_init_39 : decode cX4_init 39 = .ok (.newarray .int, 2) := by decide +kernel
theorem dX4_init_41 : decode cX4_init 41 = .ok (.putfield 24, 3) := by decide +kernel
theorem dX4_init_44 : decode cX4_init 44 = .ok (.aload_n 0, 1) := by decide +kernel
theorem dX4_init_45 : decode cX4_init 45 = .ok (.iconst 0, 1) := by decide +kernel
theorem dX4_init_46 : decode cX4_init 46 = .ok (.putfield 27, 3) := by decide +kernel
theorem dX4_init_49 : decode cX4_init 49 = .ok (.aload_n 0, 1) := by decide +kernel
theorem dX4_init_50 : decode cX4_init 50 = .ok (.iconst 0, 1) := by decide +kernel
theorem dX4_init_51 : decode cX4_init 51 = .ok (.putfield 31, 3) := by decide +kernel
theorem dX4_init_54 : decode cX4_init 54 = .ok (.aload_n 0, 1) := by decide +kernel
theorem dX4_init_55 : decode cX4_init 55 = .ok (.iconst 0, 1) := by decide +kernel
theorem dX4_init_56 : decode cX4_init 56 = .ok (.putfield 34, 3) := by decide +kernel
theorem dX4_init_59 : decode cX4_init 59 = .ok (.aload_n 0, 1) := by decide +kernel
theorem dX4_init_60 : decode cX4_init 60 = .ok (.iconst 0, 1) := by decide +kernel
theorem dX4_init_61 : decode cX4_init 61 = .ok (.putfield 37, 3) := by decide +kernel
theorem dX4_init_64 : decode cX4_init 64 = .ok (.return_, 1) := by decide +kernel
theorem dX8_init_0 : decode cX8_init 0 = .ok (.aload_n 0, 1) := by decide +kernel
theorem dX8_init_1 : decode cX8_init 1 = .ok (.invokespecial 3, 3) := by decide +kernel
theorem dX8_init_4 : decode cX8_init 4 = .ok (.aload_n 0, 1) := by decide +kernel
theorem dX8_init_5 : decode cX8_init 5 = .ok (.bipush 8, 2) := by decide +kernel
theorem dX8_init_7 : decode cX8_init 7 = .ok (.newarray .long, 2) := by decide +kernel
theorem dX8_init_9 : decode cX8_init 9 = .ok (.putfield 11, 3) := by decide +kernel
theorem dX8_init_12 : decode cX8_init 12 = .ok (.aload_n 0, 1) := by decide +kernel
theorem dX8_init_13 : decode cX8_init 13 = .ok (.bipush 32, 2) := by decide +kernel
theorem dX8_init_15 : decode cX8_init 15 = .ok (.newarray .int, 2) := by decide +kernel
theorem dX8_init_17 : decode cX8_init 17 = .ok (.putfield 15, 3) := by decide +kernel
theorem dX8_init_20 : decode cX8_init 20 = .ok (.aload_n 0, 1) := by decide +kernel
theorem dX8_init_21 : decode cX8_init 21 = .ok (.bipush 24, 2) := by decide +kernel
theorem dX8_init_23 : decode cX8_init 23 = .ok (.newarray .int, 2) := by decide +kernel
theorem dX8_init_25 : decode cX8_init 25 = .ok (.putfield 19, 3) := by decide +kernel
theorem dX8_init_28 : decode cX8_init 28 = .ok (.aload_n 0, 1) := by decide +kernel
theorem dX8_init_29 : decode cX8_init 29 = .ok (.bipush 24, 2) := by decide +kernel
theorem dX8_init_31 : decode cX8_init 31 = .ok (.newarray .int, 2) := by decide +kernel
theorem dX8_init_33 : decode cX8_init 33 = .ok (.putfield 22, 3) := by decide +kernel
theorem dX8_init_36 : decode cX8_init 36 = .ok (.aload_n 0, 1) := by decide +kernel
theorem dX8_init_37 : decode cX8_init 37 = .ok (.bipush 24, 2) := by decide +kernel
theorem dX8_init_39 : decode cX8_init 39 = .ok (.newarray .int, 2) := by decide +kernel
theorem dX8_init_41 : decode cX8_init 41 = .ok (.putfield 25, 3) := by decide +kernel
theorem dX8_init_44 : decode cX8_init 44 = .ok (.aload_n 0, 1) := by decide +kernel
theorem dX8_init_45 : decode cX8_init 45 = .ok (.bipush 24, 2) := by decide +kernel
theorem dX8_init_47 : decode cX8_init 47 = .ok (.newarray .int, 2) := by decide +kernel
theorem dX8_init_49 : decode cX8_init 49 = .ok (.putfield 28, 3) := by decide +kernel
theorem dX8_init_52 : decode cX8_init 52 = .ok (.aload_n 0, 1) := by decide +kernel
theorem dX8_init_53 : decode cX8_init 53 = .ok (.sipush 700, 3) := by decide +kernel
theorem dX8_init_56 : decode cX8_init 56 = .ok (.newarray .int, 2) := by decide +kernel
theorem dX8_init_58 : decode cX8_init 58 = .ok (.putfield 33, 3) := by decide +kernel
theorem dX8_init_61 : decode cX8_init 61 = .ok (.aload_n 0, 1) := by decide +kernel
theorem dX8_init_62 : decode cX8_init 62 = .ok (.bipush 8, 2) := by decide +kernel
theorem dX8_init_64 : decode cX8_init 64 = .ok (.newarray .int, 2) := by decide +kernel
theorem dX8_init_66 : decode cX8_init 66 = .ok (.putfield 36, 3) := by decide +kernel
theorem dX8_init_69 : decode cX8_init 69 = .ok (.aload_n 0, 1) := by decide +kernel
theorem dX8_init_70 : decode cX8_init 70 = .ok (.bipush 64, 2) := by decide +kernel
theorem dX8_init_72 : decode cX8_init 72 = .ok (.newarray .int, 2) := by decide +kernel
theorem dX8_init_74 : decode cX8_init 74 = .ok (.putfield 39, 3) := by decide +kernel
theorem dX8_init_77 : decode cX8_init 77 = .ok (.aload_n 0, 1) := by decide +kernel
theorem dX8_init_78 : decode cX8_init 78 = .ok (.iconst 0, 1) := by decide +kernel
theorem dX8_init_79 : decode cX8_init 79 = .ok (.putfield 42, 3) := by decide +kernel
theorem dX8_init_82 : decode cX8_init 82 = .ok (.aload_n 0, 1) := by decide +kernel
theorem dX8_init_83 : decode cX8_init 83 = .ok (.iconst 0, 1) := by decide +kernel
theorem dX8_init_84 : decode cX8_init 84 = .ok (.putfield 46, 3) := by decide +kernel
theorem dX8_init_87 : decode cX8_init 87 = .ok (.aload_n 0, 1) := by decide +kernel
theorem dX8_init_88 : decode cX8_init 88 = .ok (.iconst 0, 1) := by decide +kernel
theorem dX8_init_89 : decode cX8_init 89 = .ok (.putfield 49, 3) := by decide +kernel
theorem dX8_init_92 : decode cX8_init 92 = .ok (.aload_n 0, 1) := by decide +kernel
theorem dX8_init_93 : decode cX8_init 93 = .ok (.iconst 0, 1) := by decide +kernel
theorem dX8_init_94 : decode cX8_init 94 = .ok (.putfield 52, 3) := by decide +kernel
theorem dX8_init_97 : decode cX8_init 97 = .ok (.return_, 1) := by decide +kernel
theorem dX7_init_0 : decode cX7_init 0 = .ok (.aload_n 0, 1) := by decide +kernel
theorem dX7_init_1 : decode cX7_init 1 = .ok (.invokespecial 3, 3) := by decide +kernel
theorem dX7_init_4 : decode cX7_init 4 = .ok (.aload_n 0, 1) := by decide +kernel
theorem dX7_init_5 : decode cX7_init 5 = .ok (.iconst 0, 1) := by decide +kernel
theorem dX7_init_6 : decode cX7_init 6 = .ok (.putfield 9, 3) := by decide +kernel
theorem dX7_init_9 : decode cX7_init 9 = .ok (.aload_n 0, 1) := by decide +kernel
theorem dX7_init_10 : decode cX7_init 10 = .ok (.iconst (-1), 1) := by decide +kernel
theorem dX7_init_11 : decode cX7_init 11 = .ok (.putfield 15, 3) := by decide +kernel
theorem dX7_init_14 : decode cX7_init 14 = .ok (.aload_n 0, 1) := by decide +kernel
theorem dX7_init_15 : decode cX7_init 15 = .ok (.aload_n 1, 1) := by decide +kernel
theorem dX7_init_16 : decode cX7_init 16 = .ok (.putfield 18, 3) := by decide +kernel
theorem dX7_init_19 : decode cX7_init 19 = .ok (.aload_n 0, 1) := by decide +kernel
theorem dX7_init_20 : decode cX7_init 20 = .ok (.aload_n 2, 1) := by decide +kernel
theorem dX7_init_21 : decode cX7_init 21 = .ok (.putfield 22, 3) := by decide +kernel
theorem dX7_init_24 : decode cX7_init 24 = .ok (.return_, 1) := by decide +kernel
theorem dX2_begin_0 : decode cX2_begin 0 = .ok (.aload_n 0, 1) := by decide +kernel
theorem dX2_begin_1 : decode cX2_begin 1 = .ok (.iconst 1, 1) := by decide +kernel
theorem dX2_begin_2 : decode cX2_begin 2 = .ok (.iload_n 1, 1) := by decide +kernel
theorem dX2_begin_3 : decode cX2_begin 3 = .ok (.invokestatic 59, 3) := by decide +kernel
theorem dX2_begin_6 : decode cX2_begin 6 = .ok (.putfield 53, 3) := by decide +kernel
theorem dX2_begin_9 : decode cX2_begin 9 = .ok (.aload_n 0, 1) := by decide +kernel
theorem dX2_begin_10 : decode cX2_begin 10 = .ok (.bipush 64, 2) := by decide +kernel
theorem dX2_begin_12 : decode cX2_begin 12 = .ok (.aload_n 0, 1) := by decide +kernel
theorem dX2_begin_13 : decode cX2_begin 13 = .ok (.getfield 53, 3) := by decide +kernel
theorem dX2_begin_16 : decode cX2_begin 16 = .ok (.iload_n 2, 1) := by decide +kernel
theorem dX2_begin_17 : decode cX2_begin 17 = .ok (.imul, 1) := by decide +kernel
theorem dX2_begin_18 : decode cX2_begin 18 = .ok (.invokestatic 65, 3) := by decide +kernel
theorem dX2_begin_21 : decode cX2_begin 21 = .ok (.putfield 50, 3) := by decide +kernel
theorem dX2_begin_24 : decode cX2_begin 24 = .ok (.aload_n 0, 1) := by decide +kernel
theorem dX2_begin_25 : decode cX2_begin 25 = .ok (.invokevirtual 68, 3) := by decide +kernel
theorem dX2_begin_28 : decode cX2_begin 28 = .ok (.return_, 1) := by decide +kernel
theorem dX2_forget_0 : decode cX2_forget 0 = .ok (.aload_n 0, 1) := by decide +kernel
theorem dX2_forget_1 : decode cX2_forget 1 = .ok (.getfield 9, 3) := by decide +kernel
theorem dX2_forget_4 : decode cX2_forget 4 = .ok (.iconst (-1), 1) := by decide +kernel
theorem dX2_forget_5 : decode cX2_forget 5 = .ok (.invokestatic 71, 3) := by decide +kernel
theorem dX2_forget_8 : decode cX2_forget 8 = .ok (.aload_n 0, 1) := by decide +kernel
theorem dX2_forget_9 : decode cX2_forget 9 = .ok (.getfield 15, 3) := by decide +kernel
theorem dX2_forget_12 : decode cX2_forget 12 = .ok (.iconst 0, 1) := by decide +kernel
theorem dX2_forget_13 : decode cX2_forget 13 = .ok (.invokestatic 71, 3) := by decide +kernel
theorem dX2_forget_16 : decode cX2_forget 16 = .ok (.aload_n 0, 1) := by decide +kernel
theorem dX2_forget_17 : decode cX2_forget 17 = .ok (.getfield 18, 3) := by decide +kernel
theorem dX2_forget_20 : decode cX2_forget 20 = .ok (.iconst 0, 1) := by decide +kernel
theorem dX2_forget_21 : decode cX2_forget 21 = .ok (.invokestatic 71, 3) := by decide +kernel
theorem dX2_forget_24 : decode cX2_forget 24 = .ok (.aload_n 0, 1) := by decide +kernel
theorem dX2_forget_25 : decode cX2_forget 25 = .ok (.getfield 21, 3) := by decide +kernel
theorem dX2_forget_28 : decode cX2_forget 28 = .ok (.iconst 0, 1) := by decide +kernel
theorem dX2_forget_29 : decode cX2_forget 29 = .ok (.invokestatic 71, 3) := by decide +kernel
theorem dX2_forget_32 : decode cX2_forget 32 = .ok (.aload_n 0, 1) := by decide +kernel
theorem dX2_forget_33 : decode cX2_forget 33 = .ok (.getfield 24, 3) := by decide +kernel
theorem dX2_forget_36 : decode cX2_forget 36 = .ok (.iconst 0, 1) := by decide +kernel
theorem dX2_forget_37 : decode cX2_forget 37 = .ok (.invokestatic 71, 3) := by decide +kernel
theorem dX2_forget_40 : decode cX2_forget 40 = .ok (.aload_n 0, 1) := by decide +kernel
theorem dX2_forget_41 : decode cX2_forget 41 = .ok (.iconst 0, 1) := by decide +kernel
theorem dX2_forget_42 : decode cX2_forget 42 = .ok (.putfield 46, 3) := by decide +kernel
theorem dX2_forget_45 : decode cX2_forget 45 = .ok (.aload_n 0, 1) := by decide +kernel
theorem dX2_forget_46 : decode cX2_forget 46 = .ok (.iconst 0, 1) := by decide +kernel
theorem dX2_forget_47 : decode cX2_forget 47 = .ok (.putfield 56, 3) := by decide +kernel
theorem dX2_forget_50 : decode cX2_forget 50 = .ok (.return_, 1) := by decide +kernel
theorem dX11_init_0 : decode cX11_init 0 = .ok (.aload_n 0, 1) := by decide +kernel
theorem dX11_init_1 : decode cX11_init 1 = .ok (.invokespecial 1, 3) := by decide +kernel
theorem dX11_init_4 : decode cX11_init 4 = .ok (.aload_n 0, 1) := by decide +kernel
theorem dX11_init_5 : decode cX11_init 5 = .ok (.sipush 700, 3) := by decide +kernel
theorem dX11_init_8 : decode cX11_init 8 = .ok (.newarray .int, 2) := by decide +kernel
theorem dX11_init_10 : decode cX11_init 10 = .ok (.putfield 7, 3) := by decide +kernel
theorem dX11_init_13 : decode cX11_init 13 = .ok (.aload_n 0, 1) := by decide +kernel
theorem dX11_init_14 : decode cX11_init 14 = .ok (.iconst (-1), 1) := by decide +kernel
theorem dX11_init_15 : decode cX11_init 15 = .ok (.putfield 13, 3) := by decide +kernel
theorem dX11_init_18 : decode cX11_init 18 = .ok (.aload_n 0, 1) := by decide +kernel
theorem dX11_init_19 : decode cX11_init 19 = .ok (.iconst 4, 1) := by decide +kernel
theorem dX11_init_20 : decode cX11_init 20 = .ok (.newarray .char, 2) := by decide +kernel
theorem dX11_init_22 : decode cX11_init 22 = .ok (.dup, 1) := by decide +kernel
theorem dX11_init_23 : decode cX11_init 23 = .ok (.iconst 0, 1) := by decide +kernel
theorem dX11_init_24 : decode cX11_init 24 = .ok (.bipush 107, 2) := by decide +kernel
theorem dX11_init_26 : decode cX11_init 26 = .ok (.castore, 1) := by decide +kernel
theorem dX11_init_27 : decode cX11_init 27 = .ok (.dup, 1) := by decide +kernel
theorem dX11_init_28 : decode cX11_init 28 = .ok (.iconst 1, 1) := by decide +kernel
theorem dX11_init_29 : decode cX11_init 29 = .ok (.bipush 105, 2) := by decide +kernel
theorem dX11_init_31 : decode cX11_init 31 = .ok (.castore, 1) := by decide +kernel
theorem dX11_init_32 : decode cX11_init 32 = .ok (.dup, 1) := by decide +kernel
theorem dX11_init_33 : decode cX11_init 33 = .ok (.iconst 2, 1) := by decide +kernel
theorem dX11_init_34 : decode cX11_init 34 = .ok (.bipush 110, 2) := by decide +kernel
theorem dX11_init_36 : decode cX11_init 36 = .ok (.castore, 1) := by decide +kernel
theorem dX11_init_37 : decode cX11_init 37 = .ok (.dup, 1) := by decide +kernel
theorem dX11_init_38 : decode cX11_init 38 = .ok (.iconst 3, 1) := by decide +kernel
theorem dX11_init_39 : decode cX11_init 39 = .ok (.bipush 100, 2) := by decide +kernel
theorem dX11_init_41 : decode cX11_init 41 = .ok (.castore, 1) := by decide +kernel
theorem dX11_init_42 : decode cX11_init 42 = .ok (.putfield 17, 3) := by decide +kernel
theorem dX11_init_45 : decode cX11_init 45 = .ok (.aload_n 0, 1) := by decide +kernel
theorem dX11_init_46 : decode cX11_init 46 = .ok (.iconst 5, 1) := by decide +kernel
theorem dX11_init_47 : decode cX11_init 47 = .ok (.newarray .char, 2) := by decide +kernel
theorem dX11_init_49 : decode cX11_init 49 = .ok (.dup, 1) := by decide +kernel
theorem dX11_init_50 : decode cX11_init 50 = .ok (.iconst 0, 1) := by decide +kernel
theorem dX11_init_51 : decode cX11_init 51 = .ok (.bipush 115, 2) := by decide +kernel
theorem dX11_init_53 : decode cX11_init 53 = .ok (.castore, 1) := by decide +kernel
theorem dX11_init_54 : decode cX11_init 54 = .ok (.dup, 1) := by decide +kernel
theorem dX11_init_55 : decode cX11_init 55 = .ok (.iconst 1, 1) := by decide +kernel
theorem dX11_init_56 : decode cX11_init 56 = .ok (.bipush 116, 2) := by decide +kernel
theorem dX11_init_58 : decode cX11_init 58 = .ok (.castore, 1) := by decide +kernel
theorem dX11_init_59 : decode cX11_init 59 = .ok (.dup, 1) := by decide +kernel
theorem dX11_init_60 : decode cX11_init 60 = .ok (.iconst 2, 1) := by decide +kernel
theorem dX11_init_61 : decode cX11_init 61 = .ok (.bipush 105, 2) := by decide +kernel
theorem dX11_init_63 : decode cX11_init 63 = .ok (.castore, 1) := by decide +kernel
theorem dX11_init_64 : decode cX11_init 64 = .ok (.dup, 1) := by decide +kernel
theorem dX11_init_65 : decode cX11_init 65 = .ok (.iconst 3, 1) := by decide +kernel
theorem dX11_init_66 : decode cX11_init 66 = .ok (.bipush 102, 2) := by decide +kernel
theorem dX11_init_68 : decode cX11_init 68 = .ok (.castore, 1) := by decide +kernel
theorem dX11_init_69 : decode cX11_init 69 = .ok (.dup, 1) := by decide +kernel
theorem dX11_init_70 : decode cX11_init 70 = .ok (.iconst 4, 1) := by decide +kernel
theorem dX11_init_71 : decode cX11_init 71 = .ok (.bipush 102, 2) := by decide +kernel
theorem dX11_init_73 : decode cX11_init 73 = .ok (.castore, 1) := by decide +kernel
theorem dX11_init_74 : decode cX11_init 74 = .ok (.putfield 21, 3) := by decide +kernel
theorem dX11_init_77 : decode cX11_init 77 = .ok (.aload_n 0, 1) := by decide +kernel
theorem dX11_init_78 : decode cX11_init 78 = .ok (.iconst 5, 1) := by decide +kernel
theorem dX11_init_79 : decode cX11_init 79 = .ok (.newarray .char, 2) := by decide +kernel
theorem dX11_init_81 : decode cX11_init 81 = .ok (.dup, 1) := by decide +kernel
theorem dX11_init_82 : decode cX11_init 82 = .ok (.iconst 0, 1) := by decide +kernel
theorem dX11_init_83 : decode cX11_init 83 = .ok (.bipush 111, 2) := by decide +kernel
theorem dX11_init_85 : decode cX11_init 85 = .ok (.castore, 1) := by decide +kernel
theorem dX11_init_86 : decode cX11_init 86 = .ok (.dup, 1) := by decide +kernel
theorem dX11_init_87 : decode cX11_init 87 = .ok (.iconst 1, 1) := by decide +kernel
theorem dX11_init_88 : decode cX11_init 88 = .ok (.bipush 112, 2) := by decide +kernel
theorem dX11_init_90 : decode cX11_init 90 = .ok (.castore, 1) := by decide +kernel
theorem dX11_init_91 : decode cX11_init 91 = .ok (.dup, 1) := by decide +kernel
theorem dX11_init_92 : decode cX11_init 92 = .ok (.iconst 2, 1) := by decide +kernel
theorem dX11_init_93 : decode cX11_init 93 = .ok (.bipush 101, 2) := by decide +kernel
theorem dX11_init_95 : decode cX11_init 95 = .ok (.castore, 1) := by decide +kernel
theorem dX11_init_96 : decode cX11_init 96 = .ok (.dup, 1) := by decide +kernel
theorem dX11_init_97 : decode cX11_init 97 = .ok (.iconst 3, 1) := by decide +kernel
theorem dX11_init_98 : decode cX11_init 98 = .ok (.bipush 110, 2) := by decide +kernel
theorem dX11_init_100 : decode cX11_init 100 = .ok (.castore, 1) := by decide +kernel
theorem dX11_init_101 : decode cX11_init 101 = .ok (.dup, 1) := by decide +kernel
theorem dX11_init_102 : decode cX11_init 102 = .ok (.iconst 4, 1) := by decide +kernel
theorem dX11_init_103 : decode cX11_init 103 = .ok (.bipush 115, 2) := by decide +kernel
theorem dX11_init_105 : decode cX11_init 105 = .ok (.castore, 1) := by decide +kernel
theorem dX11_init_106 : decode cX11_init 106 = .ok (.putfield 24, 3) := by decide +kernel
theorem dX11_init_109 : decode cX11_init 109 = .ok (.aload_n 0, 1) := by decide +kernel
theorem dX11_init_110 : decode cX11_init 110 = .ok (.iconst 5, 1) := by decide +kernel
theorem dX11_init_111 : decode cX11_init 111 = .ok (.newarray .char, 2) := by decide +kernel
theorem dX11_init_113 : decode cX11_init 113 = .ok (.dup, 1) := by decide +kernel
theorem dX11_init_114 : decode cX11_init 114 = .ok (.iconst 0, 1) := by decide +kernel
theorem dX11_init_115 : decode cX11_init 115 = .ok (.bipush 116, 2) := by decide +kernel
theorem dX11_init_117 : decode cX11_init 117 = .ok (.castore, 1) := by decide +kernel
theorem dX11_init_118 : decode cX11_init 118 = .ok (.dup, 1) := by decide +kernel
theorem dX11_init_119 : decode cX11_init 119 = .ok (.iconst 1, 1) := by decide +kernel
theorem dX11_init_120 : decode cX11_init 120 = .ok (.bipush 105, 2) := by decide +kernel
theorem dX11_init_122 : decode cX11_init 122 = .ok (.castore, 1) := by decide +kernel
theorem dX11_init_123 : decode cX11_init 123 = .ok (.dup, 1) := by decide +kernel
theorem dX11_init_124 : decode cX11_init 124 = .ok (.iconst 2, 1) := by decide +kernel
theorem dX11_init_125 : decode cX11_init 125 = .ok (.bipush 114, 2) := by decide +kernel
theorem dX11_init_127 : decode cX11_init 127 = .ok (.castore, 1) := by decide +kernel
theorem dX11_init_128 : decode cX11_init 128 = .ok (.dup, 1) := by decide +kernel
theorem dX11_init_129 : decode cX11_init 129 = .ok (.iconst 3, 1) := by decide +kernel
theorem dX11_init_130 : decode cX11_init 130 = .ok (.bipush 101, 2) := by decide +kernel
theorem dX11_init_132 : decode cX11_init 132 = .ok (.castore, 1) := by decide +kernel
theorem dX11_init_133 : decode cX11_init 133 = .ok (.dup, 1) := by decide +kernel
theorem dX11_init_134 : decode cX11_init 134 = .ok (.iconst 4, 1) := by decide +kernel
theorem dX11_init_135 : decode cX11_init 135 = .ok (.bipush 115, 2) := by decide +kernel
theorem dX11_init_137 : decode cX11_init 137 = .ok (.castore, 1) := by decide +kernel
theorem dX11_init_138 : decode cX11_init 138 = .ok (.putfield 27, 3) := by decide +kernel
theorem dX11_init_141 : decode cX11_init 141 = .ok (.aload_n 0, 1) := by decide +kernel
theorem dX11_init_142 : decode cX11_init 142 = .ok (.iconst 5, 1) := by decide +kernel
theorem dX11_init_143 : decode cX11_init 143 = .ok (.newarray .char, 2) := by decide +kernel
theorem dX11_init_145 : decode cX11_init 145 = .ok (.dup, 1) := by decide +kernel
theorem dX11_init_146 : decode cX11_init 146 = .ok (.iconst 0, 1) := by decide +kernel
theorem dX11_init_147 : decode cX11_init 147 = .ok (.bipush 116, 2) := by decide +kernel
theorem dX11_init_149 : decode cX11_init 149 = .ok (.castore, 1) := by decide +kernel
theorem dX11_init_150 : decode cX11_init 150 = .ok (.dup, 1) := by decide +kernel
theorem dX11_init_151 : decode cX11_init 151 = .ok (.iconst 1, 1) := by decide +kernel
theorem dX11_init_152 : decode cX11_init 152 = .ok (.bipush 101, 2) := by decide +kernel
theorem dX11_init_154 : decode cX11_init 154 = .ok (.castore, 1) := by decide +kernel
theorem dX11_init_155 : decode cX11_init 155 = .ok (.dup, 1) := by decide +kernel
theorem dX11_init_156 : decode cX11_init 156 = .ok (.iconst 2, 1) := by decide +kernel
theorem dX11_init_157 : decode cX11_init 157 = .ok (.bipush 97, 2) := by decide +kernel
theorem dX11_init_159 : decode cX11_init 159 = .ok (.castore, 1) := by decide +kernel
theorem dX11_init_160 : decode cX11_init 160 = .ok (.dup, 1) := by decide +kernel
theorem dX11_init_161 : decode cX11_init 161 = .ok (.iconst 3, 1) := by decide +kernel
theorem dX11_init_162 : decode cX11_init 162 = .ok (.bipush 114, 2) := by decide +kernel
theorem dX11_init_164 : decode cX11_init 164 = .ok (.castore, 1) := by decide +kernel
theorem dX11_init_165 : decode cX11_init 165 = .ok (.dup, 1) := by decide +kernel
theorem dX11_init_166 : decode cX11_init 166 = .ok (.iconst 4, 1) := by decide +kernel
theorem dX11_init_167 : decode cX11_init 167 = .ok (.bipush 115, 2) := by decide +kernel
theorem dX11_init_169 : decode cX11_init 169 = .ok (.castore, 1) := by decide +kernel
theorem dX11_init_170 : decode cX11_init 170 = .ok (.putfield 30, 3) := by decide +kernel
theorem dX11_init_173 : decode cX11_init 173 = .ok (.aload_n 0, 1) := by decide +kernel
theorem dX11_init_174 : decode cX11_init 174 = .ok (.iconst 5, 1) := by decide +kernel
theorem dX11_init_175 : decode cX11_init 175 = .ok (.newarray .char, 2) := by decide +kernel
theorem dX11_init_177 : decode cX11_init 177 = .ok (.dup, 1) := by decide +kernel
theorem dX11_init_178 : decode cX11_init 178 = .ok (.iconst 0, 1) := by decide +kernel
theorem dX11_init_179 : decode cX11_init 179 = .ok (.bipush 99, 2) := by decide +kernel
theorem dX11_init_181 : decode cX11_init 181 = .ok (.castore, 1) := by decide +kernel
theorem dX11_init_182 : decode cX11_init 182 = .ok (.dup, 1) := by decide +kernel
theorem dX11_init_183 : decode cX11_init 183 = .ok (.iconst 1, 1) := by decide +kernel
theorem dX11_init_184 : decode cX11_init 184 = .ok (.bipush 97, 2) := by decide +kernel
theorem dX11_init_186 : decode cX11_init 186 = .ok (.castore, 1) := by decide +kernel
theorem dX11_init_187 : decode cX11_init 187 = .ok (.dup, 1) := by decide +kernel
theorem dX11_init_188 : decode cX11_init 188 = .ok (.iconst 2, 1) := by decide +kernel
theorem dX11_init_189 : decode cX11_init 189 = .ok (.bipush 116, 2) := by decide +kernel
theorem dX11_init_191 : decode cX11_init 191 = .ok (.castore, 1) := by decide +kernel
theorem dX11_init_192 : decode cX11_init 192 = .ok (.dup, 1) := by decide +kernel
theorem dX11_init_193 : decode cX11_init 193 = .ok (.iconst 3, 1) := by decide +kernel
theorem dX11_init_194 : decode cX11_init 194 = .ok (.bipush 99, 2) := by decide +kernel
theorem dX11_init_196 : decode cX11_init 196 = .ok (.castore, 1) := by decide +kernel
theorem dX11_init_197 : decode cX11_init 197 = .ok (.dup, 1) := by decide +kernel
theorem dX11_init_198 : decode cX11_init 198 = .ok (.iconst 4, 1) := by decide +kernel
theorem dX11_init_199 : decode cX11_init 199 = .ok (.bipush 104, 2) := by decide +kernel
theorem dX11_init_201 : decode cX11_init 201 = .ok (.castore, 1) := by decide +kernel
theorem dX11_init_202 : decode cX11_init 202 = .ok (.putfield 33, 3) := by decide +kernel
theorem dX11_init_205 : decode cX11_init 205 = .ok (.aload_n 0, 1) := by decide +kernel
theorem dX11_init_206 : decode cX11_init 206 = .ok (.iconst 4, 1) := by decide +kernel
theorem dX11_init_207 : decode cX11_init 207 = .ok (.newarray .char, 2) := by decide +kernel
theorem dX11_init_209 : decode cX11_init 209 = .ok (.dup, 1) := by decide +kernel
theorem dX11_init_210 : decode cX11_init 210 = .ok (.iconst 0, 1) := by decide +kernel
theorem dX11_init_211 : decode cX11_init 211 = .ok (.bipush 119, 2) := by decide +kernel
theorem dX11_init_213 : decode cX11_init 213 = .ok (.castore, 1) := by decide +kernel
theorem dX11_init_214 : decode cX11_init 214 = .ok (.dup, 1) := by decide +kernel
theorem dX11_init_215 : decode cX11_init 215 = .ok (.iconst 1, 1) := by decide +kernel
theorem dX11_init_216 : decode cX11_init 216 = .ok (.bipush 104, 2) := by decide +kernel
theorem dX11_init_218 : decode cX11_init 218 = .ok (.castore, 1) := by decide +kernel
theorem dX11_init_219 : decode cX11_init 219 = .ok (.dup, 1) := by decide +kernel
theorem dX11_init_220 : decode cX11_init 220 = .ok (.iconst 2, 1) := by decide +kernel
theorem dX11_init_221 : decode cX11_init 221 = .ok (.bipush 101, 2) := by decide +kernel
theorem dX11_init_223 : decode cX11_init 223 = .ok (.castore, 1) := by decide +kernel
theorem dX11_init_224 : decode cX11_init 224 = .ok (.dup, 1) := by decide +kernel
theorem dX11_init_225 : decode cX11_init 225 = .ok (.iconst 3, 1) := by decide +kernel
theorem dX11_init_226 : decode cX11_init 226 = .ok (.bipush 110, 2) := by decide +kernel
theorem dX11_init_228 : decode cX11_init 228 = .ok (.castore, 1) := by decide +kernel
theorem dX11_init_229 : decode cX11_init 229 = .ok (.putfield 36, 3) := by decide +kernel
theorem dX11_init_232 : decode cX11_init 232 = .ok (.aload_n 0, 1) := by decide +kernel
theorem dX11_init_233 : decode cX11_init 233 = .ok (.iconst 4, 1) := by decide +kernel
theorem dX11_init_234 : decode cX11_init 234 = .ok (.newarray .char, 2) := by decide +kernel
theorem dX11_init_236 : decode cX11_init 236 = .ok (.dup, 1) := by decide +kernel
theorem dX11_init_237 : decode cX11_init 237 = .ok (.iconst 0, 1) := by decide +kernel
theorem dX11_init_238 : decode cX11_init 238 = .ok (.bipush 108, 2) := by decide +kernel
theorem dX11_init_240 : decode cX11_init 240 = .ok (.castore, 1) := by decide +kernel
theorem dX11_init_241 : decode cX11_init 241 = .ok (.dup, 1) := by decide +kernel
theorem dX11_init_242 : decode cX11_init 242 = .ok (.iconst 1, 1) := by decide +kernel
theorem dX11_init_243 : decode cX11_init 243 = .ok (.bipush 105, 2) := by decide +kernel
theorem dX11_init_245 : decode cX11_init 245 = .ok (.castore, 1) := by decide +kernel
theorem dX11_init_246 : decode cX11_init 246 = .ok (.dup, 1) := by decide +kernel
theorem dX11_init_247 : decode cX11_init 247 = .ok (.iconst 2, 1) := by decide +kernel
theorem dX11_init_248 : decode cX11_init 248 = .ok (.bipush 110, 2) := by decide +kernel
theorem dX11_init_250 : decode cX11_init 250 = .ok (.castore, 1) := by decide +kernel
theorem dX11_init_251 : decode cX11_init 251 = .ok (.dup, 1) := by decide +kernel
theorem dX11_init_252 : decode cX11_init 252 = .ok (.iconst 3, 1) := by decide +kernel
theorem dX11_init_253 : decode cX11_init 253 = .ok (.bipush 116, 2) := by decide +kernel
theorem dX11_init_255 : decode cX11_init 255 = .ok (.castore, 1) := by decide +kernel
theorem dX11_init_256 : decode cX11_init 256 = .ok (.putfield 39, 3) := by decide +kernel
theorem dX11_init_259 : decode cX11_init 259 = .ok (.aload_n 0, 1) := by decide +kernel
theorem dX11_init_260 : decode cX11_init 260 = .ok (.iconst 2, 1) := by decide +kernel
theorem dX11_init_261 : decode cX11_init 261 = .ok (.newarray .char, 2) := by decide +kernel
theorem dX11_init_263 : decode cX11_init 263 = .ok (.dup, 1) := by decide +kernel
theorem dX11_init_264 : decode cX11_init 264 = .ok (.iconst 0, 1) := by decide +kernel
theorem dX11_init_265 : decode cX11_init 265 = .ok (.bipush 111, 2) := by decide +kernel
theorem dX11_init_267 : decode cX11_init 267 = .ok (.castore, 1) := by decide +kernel
theorem dX11_init_268 : decode cX11_init 268 = .ok (.dup, 1) := by decide +kernel
theorem dX11_init_269 : decode cX11_init 269 = .ok (.iconst 1, 1) := by decide +kernel
theorem dX11_init_270 : decode cX11_init 270 = .ok (.bipush 114, 2) := by decide +kernel
theorem dX11_init_272 : decode cX11_init 272 = .ok (.castore, 1) := by decide +kernel
theorem dX11_init_273 : decode cX11_init 273 = .ok (.putfield 42, 3) := by decide +kernel
theorem dX11_init_276 : decode cX11_init 276 = .ok (.aload_n 0, 1) := by decide +kernel
theorem dX11_init_277 : decode cX11_init 277 = .ok (.iconst 3, 1) := by decide +kernel
theorem dX11_init_278 : decode cX11_init 278 = .ok (.newarray .char, 2) := by decide +kernel
theorem dX11_init_280 : decode cX11_init 280 = .ok (.dup, 1) := by decide +kernel
theorem dX11_init_281 : decode cX11_init 281 = .ok (.iconst 0, 1) := by decide +kernel
theorem dX11_init_282 : decode cX11_init 282 = .ok (.bipush 97, 2) := by decide +kernel
theorem dX11_init_284 : decode cX11_init 284 = .ok (.castore, 1) := by decide +kernel
theorem dX11_init_285 : decode cX11_init 285 = .ok (.dup, 1) := by decide +kernel
theorem dX11_init_286 : decode cX11_init 286 = .ok (.iconst 1, 1) := by decide +kernel
theorem dX11_init_287 : decode cX11_init 287 = .ok (.bipush 110, 2) := by decide +kernel
theorem dX11_init_289 : decode cX11_init 289 = .ok (.castore, 1) := by decide +kernel
theorem dX11_init_290 : decode cX11_init 290 = .ok (.dup, 1) := by decide +kernel
theorem dX11_init_291 : decode cX11_init 291 = .ok (.iconst 2, 1) := by decide +kernel
theorem dX11_init_292 : decode cX11_init 292 = .ok (.bipush 100, 2) := by decide +kernel
theorem dX11_init_294 : decode cX11_init 294 = .ok (.castore, 1) := by decide +kernel
theorem dX11_init_295 : decode cX11_init 295 = .ok (.putfield 45, 3) := by decide +kernel
theorem dX11_init_298 : decode cX11_init 298 = .ok (.aload_n 0, 1) := by decide +kernel
theorem dX11_init_299 : decode cX11_init 299 = .ok (.iconst 3, 1) := by decide +kernel
theorem dX11_init_300 : decode cX11_init 300 = .ok (.newarray .char, 2) := by decide +kernel
theorem dX11_init_302 : decode cX11_init 302 = .ok (.dup, 1) := by decide +kernel
theorem dX11_init_303 : decode cX11_init 303 = .ok (.iconst 0, 1) := by decide +kernel
theorem dX11_init_304 : decode cX11_init 304 = .ok (.bipush 110, 2) := by decide +kernel
theorem dX11_init_306 : decode cX11_init 306 = .ok (.castore, 1) := by decide +kernel
theorem dX11_init_307 : decode cX11_init 307 = .ok (.dup, 1) := by decide +kernel
theorem dX11_init_308 : decode cX11_init 308 = .ok (.iconst 1, 1) := by decide +kernel
theorem dX11_init_309 : decode cX11_init 309 = .ok (.bipush 111, 2) := by decide +kernel
theorem dX11_init_311 : decode cX11_init 311 = .ok (.castore, 1) := by decide +kernel
theorem dX11_init_312 : decode cX11_init 312 = .ok (.dup, 1) := by decide +kernel
theorem dX11_init_313 : decode cX11_init 313 = .ok (.iconst 2, 1) := by decide +kernel
theorem dX11_init_314 : decode cX11_init 314 = .ok (.bipush 116, 2) := by decide +kernel
theorem dX11_init_316 : decode cX11_init 316 = .ok (.castore, 1) := by decide +kernel
theorem dX11_init_317 : decode cX11_init 317 = .ok (.putfield 48, 3) := by decide +kernel
theorem dX11_init_320 : decode cX11_init 320 = .ok (.aload_n 0, 1) := by decide +kernel
theorem dX11_init_321 : decode cX11_init 321 = .ok (.iconst 3, 1) := by decide +kernel
theorem dX11_init_322 : decode cX11_init 322 = .ok (.newarray .char, 2) := by decide +kernel
theorem dX11_init_324 : decode cX11_init 324 = .ok (.dup, 1) := by decide +kernel
theorem dX11_init_325 : decode cX11_init 325 = .ok (.iconst 0, 1) := by decide +kernel
theorem dX11_init_326 : decode cX11_init 326 = .ok (.bipush 97, 2) := by decide +kernel
theorem dX11_init_328 : decode cX11_init 328 = .ok (.castore, 1) := by decide +kernel
theorem dX11_init_329 : decode cX11_init 329 = .ok (.dup, 1) := by decide +kernel
theorem dX11_init_330 : decode cX11_init 330 = .ok (.iconst 1, 1) := by decide +kernel
theorem dX11_init_331 : decode cX11_init 331 = .ok (.bipush 108, 2) := by decide +kernel
theorem dX11_init_333 : decode cX11_init 333 = .ok (.castore, 1) := by decide +kernel
theorem dX11_init_334 : decode cX11_init 334 = .ok (.dup, 1) := by decide +kernel
theorem dX11_init_335 : decode cX11_init 335 = .ok (.iconst 2, 1) := by decide +kernel
theorem dX11_init_336 : decode cX11_init 336 = .ok (.bipush 108, 2) := by decide +kernel
theorem dX11_init_338 : decode cX11_init 338 = .ok (.castore, 1) := by decide +kernel
theorem dX11_init_339 : decode cX11_init 339 = .ok (.putfield 51, 3) := by decide +kernel
theorem dX11_init_342 : decode cX11_init 342 = .ok (.aload_n 0, 1) := by decide +kernel
theorem dX11_init_343 : decode cX11_init 343 = .ok (.iconst 2, 1) := by decide +kernel
theorem dX11_init_344 : decode cX11_init 344 = .ok (.newarray .char, 2) := by decide +kernel
theorem dX11_init_346 : decode cX11_init 346 = .ok (.dup, 1) := by decide +kernel
theorem dX11_init_347 : decode cX11_init 347 = .ok (.iconst 0, 1) := by decide +kernel
theorem dX11_init_348 : decode cX11_init 348 = .ok (.bipush 105, 2) := by decide +kernel
theorem dX11_init_350 : decode cX11_init 350 = .ok (.castore, 1) := by decide +kernel
theorem dX11_init_351 : decode cX11_init 351 = .ok (.dup, 1) := by decide +kernel
theorem dX11_init_352 : decode cX11_init 352 = .ok (.iconst 1, 1) := by decide +kernel
theorem dX11_init_353 : decode cX11_init 353 = .ok (.bipush 115, 2) := by decide +kernel
theorem dX11_init_355 : decode cX11_init 355 = .ok (.castore, 1) := by decide +kernel
theorem dX11_init_356 : decode cX11_init 356 = .ok (.putfield 54, 3) := by decide +kernel
theorem dX11_init_359 : decode cX11_init 359 = .ok (.aload_n 0, 1) := by decide +kernel
theorem dX11_init_360 : decode cX11_init 360 = .ok (.iconst 5, 1) := by decide +kernel
theorem dX11_init_361 : decode cX11_init 361 = .ok (.newarray .char, 2) := by decide +kernel
theorem dX11_init_363 : decode cX11_init 363 = .ok (.dup, 1) := by decide +kernel
theorem dX11_init_364 : decode cX11_init 364 = .ok (.iconst 0, 1) := by decide +kernel
theorem dX11_init_365 : decode cX11_init 365 = .ok (.bipush 112, 2) := by decide +kernel
theorem dX11_init_367 : decode cX11_init 367 = .ok (.castore, 1) := by decide +kernel
theorem dX11_init_368 : decode cX11_init 368 = .ok (.dup, 1) := by decide +kernel
theorem dX11_init_369 : decode cX11_init 369 = .ok (.iconst 1, 1) := by decide +kernel
theorem dX11_init_370 : decode cX11_init 370 = .ok (.bipush 114, 2) := by decide +kernel
theorem dX11_init_372 : decode cX11_init 372 = .ok (.castore, 1) := by decide +kernel
theorem dX11_init_373 : decode cX11_init 373 = .ok (.dup, 1) := by decide +kernel
theorem dX11_init_374 : decode cX11_init 374 = .ok (.iconst 2, 1) := by decide +kernel
theorem dX11_init_375 : decode cX11_init 375 = .ok (.bipush 101, 2) := by decide +kernel
theorem dX11_init_377 : decode cX11_init 377 = .ok (.castore, 1) := by decide +kernel
theorem dX11_init_378 : decode cX11_init 378 = .ok (.dup, 1) := by decide +kernel
theorem dX11_init_379 : decode cX11_init 379 = .ok (.iconst 3, 1) := by decide +kernel
theorem dX11_init_380 : decode cX11_init 380 = .ok (.bipush 115, 2) := by decide +kernel
theorem dX11_init_382 : decode cX11_init 382 = .ok (.castore, 1) := by decide +kernel
theorem dX11_init_383 : decode cX11_init 383 = .ok (.dup, 1) := by decide +kernel
theorem dX11_init_384 : decode cX11_init 384 = .ok (.iconst 4, 1) := by decide +kernel
theorem dX11_init_385 : decode cX11_init 385 = .ok (.bipush 115, 2) := by decide +kernel
theorem dX11_init_387 : decode cX11_init 387 = .ok (.castore, 1) := by decide +kernel
theorem dX11_init_388 : decode cX11_init 388 = .ok (.putfield 57, 3) := by decide +kernel
theorem dX11_init_391 : decode cX11_init 391 = .ok (.aload_n 0, 1) := by decide +kernel
theorem dX11_init_392 : decode cX11_init 392 = .ok (.iconst 5, 1) := by decide +kernel
theorem dX11_init_393 : decode cX11_init 393 = .ok (.newarray .char, 2) := by decide +kernel
theorem dX11_init_395 : decode cX11_init 395 = .ok (.dup, 1) := by decide +kernel
theorem dX11_init_396 : decode cX11_init 396 = .ok (.iconst 0, 1) := by decide +kernel
theorem dX11_init_397 : decode cX11_init 397 = .ok (.bipush 115, 2) := by decide +kernel
theorem dX11_init_399 : decode cX11_init 399 = .ok (.castore, 1) := by decide +kernel
theorem dX11_init_400 : decode cX11_init 400 = .ok (.dup, 1) := by decide +kernel
theorem dX11_init_401 : decode cX11_init 401 = .ok (.iconst 1, 1) := by decide +kernel
theorem dX11_init_402 : decode cX11_init 402 = .ok (.bipush 104, 2) := by decide +kernel
theorem dX11_init_404 : decode cX11_init 404 = .ok (.castore, 1) := by decide +kernel
theorem dX11_init_405 : decode cX11_init 405 = .ok (.dup, 1) := by decide +kernel
theorem dX11_init_406 : decode cX11_init 406 = .ok (.iconst 2, 1) := by decide +kernel
theorem dX11_init_407 : decode cX11_init 407 = .ok (.bipush 97, 2) := by decide +kernel
theorem dX11_init_409 : decode cX11_init 409 = .ok (.castore, 1) := by decide +kernel
theorem dX11_init_410 : decode cX11_init 410 = .ok (.dup, 1) := by decide +kernel
theorem dX11_init_411 : decode cX11_init 411 = .ok (.iconst 3, 1) := by decide +kernel
theorem dX11_init_412 : decode cX11_init 412 = .ok (.bipush 107, 2) := by decide +kernel
theorem dX11_init_414 : decode cX11_init 414 = .ok (.castore, 1) := by decide +kernel
theorem dX11_init_415 : decode cX11_init 415 = .ok (.dup, 1) := by decide +kernel
theorem dX11_init_416 : decode cX11_init 416 = .ok (.iconst 4, 1) := by decide +kernel
theorem dX11_init_417 : decode cX11_init 417 = .ok (.bipush 101, 2) := by decide +kernel
theorem dX11_init_419 : decode cX11_init 419 = .ok (.castore, 1) := by decide +kernel
theorem dX11_init_420 : decode cX11_init 420 = .ok (.putfield 60, 3) := by decide +kernel
theorem dX11_init_423 : decode cX11_init 423 = .ok (.aload_n 0, 1) := by decide +kernel
theorem dX11_init_424 : decode cX11_init 424 = .ok (.iconst 5, 1) := by decide +kernel
theorem dX11_init_425 : decode cX11_init 425 = .ok (.newarray .char, 2) := by decide +kernel
theorem dX11_init_427 : decode cX11_init 427 = .ok (.dup, 1) := by decide +kernel
theorem dX11_init_428 : decode cX11_init 428 = .ok (.iconst 0, 1) := by decide +kernel
theorem dX11_init_429 : decode cX11_init 429 = .ok (.bipush 108, 2) := by decide +kernel
theorem dX11_init_431 : decode cX11_init 431 = .ok (.castore, 1) := by decide +kernel
theorem dX11_init_432 : decode cX11_init 432 = .ok (.dup, 1) := by decide +kernel
theorem dX11_init_433 : decode cX11_init 433 = .ok (.iconst 1, 1) := by decide +kernel
theorem dX11_init_434 : decode cX11_init 434 = .ok (.bipush 111, 2) := by decide +kernel
theorem dX11_init_436 : decode cX11_init 436 = .ok (.castore, 1) := by decide +kernel
theorem dX11_init_437 : decode cX11_init 437 = .ok (.dup, 1) := by decide +kernel
theorem dX11_init_438 : decode cX11_init 438 = .ok (.iconst 2, 1) := by decide +kernel
theorem dX11_init_439 : decode cX11_init 439 = .ok (.bipush 111, 2) := by decide +kernel
theorem dX11_init_441 : decode cX11_init 441 = .ok (.castore, 1) := by decide +kernel
theorem dX11_init_442 : decode cX11_init 442 = .ok (.dup, 1) := by decide +kernel
theorem dX11_init_443 : decode cX11_init 443 = .ok (.iconst 3, 1) := by decide +kernel
theorem dX11_init_444 : decode cX11_init 444 = .ok (.bipush 112, 2) := by decide +kernel
theorem dX11_init_446 : decode cX11_init 446 = .ok (.castore, 1) := by decide +kernel
theorem dX11_init_447 : decode cX11_init 447 = .ok (.dup, 1) := by decide +kernel
theorem dX11_init_448 : decode cX11_init 448 = .ok (.iconst 4, 1) := by decide +kernel
theorem dX11_init_449 : decode cX11_init 449 = .ok (.bipush 115, 2) := by decide +kernel
theorem dX11_init_451 : decode cX11_init 451 = .ok (.castore, 1) := by decide +kernel
theorem dX11_init_452 : decode cX11_init 452 = .ok (.putfield 63, 3) := by decide +kernel
theorem dX11_init_455 : decode cX11_init 455 = .ok (.aload_n 0, 1) := by decide +kernel
theorem dX11_init_456 : decode cX11_init 456 = .ok (.iconst 4, 1) := by decide +kernel
theorem dX11_init_457 : decode cX11_init 457 = .ok (.newarray .char, 2) := by decide +kernel
theorem dX11_init_459 : decode cX11_init 459 = .ok (.dup, 1) := by decide +kernel
theorem dX11_init_460 : decode cX11_init 460 = .ok (.iconst 0, 1) := by decide +kernel
theorem dX11_init_461 : decode cX11_init 461 = .ok (.bipush 119, 2) := by decide +kernel
theorem dX11_init_463 : decode cX11_init 463 = .ok (.castore, 1) := by decide +kernel
theorem dX11_init_464 : decode cX11_init 464 = .ok (.dup, 1) := by decide +kernel
theorem dX11_init_465 : decode cX11_init 465 = .ok (.iconst 1, 1) := by decide +kernel
theorem dX11_init_466 : decode cX11_init 466 = .ok (.bipush 111, 2) := by decide +kernel
theorem dX11_init_468 : decode cX11_init 468 = .ok (.castore, 1) := by decide +kernel
theorem dX11_init_469 : decode cX11_init 469 = .ok (.dup, 1) := by decide +kernel
theorem dX11_init_470 : decode cX11_init 470 = .ok (.iconst 2, 1) := by decide +kernel
theorem dX11_init_471 : decode cX11_init 471 = .ok (.bipush 114, 2) := by decide +kernel
theorem dX11_init_473 : decode cX11_init 473 = .ok (.castore, 1) := by decide +kernel
theorem dX11_init_474 : decode cX11_init 474 = .ok (.dup, 1) := by decide +kernel
theorem dX11_init_475 : decode cX11_init 475 = .ok (.iconst 3, 1) := by decide +kernel
theorem dX11_init_476 : decode cX11_init 476 = .ok (.bipush 110, 2) := by decide +kernel
theorem dX11_init_478 : decode cX11_init 478 = .ok (.castore, 1) := by decide +kernel
theorem dX11_init_479 : decode cX11_init 479 = .ok (.putfield 66, 3) := by decide +kernel
theorem dX11_init_482 : decode cX11_init 482 = .ok (.aload_n 0, 1) := by decide +kernel
theorem dX11_init_483 : decode cX11_init 483 = .ok (.iconst 3, 1) := by decide +kernel
theorem dX11_init_484 : decode cX11_init 484 = .ok (.newarray .char, 2) := by decide +kernel
theorem dX11_init_486 : decode cX11_init 486 = .ok (.dup, 1) := by decide +kernel
theorem dX11_init_487 : decode cX11_init 487 = .ok (.iconst 0, 1) := by decide +kernel
theorem dX11_init_488 : decode cX11_init 488 = .ok (.bipush 114, 2) := by decide +kernel
theorem dX11_init_490 : decode cX11_init 490 = .ok (.castore, 1) := by decide +kernel
theorem dX11_init_491 : decode cX11_init 491 = .ok (.dup, 1) := by decide +kernel
theorem dX11_init_492 : decode cX11_init 492 = .ok (.iconst 1, 1) := by decide +kernel
theorem dX11_init_493 : decode cX11_init 493 = .ok (.bipush 111, 2) := by decide +kernel
theorem dX11_init_495 : decode cX11_init 495 = .ok (.castore, 1) := by decide +kernel
theorem dX11_init_496 : decode cX11_init 496 = .ok (.dup, 1) := by decide +kernel
theorem dX11_init_497 : decode cX11_init 497 = .ok (.iconst 2, 1) := by decide +kernel
theorem dX11_init_498 : decode cX11_init 498 = .ok (.bipush 119, 2) := by decide +kernel
theorem dX11_init_500 : decode cX11_init 500 = .ok (.castore, 1) := by decide +kernel
theorem dX11_init_501 : decode cX11_init 501 = .ok (.putfield 69, 3) := by decide +kernel
theorem dX11_init_504 : decode cX11_init 504 = .ok (.aload_n 0, 1) := by decide +kernel
theorem dX11_init_505 : decode cX11_init 505 = .ok (.bipush 6, 2) := by decide +kernel
theorem dX11_init_507 : decode cX11_init 507 = .ok (.newarray .char, 2) := by decide +kernel
theorem dX11_init_509 : decode cX11_init 509 = .ok (.dup, 1) := by decide +kernel
theorem dX11_init_510 : decode cX11_init 510 = .ok (.iconst 0, 1) := by decide +kernel
theorem dX11_init_511 : decode cX11_init 511 = .ok (.bipush 99, 2) := by decide +kernel
theorem dX11_init_513 : decode cX11_init 513 = .ok (.castore, 1) := by decide +kernel
theorem dX11_init_514 : decode cX11_init 514 = .ok (.dup, 1) := by decide +kernel
theorem dX11_init_515 : decode cX11_init 515 = .ok (.iconst 1, 1) := by decide +kernel
theorem dX11_init_516 : decode cX11_init 516 = .ok (.bipush 111, 2) := by decide +kernel
theorem dX11_init_518 : decode cX11_init 518 = .ok (.castore, 1) := by decide +kernel
theorem dX11_init_519 : decode cX11_init 519 = .ok (.dup, 1) := by decide +kernel
theorem dX11_init_520 : decode cX11_init 520 = .ok (.iconst 2, 1) := by decide +kernel
theorem dX11_init_521 : decode cX11_init 521 = .ok (.bipush 108, 2) := by decide +kernel
theorem dX11_init_523 : decode cX11_init 523 = .ok (.castore, 1) := by decide +kernel
theorem dX11_init_524 : decode cX11_init 524 = .ok (.dup, 1) := by decide +kernel
theorem dX11_init_525 : decode cX11_init 525 = .ok (.iconst 3, 1) := by decide +kernel
theorem dX11_init_526 : decode cX11_init 526 = .ok (.bipush 117, 2) := by decide +kernel
theorem dX11_init_528 : decode cX11_init 528 = .ok (.castore, 1) := by decide +kernel
theorem dX11_init_529 : decode cX11_init 529 = .ok (.dup, 1) := by decide +kernel
theorem dX11_init_530 : decode cX11_init 530 = .ok (.iconst 4, 1) := by decide +kernel
theorem dX11_init_531 : decode cX11_init 531 = .ok (.bipush 109, 2) := by decide +kernel
theorem dX11_init_533 : decode cX11_init 533 = .ok (.castore, 1) := by decide +kernel
theorem dX11_init_534 : decode cX11_init 534 = .ok (.dup, 1) := by decide +kernel
theorem dX11_init_535 : decode cX11_init 535 = .ok (.iconst 5, 1) := by decide +kernel
theorem dX11_init_536 : decode cX11_init 536 = .ok (.bipush 110, 2) := by decide +kernel
theorem dX11_init_538 : decode cX11_init 538 = .ok (.castore, 1) := by decide +kernel
theorem dX11_init_539 : decode cX11_init 539 = .ok (.putfield 72, 3) := by decide +kernel
theorem dX11_init_542 : decode cX11_init 542 = .ok (.aload_n 0, 1) := by decide +kernel
theorem dX11_init_543 : decode cX11_init 543 = .ok (.iconst 3, 1) := by decide +kernel
theorem dX11_init_544 : decode cX11_init 544 = .ok (.newarray .char, 2) := by decide +kernel
theorem dX11_init_546 : decode cX11_init 546 = .ok (.dup, 1) := by decide +kernel
theorem dX11_init_547 : decode cX11_init 547 = .ok (.iconst 0, 1) := by decide +kernel
theorem dX11_init_548 : decode cX11_init 548 = .ok (.bipush 109, 2) := by decide +kernel
theorem dX11_init_550 : decode cX11_init 550 = .ok (.castore, 1) := by decide +kernel
theorem dX11_init_551 : decode cX11_init 551 = .ok (.dup, 1) := by decide +kernel
theorem dX11_init_552 : decode cX11_init 552 = .ok (.iconst 1, 1) := by decide +kernel
theorem dX11_init_553 : decode cX11_init 553 = .ok (.bipush 105, 2) := by decide +kernel
theorem dX11_init_555 : decode cX11_init 555 = .ok (.castore, 1) := by decide +kernel
theorem dX11_init_556 : decode cX11_init 556 = .ok (.dup, 1) := by decide +kernel
theorem dX11_init_557 : decode cX11_init 557 = .ok (.iconst 2, 1) := by decide +kernel
theorem dX11_init_558 : decode cX11_init 558 = .ok (.bipush 110, 2) := by decide +kernel
theorem dX11_init_560 : decode cX11_init 560 = .ok (.castore, 1) := by decide +kernel
theorem dX11_init_561 : decode cX11_init 561 = .ok (.putfield 75, 3) := by decide +kernel
theorem dX11_init_564 : decode cX11_init 564 = .ok (.aload_n 0, 1) := by decide +kernel
theorem dX11_init_565 : decode cX11_init 565 = .ok (.iconst 3, 1) := by decide +kernel
theorem dX11_init_566 : decode cX11_init 566 = .ok (.newarray .char, 2) := by decide +kernel
theorem dX11_init_568 : decode cX11_init 568 = .ok (.dup, 1) := by decide +kernel
theorem dX11_init_569 : decode cX11_init 569 = .ok (.iconst 0, 1) := by decide +kernel
theorem dX11_init_570 : decode cX11_init 570 = .ok (.bipush 109, 2) := by decide +kernel
theorem dX11_init_572 : decode cX11_init 572 = .ok (.castore, 1) := by decide +kernel
theorem dX11_init_573 : decode cX11_init 573 = .ok (.dup, 1) := by decide +kernel
theorem dX11_init_574 : decode cX11_init 574 = .ok (.iconst 1, 1) := by decide +kernel
theorem dX11_init_575 : decode cX11_init 575 = .ok (.bipush 97, 2) := by decide +kernel
theorem dX11_init_577 : decode cX11_init 577 = .ok (.castore, 1) := by decide +kernel
theorem dX11_init_578 : decode cX11_init 578 = .ok (.dup, 1) := by decide +kernel
theorem dX11_init_579 : decode cX11_init 579 = .ok (.iconst 2, 1) := by decide +kernel
theorem dX11_init_580 : decode cX11_init 580 = .ok (.bipush 120, 2) := by decide +kernel
theorem dX11_init_582 : decode cX11_init 582 = .ok (.castore, 1) := by decide +kernel
theorem dX11_init_583 : decode cX11_init 583 = .ok (.putfield 78, 3) := by decide +kernel
theorem dX11_init_586 : decode cX11_init 586 = .ok (.aload_n 0, 1) := by decide +kernel
theorem dX11_init_587 : decode cX11_init 587 = .ok (.iconst 2, 1) := by decide +kernel
theorem dX11_init_588 : decode cX11_init 588 = .ok (.newarray .int, 2) := by decide +kernel
theorem dX11_init_590 : decode cX11_init 590 = .ok (.putfield 81, 3) := by decide +kernel
theorem dX11_init_593 : decode cX11_init 593 = .ok (.aload_n 0, 1) := by decide +kernel
theorem dX11_init_594 : decode cX11_init 594 = .ok (.bipush 8, 2) := by decide +kernel
theorem dX11_init_596 : decode cX11_init 596 = .ok (.newarray .long, 2) := by decide +kernel
theorem dX11_init_598 : decode cX11_init 598 = .ok (.putfield 84, 3) := by decide +kernel
theorem dX11_init_601 : decode cX11_init 601 = .ok (.aload_n 0, 1) := by decide +kernel
theorem dX11_init_602 : decode cX11_init 602 = .ok (.bipush 16, 2) := by decide +kernel
theorem dX11_init_604 : decode cX11_init 604 = .ok (.newarray .int, 2) := by decide +kernel
theorem dX11_init_606 : decode cX11_init 606 = .ok (.putfield 88, 3) := by decide +kernel
theorem dX11_init_609 : decode cX11_init 609 = .ok (.aload_n 0, 1) := by decide +kernel
theorem dX11_init_610 : decode cX11_init 610 = .ok (.bipush 16, 2) := by decide +kernel
theorem dX11_init_612 : decode cX11_init 612 = .ok (.newarray .int, 2) := by decide +kernel
theorem dX11_init_614 : decode cX11_init 614 = .ok (.putfield 91, 3) := by decide +kernel
theorem dX11_init_617 : decode cX11_init 617 = .ok (.aload_n 0, 1) := by decide +kernel
theorem dX11_init_618 : decode cX11_init 618 = .ok (.bipush 16, 2) := by decide +kernel
theorem dX11_init_620 : decode cX11_init 620 = .ok (.newarray .int, 2) := by decide +kernel
theorem dX11_init_622 : decode cX11_init 622 = .ok (.putfield 94, 3) := by decide +kernel
theorem dX11_init_625 : decode cX11_init 625 = .ok (.aload_n 0, 1) := by decide +kernel
theorem dX11_init_626 : decode cX11_init 626 = .ok (.bipush 16, 2) := by decide +kernel
theorem dX11_init_628 : decode cX11_init 628 = .ok (.newarray .int, 2) := by decide +kernel
theorem dX11_init_630 : decode cX11_init 630 = .ok (.putfield 97, 3) := by decide +kernel
theorem dX11_init_633 : decode cX11_init 633 = .ok (.aload_n 0, 1) := by decide +kernel
theorem dX11_init_634 : decode cX11_init 634 = .ok (.iconst 2, 1) := by decide +kernel
theorem dX11_init_635 : decode cX11_init 635 = .ok (.newarray .int, 2) := by decide +kernel
theorem dX11_init_637 : decode cX11_init 637 = .ok (.putfield 100, 3) := by decide +kernel
theorem dX11_init_640 : decode cX11_init 640 = .ok (.aload_n 0, 1) := by decide +kernel
theorem dX11_init_641 : decode cX11_init 641 = .ok (.bipush 48, 2) := by decide +kernel
theorem dX11_init_643 : decode cX11_init 643 = .ok (.newarray .int, 2) := by decide +kernel
theorem dX11_init_645 : decode cX11_init 645 = .ok (.putfield 103, 3) := by decide +kernel
theorem dX11_init_648 : decode cX11_init 648 = .ok (.aload_n 0, 1) := by decide +kernel
theorem dX11_init_649 : decode cX11_init 649 = .ok (.bipush 48, 2) := by decide +kernel
theorem dX11_init_651 : decode cX11_init 651 = .ok (.newarray .int, 2) := by decide +kernel
theorem dX11_init_653 : decode cX11_init 653 = .ok (.putfield 106, 3) := by decide +kernel
theorem dX11_init_656 : decode cX11_init 656 = .ok (.aload_n 0, 1) := by decide +kernel
theorem dX11_init_657 : decode cX11_init 657 = .ok (.bipush 48, 2) := by decide +kernel
theorem dX11_init_659 : decode cX11_init 659 = .ok (.newarray .int, 2) := by decide +kernel
theorem dX11_init_661 : decode cX11_init 661 = .ok (.putfield 109, 3) := by decide +kernel
theorem dX11_init_664 : decode cX11_init 664 = .ok (.aload_n 0, 1) := by decide +kernel
theorem dX11_init_665 : decode cX11_init 665 = .ok (.bipush 48, 2) := by decide +kernel
theorem dX11_init_667 : decode cX11_init 667 = .ok (.newarray .int, 2) := by decide +kernel
theorem dX11_init_669 : decode cX11_init 669 = .ok (.putfield 112, 3) := by decide +kernel
theorem dX11_init_672 : decode cX11_init 672 = .ok (.aload_n 0, 1) := by decide +kernel
theorem dX11_init_673 : decode cX11_init 673 = .ok (.sipush 1400, 3) := by decide +kernel
theorem dX11_init_676 : decode cX11_init 676 = .ok (.newarray .int, 2) := by decide +kernel
theorem dX11_init_678 : decode cX11_init 678 = .ok (.putfield 115, 3) := by decide +kernel
theorem dX11_init_681 : decode cX11_init 681 = .ok (.aload_n 0, 1) := by decide +kernel
theorem dX11_init_682 : decode cX11_init 682 = .ok (.sipush 800, 3) := by decide +kernel
theorem dX11_init_685 : decode cX11_init 685 = .ok (.newarray .int, 2) := by decide +kernel
theorem dX11_init_687 : decode cX11_init 687 = .ok (.putfield 118, 3) := by decide +kernel
theorem dX11_init_690 : decode cX11_init 690 = .ok (.aload_n 0, 1) := by decide +kernel
theorem dX11_init_691 : decode cX11_init 691 = .ok (.iconst 1, 1) := by decide +kernel
theorem dX11_init_692 : decode cX11_init 692 = .ok (.putfield 121, 3) := by decide +kernel
theorem dX11_init_695 : decode cX11_init 695 = .ok (.aload_n 0, 1) := by decide +kernel
theorem dX11_init_696 : decode cX11_init 696 = .ok (.iconst 1, 1) := by decide +kernel
theorem dX11_init_697 : decode cX11_init 697 = .ok (.putfield 124, 3) := by decide +kernel
theorem dX11_init_700 : decode cX11_init 700 = .ok (.aload_n 0, 1) := by decide +kernel
theorem dX11_init_701 : decode cX11_init 701 = .ok (.bipush 121, 2) := by decide +kernel
theorem dX11_init_703 : decode cX11_init 703 = .ok (.newarray .int, 2) := by decide +kernel
theorem dX11_init_705 : decode cX11_init 705 = .ok (.putfield 127, 3) := by decide +kernel
theorem dX11_init_708 : decode cX11_init 708 = .ok (.aload_n 0, 1) := by decide +kernel
theorem dX11_init_709 : decode cX11_init 709 = .ok (.bipush 121, 2) := by decide +kernel
theorem dX11_init_711 : decode cX11_init 711 = .ok (.newarray .int, 2) := by decide +kernel
theorem dX11_init_713 : decode cX11_init 713 = .ok (.putfield 130, 3) := by decide +kernel
theorem dX11_init_716 : decode cX11_init 716 = .ok (.aload_n 0, 1) := by decide +kernel
theorem dX11_init_717 : decode cX11_init 717 = .ok (.bipush 121, 2) := by decide +kernel
theorem dX11_init_719 : decode cX11_init 719 = .ok (.newarray .int, 2) := by decide +kernel
theorem dX11_init_721 : decode cX11_init 721 = .ok (.putfield 133, 3) := by decide +kernel
theorem dX11_init_724 : decode cX11_init 724 = .ok (.aload_n 0, 1) := by decide +kernel
theorem dX11_init_725 : decode cX11_init 725 = .ok (.bipush 121, 2) := by decide +kernel
theorem dX11_init_727 : decode cX11_init 727 = .ok (.newarray .int, 2) := by decide +kernel
theorem dX11_init_729 : decode cX11_init 729 = .ok (.putfield 136, 3) := by decide +kernel
theorem dX11_init_732 : decode cX11_init 732 = .ok (.aload_n 0, 1) := by decide +kernel
theorem dX11_init_733 : decode cX11_init 733 = .ok (.bipush 121, 2) := by decide +kernel
theorem dX11_init_735 : decode cX11_init 735 = .ok (.newarray .int, 2) := by decide +kernel
theorem dX11_init_737 : decode cX11_init 737 = .ok (.putfield 139, 3) := by decide +kernel
theorem dX11_init_740 : decode cX11_init 740 = .ok (.aload_n 0, 1) := by decide +kernel
theorem dX11_init_741 : decode cX11_init 741 = .ok (.bipush 121, 2) := by decide +kernel
theorem dX11_init_743 : decode cX11_init 743 = .ok (.newarray .int, 2) := by decide +kernel
theorem dX11_init_745 : decode cX11_init 745 = .ok (.putfield 142, 3) := by decide +kernel
theorem dX11_init_748 : decode cX11_init 748 = .ok (.aload_n 0, 1) := by decide +kernel
theorem dX11_init_749 : decode cX11_init 749 = .ok (.iconst (-1), 1) := by decide +kernel
theorem dX11_init_750 : decode cX11_init 750 = .ok (.putfield 145, 3) := by decide +kernel
theorem dX11_init_753 : decode cX11_init 753 = .ok (.aload_n 0, 1) := by decide +kernel
theorem dX11_init_754 : decode cX11_init 754 = .ok (.iconst (-1), 1) := by decide +kernel
theorem dX11_init_755 : decode cX11_init 755 = .ok (.putfield 148, 3) := by decide +kernel
theorem dX11_init_758 : decode cX11_init 758 = .ok (.aload_n 0, 1) := by decide +kernel
theorem dX11_init_759 : decode cX11_init 759 = .ok (.bipush 64, 2) := by decide +kernel
theorem dX11_init_761 : decode cX11_init 761 = .ok (.newarray .int, 2) := by decide +kernel
theorem dX11_init_763 : decode cX11_init 763 = .ok (.putfield 151, 3) := by decide +kernel
theorem dX11_init_766 : decode cX11_init 766 = .ok (.aload_n 0, 1) := by decide +kernel
theorem dX11_init_767 : decode cX11_init 767 = .ok (.bipush 64, 2) := by decide +kernel
theorem dX11_init_769 : decode cX11_init 769 = .ok (.newarray .int, 2) := by decide +kernel
theorem dX11_init_771 : decode cX11_init 771 = .ok (.putfield 154, 3) := by decide +kernel
theorem dX11_init_774 : decode cX11_init 774 = .ok (.aload_n 0, 1) := by decide +kernel
theorem dX11_init_775 : decode cX11_init 775 = .ok (.bipush 64, 2) := by decide +kernel
theorem dX11_init_777 : decode cX11_init 777 = .ok (.newarray .int, 2) := by decide +kernel
theorem dX11_init_779 : decode cX11_init 779 = .ok (.putfield 157, 3) := by decide +kernel
theorem dX11_init_782 : decode cX11_init 782 = .ok (.aload_n 0, 1) := by decide +kernel
theorem dX11_init_783 : decode cX11_init 783 = .ok (.bipush 64, 2) := by decide +kernel
theorem dX11_init_785 : decode cX11_init 785 = .ok (.newarray .int, 2) := by decide +kernel
theorem dX11_init_787 : decode cX11_init 787 = .ok (.putfield 160, 3) := by decide +kernel
theorem dX11_init_790 : decode cX11_init 790 = .ok (.aload_n 0, 1) := by decide +kernel
theorem dX11_init_791 : decode cX11_init 791 = .ok (.bipush 64, 2) := by decide +kernel
theorem dX11_init_793 : decode cX11_init 793 = .ok (.newarray .int, 2) := by decide +kernel
theorem dX11_init_795 : decode cX11_init 795 = .ok (.putfield 163, 3) := by decide +kernel
theorem dX11_init_798 : decode cX11_init 798 = .ok (.aload_n 0, 1) := by decide +kernel
theorem dX11_init_799 : decode cX11_init 799 = .ok (.sipush 1200, 3) := by decide +kernel
theorem dX11_init_802 : decode cX11_init 802 = .ok (.newarray .long, 2) := by decide +kernel
theorem dX11_init_804 : decode cX11_init 804 = .ok (.putfield 166, 3) := by decide +kernel
theorem dX11_init_807 : decode cX11_init 807 = .ok (.aload_n 0, 1) := by decide +kernel
theorem dX11_init_808 : decode cX11_init 808 = .ok (.sipush 800, 3) := by decide +kernel
theorem dX11_init_811 : decode cX11_init 811 = .ok (.newarray .long, 2) := by decide +kernel
theorem dX11_init_813 : decode cX11_init 813 = .ok (.putfield 169, 3) := by decide +kernel
theorem dX11_init_816 : decode cX11_init 816 = .ok (.aload_n 0, 1) := by decide +kernel
theorem dX11_init_817 : decode cX11_init 817 = .ok (.iconst (-1), 1) := by decide +kernel
theorem dX11_init_818 : decode cX11_init 818 = .ok (.putfield 172, 3) := by decide +kernel
theorem dX11_init_821 : decode cX11_init 821 = .ok (.aload_n 0, 1) := by decide +kernel
theorem dX11_init_822 : decode cX11_init 822 = .ok (.bipush 66, 2) := by decide +kernel
theorem dX11_init_824 : decode cX11_init 824 = .ok (.newarray .long, 2) := by decide +kernel
theorem dX11_init_826 : decode cX11_init 826 = .ok (.putfield 175, 3) := by decide +kernel
theorem dX11_init_829 : decode cX11_init 829 = .ok (.aload_n 0, 1) := by decide +kernel
theorem dX11_init_830 : decode cX11_init 830 = .ok (.bipush 64, 2) := by decide +kernel
theorem dX11_init_832 : decode cX11_init 832 = .ok (.newarray .boolean, 2) := by decide +kernel
theorem dX11_init_834 : decode cX11_init 834 = .ok (.putfield 178, 3) := by decide +kernel
theorem dX11_init_837 : decode cX11_init 837 = .ok (.aload_n 0, 1) := by decide +kernel
theorem dX11_init_838 : decode cX11_init 838 = .ok (.bipush 64, 2) := by decide +kernel
theorem dX11_init_840 : decode cX11_init 840 = .ok (.newarray .int, 2) := by decide +kernel
theorem dX11_init_842 : decode cX11_init 842 = .ok (.putfield 182, 3) := by decide +kernel
theorem dX11_init_845 : decode cX11_init 845 = .ok (.aload_n 0, 1) := by decide +kernel
theorem dX11_init_846 : decode cX11_init 846 = .ok (.bipush 64, 2) := by decide +kernel
theorem dX11_init_848 : decode cX11_init 848 = .ok (.newarray .int, 2) := by decide +kernel
theorem dX11_init_850 : decode cX11_init 850 = .ok (.putfield 185, 3) := by decide +kernel
theorem dX11_init_853 : decode cX11_init 853 = .ok (.aload_n 0, 1) := by decide +kernel
theorem dX11_init_854 : decode cX11_init 854 = .ok (.bipush 64, 2) := by decide +kernel
theorem dX11_init_856 : decode cX11_init 856 = .ok (.newarray .int, 2) := by decide +kernel
theorem dX11_init_858 : decode cX11_init 858 = .ok (.putfield 188, 3) := by decide +kernel
theorem dX11_init_861 : decode cX11_init 861 = .ok (.aload_n 0, 1) := by decide +kernel
theorem dX11_init_862 : decode cX11_init 862 = .ok (.bipush 64, 2) := by decide +kernel
theorem dX11_init_864 : decode cX11_init 864 = .ok (.newarray .int, 2) := by decide +kernel
theorem dX11_init_866 : decode cX11_init 866 = .ok (.putfield 191, 3) := by decide +kernel
theorem dX11_init_869 : decode cX11_init 869 = .ok (.aload_n 0, 1) := by decide +kernel
theorem dX11_init_870 : decode cX11_init 870 = .ok (.bipush 64, 2) := by decide +kernel
theorem dX11_init_872 : decode cX11_init 872 = .ok (.newarray .int, 2) := by decide +kernel
theorem dX11_init_874 : decode cX11_init 874 = .ok (.putfield 194, 3) := by decide +kernel
theorem dX11_init_877 : decode cX11_init 877 = .ok (.aload_n 0, 1) := by decide +kernel
theorem dX11_init_878 : decode cX11_init 878 = .ok (.bipush 64, 2) := by decide +kernel
theorem dX11_init_880 : decode cX11_init 880 = .ok (.newarray .int, 2) := by decide +kernel
theorem dX11_init_882 : decode cX11_init 882 = .ok (.putfield 197, 3) := by decide +kernel
theorem dX11_init_885 : decode cX11_init 885 = .ok (.aload_n 0, 1) := by decide +kernel
theorem dX11_init_886 : decode cX11_init 886 = .ok (.bipush 64, 2) := by decide +kernel
theorem dX11_init_888 : decode cX11_init 888 = .ok (.newarray .int, 2) := by decide +kernel
theorem dX11_init_890 : decode cX11_init 890 = .ok (.putfield 200, 3) := by decide +kernel
theorem dX11_init_893 : decode cX11_init 893 = .ok (.aload_n 0, 1) := by decide +kernel
theorem dX11_init_894 : decode cX11_init 894 = .ok (.bipush 64, 2) := by decide +kernel
theorem dX11_init_896 : decode cX11_init 896 = .ok (.newarray .int, 2) := by decide +kernel
theorem dX11_init_898 : decode cX11_init 898 = .ok (.putfield 203, 3) := by decide +kernel
theorem dX11_init_901 : decode cX11_init 901 = .ok (.aload_n 0, 1) := by decide +kernel
theorem dX11_init_902 : decode cX11_init 902 = .ok (.bipush 64, 2) := by decide +kernel
theorem dX11_init_904 : decode cX11_init 904 = .ok (.newarray .int, 2) := by decide +kernel
theorem dX11_init_906 : decode cX11_init 906 = .ok (.putfield 206, 3) := by decide +kernel
theorem dX11_init_909 : decode cX11_init 909 = .ok (.aload_n 0, 1) := by decide +kernel
theorem dX11_init_910 : decode cX11_init 910 = .ok (.bipush 64, 2) := by decide +kernel
theorem dX11_init_912 : decode cX11_init 912 = .ok (.newarray .int, 2) := by decide +kernel
theorem dX11_init_914 : decode cX11_init 914 = .ok (.putfield 209, 3) := by decide +kernel
theorem dX11_init_917 : decode cX11_init 917 = .ok (.aload_n 0, 1) := by decide +kernel
theorem dX11_init_918 : decode cX11_init 918 = .ok (.iconst (-1), 1) := by decide +kernel
theorem dX11_init_919 : decode cX11_init 919 = .ok (.putfield 212, 3) := by decide +kernel
theorem dX11_init_922 : decode cX11_init 922 = .ok (.aload_n 0, 1) := by decide +kernel
theorem dX11_init_923 : decode cX11_init 923 = .ok (.bipush 64, 2) := by decide +kernel
theorem dX11_init_925 : decode cX11_init 925 = .ok (.newarray .int, 2) := by decide +kernel
theorem dX11_init_927 : decode cX11_init 927 = .ok (.putfield 215, 3) := by decide +kernel
theorem dX11_init_930 : decode cX11_init 930 = .ok (.aload_n 0, 1) := by decide +kernel
theorem dX11_init_931 : decode cX11_init 931 = .ok (.bipush 64, 2) := by decide +kernel
theorem dX11_init_933 : decode cX11_init 933 = .ok (.newarray .long, 2) := by decide +kernel
theorem dX11_init_935 : decode cX11_init 935 = .ok (.putfield 218, 3) := by decide +kernel
theorem dX11_init_938 : decode cX11_init 938 = .ok (.aload_n 0, 1) := by decide +kernel
theorem dX11_init_939 : decode cX11_init 939 = .ok (.bipush 64, 2) := by decide +kernel
theorem dX11_init_941 : decode cX11_init 941 = .ok (.newarray .int, 2) := by decide +kernel
theorem dX11_init_943 : decode cX11_init 943 = .ok (.putfield 221, 3) := by decide +kernel
theorem dX11_init_946 : decode cX11_init 946 = .ok (.aload_n 0, 1) := by decide +kernel
theorem dX11_init_947 : decode cX11_init 947 = .ok (.bipush 64, 2) := by decide +kernel
theorem dX11_init_949 : decode cX11_init 949 = .ok (.newarray .int, 2) := by decide +kernel
theorem dX11_init_951 : decode cX11_init 951 = .ok (.putfield 224, 3) := by decide +kernel
theorem dX11_init_954 : decode cX11_init 954 = .ok (.aload_n 0, 1) := by decide +kernel
theorem dX11_init_955 : decode cX11_init 955 = .ok (.iconst (-1), 1) := by decide +kernel
theorem dX11_init_956 : decode cX11_init 956 = .ok (.putfield 227, 3) := by decide +kernel
theorem dX11_init_959 : decode cX11_init 959 = .ok (.aload_n 0, 1) := by decide +kernel
theorem dX11_init_960 : decode cX11_init 960 = .ok (.bipush 8, 2) := by decide +kernel
theorem dX11_init_962 : decode cX11_init 962 = .ok (.newarray .int, 2) := by decide +kernel
theorem dX11_init_964 : decode cX11_init 964 = .ok (.putfield 230, 3) := by decide +kernel
theorem dX11_init_967 : decode cX11_init 967 = .ok (.aload_n 0, 1) := by decide +kernel
theorem dX11_init_968 : decode cX11_init 968 = .ok (.bipush 8, 2) := by decide +kernel
theorem dX11_init_970 : decode cX11_init 970 = .ok (.newarray .int, 2) := by decide +kernel
theorem dX11_init_972 : decode cX11_init 972 = .ok (.putfield 233, 3) := by decide +kernel
theorem dX11_init_975 : decode cX11_init 975 = .ok (.aload_n 0, 1) := by decide +kernel
theorem dX11_init_976 : decode cX11_init 976 = .ok (.bipush 8, 2) := by decide +kernel
theorem dX11_init_978 : decode cX11_init 978 = .ok (.newarray .int, 2) := by decide +kernel
theorem dX11_init_980 : decode cX11_init 980 = .ok (.putfield 236, 3) := by decide +kernel
theorem dX11_init_983 : decode cX11_init 983 = .ok (.aload_n 0, 1) := by decide +kernel
theorem dX11_init_984 : decode cX11_init 984 = .ok (.bipush 12, 2) := by decide +kernel
theorem dX11_init_986 : decode cX11_init 986 = .ok (.newarray .int, 2) := by decide +kernel
theorem dX11_init_988 : decode cX11_init 988 = .ok (.putfield 239, 3) := by decide +kernel
theorem dX11_init_991 : decode cX11_init 991 = .ok (.aload_n 0, 1) := by decide +kernel
theorem dX11_init_992 : decode cX11_init 992 = .ok (.bipush 12, 2) := by decide +kernel
theorem dX11_init_994 : decode cX11_init 994 = .ok (.newarray .int, 2) := by decide +kernel
theorem dX11_init_996 : decode cX11_init 996 = .ok (.putfield 242, 3) := by decide +kernel
theorem dX11_init_999 : decode cX11_init 999 = .ok (.aload_n 0, 1) := by decide +kernel
theorem dX11_init_1000 : decode cX11_init 1000 = .ok (.bipush 12, 2) := by decide +kernel
theorem dX11_init_1002 : decode cX11_init 1002 = .ok (.newarray .int, 2) := by decide +kernel
theorem dX11_init_1004 : decode cX11_init 1004 = .ok (.putfield 245, 3) := by decide +kernel
theorem dX11_init_1007 : decode cX11_init 1007 = .ok (.aload_n 0, 1) := by decide +kernel
theorem dX11_init_1008 : decode cX11_init 1008 = .ok (.bipush 8, 2) := by decide +kernel
theorem dX11_init_1010 : decode cX11_init 1010 = .ok (.newarray .int, 2) := by decide +kernel
theorem dX11_init_1012 : decode cX11_init 1012 = .ok (.putfield 248, 3) := by decide +kernel
theorem dX11_init_1015 : decode cX11_init 1015 = .ok (.aload_n 0, 1) := by decide +kernel
theorem dX11_init_1016 : decode cX11_init 1016 = .ok (.bipush 8, 2) := by decide +kernel
theorem dX11_init_1018 : decode cX11_init 1018 = .ok (.newarray .int, 2) := by decide +kernel
theorem dX11_init_1020 : decode cX11_init 1020 = .ok (.putfield 251, 3) := by decide +kernel
theorem dX11_init_1023 : decode cX11_init 1023 = .ok (.aload_n 0, 1) := by decide +kernel
theorem dX11_init_1024 : decode cX11_init 1024 = .ok (.iconst (-1), 1) := by decide +kernel
theorem dX11_init_1025 : decode cX11_init 1025 = .ok (.putfield 254, 3) := by decide +kernel
theorem dX11_init_1028 : decode cX11_init 1028 = .ok (.return_, 1) := by decide +kernel
theorem dX10_feed_0 : decode cX10_feed 0 = .ok (.aload_n 0, 1) := by decide +kernel
theorem dX10_feed_1 : decode cX10_feed 1 = .ok (.getfield 12, 3) := by decide +kernel
theorem dX10_feed_4 : decode cX10_feed 4 = .ok (.getfield 101, 3) := by decide +kernel
theorem dX10_feed_7 : decode cX10_feed 7 = .ok (.sipush 680, 3) := by decide +kernel
theorem dX10_feed_10 : decode cX10_feed 10 = .ok (.if_icmp .le 5, 3) := by decide +kernel
theorem dX10_feed_15 : decode cX10_feed 15 = .ok (.aload_n 0, 1) := by decide +kernel
theorem dX10_feed_16 : decode cX10_feed 16 = .ok (.getfield 12, 3) := by decide +kernel
theorem dX10_feed_19 : decode cX10_feed 19 = .ok (.iload_n 1, 1) := by decide +kernel
theorem dX10_feed_20 : decode cX10_feed 20 = .ok (.invokevirtual 104, 3) := by decide +kernel
theorem dX10_feed_23 : decode cX10_feed 23 = .ok (.aload_n 0, 1) := by decide +kernel
theorem dX10_feed_24 : decode cX10_feed 24 = .ok (.getfield 12, 3) := by decide +kernel
theorem dX10_feed_27 : decode cX10_feed 27 = .ok (.iload_n 2, 1) := by decide +kernel
theorem dX10_feed_28 : decode cX10_feed 28 = .ok (.invokevirtual 104, 3) := by decide +kernel
theorem dX10_feed_31 : decode cX10_feed 31 = .ok (.aload_n 0, 1) := by decide +kernel
theorem dX10_feed_32 : decode cX10_feed 32 = .ok (.getfield 12, 3) := by decide +kernel
theorem dX10_feed_35 : decode cX10_feed 35 = .ok (.iload_n 3, 1) := by decide +kernel
theorem dX10_feed_36 : decode cX10_feed 36 = .ok (.invokevirtual 104, 3) := by decide +kernel
theorem dX10_feed_39 : decode cX10_feed 39 = .ok (.aload_n 0, 1) := by decide +kernel
theorem dX10_feed_40 : decode cX10_feed 40 = .ok (.getfield 12, 3) := by decide +kernel
theorem dX10_feed_43 : decode cX10_feed 43 = .ok (.iload 4, 2) := by decide +kernel
theorem dX10_feed_45 : decode cX10_feed 45 = .ok (.invokevirtual 104, 3) := by decide +kernel
theorem dX10_feed_48 : decode cX10_feed 48 = .ok (.aload_n 0, 1) := by decide +kernel
theorem dX10_feed_49 : decode cX10_feed 49 = .ok (.getfield 12, 3) := by decide +kernel
theorem dX10_feed_52 : decode cX10_feed 52 = .ok (.iload 5, 2) := by decide +kernel
theorem dX10_feed_54 : decode cX10_feed 54 = .ok (.invokevirtual 104, 3) := by decide +kernel
theorem dX10_feed_57 : decode cX10_feed 57 = .ok (.aload_n 0, 1) := by decide +kernel
theorem dX10_feed_58 : decode cX10_feed 58 = .ok (.getfield 12, 3) := by decide +kernel
theorem dX10_feed_61 : decode cX10_feed 61 = .ok (.getfield 101, 3) := by decide +kernel
theorem dX10_feed_64 : decode cX10_feed 64 = .ok (.ireturn, 1) := by decide +kernel
theorem dX9_addFour_0 : decode cX9_addFour 0 = .ok (.bipush 24, 2) := by decide +kernel
theorem dX9_addFour_2 : decode cX9_addFour 2 = .ok (.istore_n 2, 1) := by decide +kernel
theorem dX9_addFour_3 : decode cX9_addFour 3 = .ok (.iload_n 2, 1) := by decide +kernel
theorem dX9_addFour_4 : decode cX9_addFour 4 = .ok (.ifCond .lt 42, 3) := by decide +kernel
theorem dX9_addFour_7 : decode cX9_addFour 7 = .ok (.aload_n 0, 1) := by decide +kernel
theorem dX9_addFour_8 : decode cX9_addFour 8 = .ok (.getfield 15, 3) := by decide +kernel
theorem dX9_addFour_11 : decode cX9_addFour 11 = .ok (.sipush 700, 3) := by decide +kernel
theorem dX9_addFour_14 : decode cX9_addFour 14 = .ok (.if_icmp .ge 32, 3) := by decide +kernel
theorem dX9_addFour_17 : decode cX9_addFour 17 = .ok (.aload_n 0, 1) := by decide +kernel
theorem dX9_addFour_18 : decode cX9_addFour 18 = .ok (.getfield 11, 3) := by decide +kernel
theorem dX9_addFour_21 : decode cX9_addFour 21 = .ok (.aload_n 0, 1) := by decide +kernel
theorem dX9_addFour_22 : decode cX9_addFour 22 = .ok (.getfield 15, 3) := by decide +kernel
theorem dX9_addFour_25 : decode cX9_addFour 25 = .ok (.iload_n 1, 1) := by decide +kernel
theorem dX9_addFour_26 : decode cX9_addFour 26 = .ok (.iload_n 2, 1) := by decide +kernel
theorem dX9_addFour_27 : decode cX9_addFour 27 = .ok (.iushr, 1) := by decide +kernel
theorem dX9_addFour_28 : decode cX9_addFour 28 = .ok (.i2b, 1) := by decide +kernel
theorem dX9_addFour_29 : decode cX9_addFour 29 = .ok (.bastore, 1) := by decide +kernel
theorem dX9_addFour_30 : decode cX9_addFour 30 = .ok (.aload_n 0, 1) := by decide +kernel
theorem dX9_addFour_31 : decode cX9_addFour 31 = .ok (.dup, 1) := by decide +kernel
theorem dX9_addFour_32 : decode cX9_addFour 32 = .ok (.getfield 15, 3) := by decide +kernel
theorem dX9_addFour_35 : decode cX9_addFour 35 = .ok (.iconst 1, 1) := by decide +kernel
theorem dX9_addFour_36 : decode cX9_addFour 36 = .ok (.iadd, 1) := by decide +kernel
theorem dX9_addFour_37 : decode cX9_addFour 37 = .ok (.putfield 15, 3) := by decide +kernel
theorem dX9_addFour_40 : decode cX9_addFour 40 = .ok (.iinc 2 (-8), 3) := by decide +kernel
theorem dX9_addFour_43 : decode cX9_addFour 43 = .ok (.goto (-40), 3) := by decide +kernel
theorem dX9_addFour_46 : decode cX9_addFour 46 = .ok (.return_, 1) := by decide +kernel
theorem dX10_end_0 : decode cX10_end 0 = .ok (.iload_n 1, 1) := by decide +kernel
theorem dX10_end_1 : decode cX10_end 1 = .ok (.ifCond .lt 14, 3) := by decide +kernel
theorem dX10_end_4 : decode cX10_end 4 = .ok (.iload_n 1, 1) := by decide +kernel
theorem dX10_end_5 : decode cX10_end 5 = .ok (.aload_n 0, 1) := by decide +kernel
theorem dX10_end_6 : decode cX10_end 6 = .ok (.getfield 12, 3) := by decide +kernel
theorem dX10_end_9 : decode cX10_end 9 = .ok (.getfield 101, 3) := by decide +kernel
theorem dX10_end_12 : decode cX10_end 12 = .ok (.if_icmp .le 5, 3) := by decide +kernel
theorem dX10_end_15 : decode cX10_end 15 = .ok (.iconst 0, 1) := by decide +kernel
theorem dX10_end_16 : decode cX10_end 16 = .ok (.ireturn, 1) := by decide +kernel
theorem dX10_end_17 : decode cX10_end 17 = .ok (.aload_n 0, 1) := by decide +kernel
theorem dX10_end_18 : decode cX10_end 18 = .ok (.getfield 12, 3) := by decide +kernel
theorem dX10_end_21 : decode cX10_end 21 = .ok (.iload_n 1, 1) := by decide +kernel
theorem dX10_end_22 : decode cX10_end 22 = .ok (.putfield 101, 3) := by decide +kernel
theorem dX10_end_25 : decode cX10_end 25 = .ok (.iconst 1, 1) := by decide +kernel
theorem dX10_end_26 : decode cX10_end 26 = .ok (.ireturn, 1) := by decide +kernel
theorem dX10_text_0 : decode cX10_text 0 = .ok (.iload_n 1, 1) := by decide +kernel
theorem dX10_text_1 : decode cX10_text 1 = .ok (.iconst 1, 1) := by decide +kernel
theorem dX10_text_2 : decode cX10_text 2 = .ok (.bipush 8, 2) := by decide +kernel
theorem dX10_text_4 : decode cX10_text 4 = .ok (.invokestatic 108, 3) := by decide +kernel
theorem dX10_text_7 : decode cX10_text 7 = .ok (.ifCond .eq 17, 3) := by decide +kernel
theorem dX10_text_10 : decode cX10_text 10 = .ok (.iload_n 2, 1) := by decide +kernel
theorem dX10_text_11 : decode cX10_text 11 = .ok (.iconst 1, 1) := by decide +kernel
theorem dX10_text_12 : decode cX10_text 12 = .ok (.bipush 8, 2) := by decide +kernel
theorem dX10_text_14 : decode cX10_text 14 = .ok (.invokestatic 108, 3) := by decide +kernel
theorem dX10_text_17 : decode cX10_text 17 = .ok (.ifCond .eq 7, 3) := by decide +kernel
theorem dX10_text_20 : decode cX10_text 20 = .ok (.iconst 1, 1) := by decide +kernel
theorem dX10_text_21 : decode cX10_text 21 = .ok (.goto 4, 3) := by decide +kernel
theorem dX10_text_24 : decode cX10_text 24 = .ok (.iconst 0, 1) := by decide +kernel
theorem dX10_text_25 : decode cX10_text 25 = .ok (.istore_n 3, 1) := by decide +kernel
theorem dX10_text_26 : decode cX10_text 26 = .ok (.iload_n 3, 1) := by decide +kernel
theorem dX10_text_27 : decode cX10_text 27 = .ok (.ifCond .eq 14, 3) := by decide +kernel
theorem dX10_text_30 : decode cX10_text 30 = .ok (.aload_n 0, 1) := by decide +kernel
theorem dX10_text_31 : decode cX10_text 31 = .ok (.getfield 80, 3) := by decide +kernel
theorem dX10_text_34 : decode cX10_text 34 = .ok (.aload_n 0, 1) := by decide +kernel
theorem dX10_text_35 : decode cX10_text 35 = .ok (.getfield 72, 3) := by decide +kernel
theorem dX10_text_38 : decode cX10_text 38 = .ok (.invokevirtual 112, 3) := by decide +kernel
theorem dX10_text_41 : decode cX10_text 41 = .ok (.aload_n 0, 1) := by decide +kernel
theorem dX10_text_42 : decode cX10_text 42 = .ok (.getfield 12, 3) := by decide +kernel
theorem dX10_text_45 : decode cX10_text 45 = .ok (.iconst 0, 1) := by decide +kernel
theorem dX10_text_46 : decode cX10_text 46 = .ok (.putfield 101, 3) := by decide +kernel
theorem dX10_text_49 : decode cX10_text 49 = .ok (.iload_n 3, 1) := by decide +kernel
theorem dX10_text_50 : decode cX10_text 50 = .ok (.ifCond .ne 6, 3) := by decide +kernel
theorem dX10_text_53 : decode cX10_text 53 = .ok (.bipush (-2), 2) := by decide +kernel
theorem dX10_text_55 : decode cX10_text 55 = .ok (.ireturn, 1) := by decide +kernel
theorem dX10_text_56 : decode cX10_text 56 = .ok (.aload_n 0, 1) := by decide +kernel
theorem dX10_text_57 : decode cX10_text 57 = .ok (.aload_n 0, 1) := by decide +kernel
theorem dX10_text_58 : decode cX10_text 58 = .ok (.getfield 80, 3) := by decide +kernel
theorem dX10_text_61 : decode cX10_text 61 = .ok (.getfield 116, 3) := by decide +kernel
theorem dX10_text_64 : decode cX10_text 64 = .ok (.putfield 91, 3) := by decide +kernel
theorem dX10_text_67 : decode cX10_text 67 = .ok (.aload_n 0, 1) := by decide +kernel
theorem dX10_text_68 : decode cX10_text 68 = .ok (.aload_n 0, 1) := by decide +kernel
theorem dX10_text_69 : decode cX10_text 69 = .ok (.getfield 80, 3) := by decide +kernel
theorem dX10_text_72 : decode cX10_text 72 = .ok (.getfield 117, 3) := by decide +kernel
theorem dX10_text_75 : decode cX10_text 75 = .ok (.putfield 94, 3) := by decide +kernel
theorem dX10_text_78 : decode cX10_text 78 = .ok (.aload_n 0, 1) := by decide +kernel
theorem dX10_text_79 : decode cX10_text 79 = .ok (.getfield 91, 3) := by decide +kernel
theorem dX10_text_82 : decode cX10_text 82 = .ok (.ifCond .eq 5, 3) := by decide +kernel
theorem dX10_text_87 : decode cX10_text 87 = .ok (.aload_n 0, 1) := by decide +kernel
theorem dX10_text_88 : decode cX10_text 88 = .ok (.getfield 68, 3) := by decide +kernel
theorem dX10_text_91 : decode cX10_text 91 = .ok (.astore 4, 2) := by decide +kernel
