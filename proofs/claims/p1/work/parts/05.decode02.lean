theorem dX10_all_94 : decode cX10_all 94 = .ok (.iconst (-1), 1) := by decide +kernel
theorem dX10_all_95 : decode cX10_all 95 = .ok (.ireturn, 1) := by decide +kernel
theorem dX2_countHooks_0 : decode cX2_countHooks 0 = .ok (.iconst 0, 1) := by decide +kernel
theorem dX2_countHooks_1 : decode cX2_countHooks 1 = .ok (.istore_n 1, 1) := by decide +kernel
theorem dX2_countHooks_2 : decode cX2_countHooks 2 = .ok (.iconst 0, 1) := by decide +kernel
theorem dX2_countHooks_3 : decode cX2_countHooks 3 = .ok (.istore_n 2, 1) := by decide +kernel
theorem dX2_countHooks_4 : decode cX2_countHooks 4 = .ok (.iload_n 2, 1) := by decide +kernel
theorem dX2_countHooks_5 : decode cX2_countHooks 5 = .ok (.aload_n 0, 1) := by decide +kernel
theorem dX2_countHooks_6 : decode cX2_countHooks 6 = .ok (.getfield 50, 3) := by decide +kernel
theorem dX2_countHooks_9 : decode cX2_countHooks 9 = .ok (.if_icmp .ge 20, 3) := by decide +kernel
theorem dX2_countHooks_12 : decode cX2_countHooks 12 = .ok (.aload_n 0, 1) := by decide +kernel
theorem dX2_countHooks_13 : decode cX2_countHooks 13 = .ok (.iload_n 2, 1) := by decide +kernel
theorem dX2_countHooks_14 : decode cX2_countHooks 14 = .ok (.invokevirtual 92, 3) := by decide +kernel
theorem dX2_countHooks_17 : decode cX2_countHooks 17 = .ok (.ifCond .eq 6, 3) := by decide +kernel
theorem dX2_countHooks_23 : decode cX2_countHooks 23 = .ok (.iinc 2 1, 3) := by decide +kernel
theorem dX2_countHooks_26 : decode cX2_countHooks 26 = .ok (.goto (-22), 3) := by decide +kernel
theorem dX2_countHooks_29 : decode cX2_countHooks 29 = .ok (.iload_n 1, 1) := by decide +kernel
theorem dX2_countHooks_30 : decode cX2_countHooks 30 = .ok (.ireturn, 1) := by decide +kernel
theorem dX11_feed_0 : decode cX11_feed 0 = .ok (.aload_n 0, 1) := by decide +kernel
theorem dX11_feed_1 : decode cX11_feed 1 = .ok (.getfield 257, 3) := by decide +kernel
theorem dX11_feed_4 : decode cX11_feed 4 = .ok (.bipush 20, 2) := by decide +kernel
theorem dX11_feed_6 : decode cX11_feed 6 = .ok (.iadd, 1) := by decide +kernel
theorem dX11_feed_7 : decode cX11_feed 7 = .ok (.sipush 700, 3) := by decide +kernel
theorem dX11_feed_10 : decode cX11_feed 10 = .ok (.if_icmp .le 5, 3) := by decide +kernel
theorem dX11_feed_15 : decode cX11_feed 15 = .ok (.iconst 0, 1) := by decide +kernel
theorem dX11_feed_16 : decode cX11_feed 16 = .ok (.istore 6, 2) := by decide +kernel
theorem dX11_feed_18 : decode cX11_feed 18 = .ok (.iload 6, 2) := by decide +kernel
theorem dX11_feed_20 : decode cX11_feed 20 = .ok (.bipush 20, 2) := by decide +kernel
theorem dX11_feed_22 : decode cX11_feed 22 = .ok (.if_icmp .ge 92, 3) := by decide +kernel
theorem dX11_feed_25 : decode cX11_feed 25 = .ok (.iload 6, 2) := by decide +kernel
theorem dX11_feed_27 : decode cX11_feed 27 = .ok (.iconst 4, 1) := by decide +kernel
theorem dX11_feed_28 : decode cX11_feed 28 = .ok (.if_icmp .ge 7, 3) := by decide +kernel
theorem dX11_feed_31 : decode cX11_feed 31 = .ok (.iload_n 1, 1) := by decide +kernel
theorem dX11_feed_32 : decode cX11_feed 32 = .ok (.goto 39, 3) := by decide +kernel
theorem dX11_feed_35 : decode cX11_feed 35 = .ok (.iload 6, 2) := by decide +kernel
theorem dX11_feed_37 : decode cX11_feed 37 = .ok (.bipush 8, 2) := by decide +kernel
theorem dX11_feed_39 : decode cX11_feed 39 = .ok (.if_icmp .ge 7, 3) := by decide +kernel
theorem dX11_feed_42 : decode cX11_feed 42 = .ok (.iload_n 2, 1) := by decide +kernel
theorem dX11_feed_43 : decode cX11_feed 43 = .ok (.goto 28, 3) := by decide +kernel
theorem dX11_feed_46 : decode cX11_feed 46 = .ok (.iload 6, 2) := by decide +kernel
theorem dX11_feed_48 : decode cX11_feed 48 = .ok (.bipush 12, 2) := by decide +kernel
theorem dX11_feed_50 : decode cX11_feed 50 = .ok (.if_icmp .ge 7, 3) := by decide +kernel
theorem dX11_feed_53 : decode cX11_feed 53 = .ok (.iload_n 3, 1) := by decide +kernel
theorem dX11_feed_54 : decode cX11_feed 54 = .ok (.goto 17, 3) := by decide +kernel
theorem dX11_feed_57 : decode cX11_feed 57 = .ok (.iload 6, 2) := by decide +kernel
theorem dX11_feed_59 : decode cX11_feed 59 = .ok (.bipush 16, 2) := by decide +kernel
theorem dX11_feed_61 : decode cX11_feed 61 = .ok (.if_icmp .ge 8, 3) := by decide +kernel
theorem dX11_feed_64 : decode cX11_feed 64 = .ok (.iload 4, 2) := by decide +kernel
theorem dX11_feed_66 : decode cX11_feed 66 = .ok (.goto 5, 3) := by decide +kernel
theorem dX11_feed_69 : decode cX11_feed 69 = .ok (.iload 5, 2) := by decide +kernel
theorem dX11_feed_71 : decode cX11_feed 71 = .ok (.istore 7, 2) := by decide +kernel
theorem dX11_feed_73 : decode cX11_feed 73 = .ok (.aload_n 0, 1) := by decide +kernel
theorem dX11_feed_74 : decode cX11_feed 74 = .ok (.getfield 7, 3) := by decide +kernel
theorem dX11_feed_77 : decode cX11_feed 77 = .ok (.aload_n 0, 1) := by decide +kernel
theorem dX11_feed_78 : decode cX11_feed 78 = .ok (.getfield 257, 3) := by decide +kernel
theorem dX11_feed_81 : decode cX11_feed 81 = .ok (.iload 7, 2) := by decide +kernel
theorem dX11_feed_83 : decode cX11_feed 83 = .ok (.bipush 8, 2) := by decide +kernel
theorem dX11_feed_85 : decode cX11_feed 85 = .ok (.iconst 3, 1) := by decide +kernel
theorem dX11_feed_86 : decode cX11_feed 86 = .ok (.iload 6, 2) := by decide +kernel
theorem dX11_feed_88 : decode cX11_feed 88 = .ok (.iconst 4, 1) := by decide +kernel
theorem dX11_feed_89 : decode cX11_feed 89 = .ok (.irem, 1) := by decide +kernel
theorem dX11_feed_90 : decode cX11_feed 90 = .ok (.isub, 1) := by decide +kernel
theorem dX11_feed_91 : decode cX11_feed 91 = .ok (.imul, 1) := by decide +kernel
theorem dX11_feed_92 : decode cX11_feed 92 = .ok (.ishr, 1) := by decide +kernel
theorem dX11_feed_93 : decode cX11_feed 93 = .ok (.sipush 255, 3) := by decide +kernel
theorem dX11_feed_96 : decode cX11_feed 96 = .ok (.iand, 1) := by decide +kernel
theorem dX11_feed_97 : decode cX11_feed 97 = .ok (.iastore, 1) := by decide +kernel
theorem dX11_feed_98 : decode cX11_feed 98 = .ok (.aload_n 0, 1) := by decide +kernel
theorem dX11_feed_99 : decode cX11_feed 99 = .ok (.dup, 1) := by decide +kernel
theorem dX11_feed_100 : decode cX11_feed 100 = .ok (.getfield 257, 3) := by decide +kernel
theorem dX11_feed_103 : decode cX11_feed 103 = .ok (.iconst 1, 1) := by decide +kernel
theorem dX11_feed_104 : decode cX11_feed 104 = .ok (.iadd, 1) := by decide +kernel
theorem dX11_feed_105 : decode cX11_feed 105 = .ok (.putfield 257, 3) := by decide +kernel
theorem dX11_feed_108 : decode cX11_feed 108 = .ok (.iinc 6 1, 3) := by decide +kernel
theorem dX11_feed_111 : decode cX11_feed 111 = .ok (.goto (-93), 3) := by decide +kernel
theorem dX11_feed_114 : decode cX11_feed 114 = .ok (.aload_n 0, 1) := by decide +kernel
theorem dX11_feed_115 : decode cX11_feed 115 = .ok (.getfield 257, 3) := by decide +kernel
theorem dX11_feed_118 : decode cX11_feed 118 = .ok (.ireturn, 1) := by decide +kernel
theorem dX11_end_0 : decode cX11_end 0 = .ok (.iload_n 1, 1) := by decide +kernel
theorem dX11_end_1 : decode cX11_end 1 = .ok (.ifCond .lt 11, 3) := by decide +kernel
theorem dX11_end_4 : decode cX11_end 4 = .ok (.iload_n 1, 1) := by decide +kernel
theorem dX11_end_5 : decode cX11_end 5 = .ok (.aload_n 0, 1) := by decide +kernel
theorem dX11_end_6 : decode cX11_end 6 = .ok (.getfield 257, 3) := by decide +kernel
theorem dX11_end_9 : decode cX11_end 9 = .ok (.if_icmp .le 5, 3) := by decide +kernel
theorem dX11_end_12 : decode cX11_end 12 = .ok (.iconst 0, 1) := by decide +kernel
theorem dX11_end_13 : decode cX11_end 13 = .ok (.ireturn, 1) := by decide +kernel
theorem dX11_end_14 : decode cX11_end 14 = .ok (.aload_n 0, 1) := by decide +kernel
theorem dX11_end_15 : decode cX11_end 15 = .ok (.iload_n 1, 1) := by decide +kernel
theorem dX11_end_16 : decode cX11_end 16 = .ok (.putfield 257, 3) := by decide +kernel
theorem dX11_end_19 : decode cX11_end 19 = .ok (.iconst 1, 1) := by decide +kernel
theorem dX11_end_20 : decode cX11_end 20 = .ok (.ireturn, 1) := by decide +kernel
theorem dX11_text_0 : decode cX11_text 0 = .ok (.iload_n 1, 1) := by decide +kernel
theorem dX11_text_1 : decode cX11_text 1 = .ok (.i2l, 1) := by decide +kernel
theorem dX11_text_2 : decode cX11_text 2 = .ok (.lconst 1, 1) := by decide +kernel
theorem dX11_text_3 : decode cX11_text 3 = .ok (.ldc2_w 401, 3) := by decide +kernel
theorem dX11_text_6 : decode cX11_text 6 = .ok (.invokestatic 300, 3) := by decide +kernel
theorem dX11_text_9 : decode cX11_text 9 = .ok (.ifCond .eq 15, 3) := by decide +kernel
theorem dX11_text_12 : decode cX11_text 12 = .ok (.iload_n 2, 1) := by decide +kernel
theorem dX11_text_13 : decode cX11_text 13 = .ok (.i2l, 1) := by decide +kernel
theorem dX11_text_14 : decode cX11_text 14 = .ok (.lconst 1, 1) := by decide +kernel
theorem dX11_text_15 : decode cX11_text 15 = .ok (.ldc2_w 401, 3) := by decide +kernel
theorem dX11_text_18 : decode cX11_text 18 = .ok (.invokestatic 300, 3) := by decide +kernel
theorem dX11_text_21 : decode cX11_text 21 = .ok (.ifCond .ne 11, 3) := by decide +kernel
theorem dX11_text_24 : decode cX11_text 24 = .ok (.aload_n 0, 1) := by decide +kernel
theorem dX11_text_25 : decode cX11_text 25 = .ok (.iconst 0, 1) := by decide +kernel
theorem dX11_text_26 : decode cX11_text 26 = .ok (.putfield 257, 3) := by decide +kernel
theorem dX11_text_29 : decode cX11_text 29 = .ok (.bipush (-2), 2) := by decide +kernel
theorem dX11_text_31 : decode cX11_text 31 = .ok (.ireturn, 1) := by decide +kernel
theorem dX11_text_32 : decode cX11_text 32 = .ok (.aload_n 0, 1) := by decide +kernel
theorem dX11_text_33 : decode cX11_text 33 = .ok (.aload_n 0, 1) := by decide +kernel
theorem dX11_text_34 : decode cX11_text 34 = .ok (.getfield 257, 3) := by decide +kernel
theorem dX11_text_37 : decode cX11_text 37 = .ok (.putfield 269, 3) := by decide +kernel
theorem dX11_text_40 : decode cX11_text 40 = .ok (.aload_n 0, 1) := by decide +kernel
theorem dX11_text_41 : decode cX11_text 41 = .ok (.iconst 0, 1) := by decide +kernel
theorem dX11_text_42 : decode cX11_text 42 = .ok (.putfield 257, 3) := by decide +kernel
theorem dX11_text_45 : decode cX11_text 45 = .ok (.aload_n 0, 1) := by decide +kernel
theorem dX11_text_46 : decode cX11_text 46 = .ok (.iconst 0, 1) := by decide +kernel
theorem dX11_text_47 : decode cX11_text 47 = .ok (.putfield 266, 3) := by decide +kernel
theorem dX11_text_50 : decode cX11_text 50 = .ok (.aload_n 0, 1) := by decide +kernel
theorem dX11_text_51 : decode cX11_text 51 = .ok (.iconst (-1), 1) := by decide +kernel
theorem dX11_text_52 : decode cX11_text 52 = .ok (.putfield 280, 3) := by decide +kernel
theorem dX11_text_55 : decode cX11_text 55 = .ok (.aload_n 0, 1) := by decide +kernel
theorem dX11_text_56 : decode cX11_text 56 = .ok (.iconst 0, 1) := by decide +kernel
theorem dX11_text_57 : decode cX11_text 57 = .ok (.putfield 260, 3) := by decide +kernel
theorem dX11_text_60 : decode cX11_text 60 = .ok (.aload_n 0, 1) := by decide +kernel
theorem dX11_text_61 : decode cX11_text 61 = .ok (.iconst (-1), 1) := by decide +kernel
theorem dX11_text_62 : decode cX11_text 62 = .ok (.putfield 263, 3) := by decide +kernel
theorem dX11_text_65 : decode cX11_text 65 = .ok (.aload_n 0, 1) := by decide +kernel
theorem dX11_text_66 : decode cX11_text 66 = .ok (.getfield 81, 3) := by decide +kernel
theorem dX11_text_69 : decode cX11_text 69 = .ok (.iconst 0, 1) := by decide +kernel
theorem dX11_text_70 : decode cX11_text 70 = .ok (.iconst 0, 1) := by decide +kernel
theorem dX11_text_71 : decode cX11_text 71 = .ok (.iastore, 1) := by decide +kernel
theorem dX11_text_72 : decode cX11_text 72 = .ok (.aload_n 0, 1) := by decide +kernel
theorem dX11_text_73 : decode cX11_text 73 = .ok (.getfield 100, 3) := by decide +kernel
theorem dX11_text_76 : decode cX11_text 76 = .ok (.iconst 0, 1) := by decide +kernel
theorem dX11_text_77 : decode cX11_text 77 = .ok (.iconst 0, 1) := by decide +kernel
theorem dX11_text_78 : decode cX11_text 78 = .ok (.iastore, 1) := by decide +kernel
theorem dX11_text_79 : decode cX11_text 79 = .ok (.aload_n 0, 1) := by decide +kernel
theorem dX11_text_80 : decode cX11_text 80 = .ok (.iconst 0, 1) := by decide +kernel
theorem dX11_text_81 : decode cX11_text 81 = .ok (.putfield 323, 3) := by decide +kernel
theorem dX11_text_84 : decode cX11_text 84 = .ok (.aload_n 0, 1) := by decide +kernel
theorem dX11_text_85 : decode cX11_text 85 = .ok (.iconst 0, 1) := by decide +kernel
theorem dX11_text_86 : decode cX11_text 86 = .ok (.putfield 392, 3) := by decide +kernel
theorem dX11_text_89 : decode cX11_text 89 = .ok (.aload_n 0, 1) := by decide +kernel
theorem dX11_text_90 : decode cX11_text 90 = .ok (.getfield 260, 3) := by decide +kernel
theorem dX11_text_93 : decode cX11_text 93 = .ok (.ifCond .ne 18, 3) := by decide +kernel
theorem dX11_text_96 : decode cX11_text 96 = .ok (.aload_n 0, 1) := by decide +kernel
theorem dX11_text_97 : decode cX11_text 97 = .ok (.invokevirtual 272, 3) := by decide +kernel
theorem dX11_text_100 : decode cX11_text 100 = .ok (.iconst (-1), 1) := by decide +kernel
theorem dX11_text_101 : decode cX11_text 101 = .ok (.if_icmp .eq 10, 3) := by decide +kernel
theorem dX11_text_111 : decode cX11_text 111 = .ok (.aload_n 0, 1) := by decide +kernel
theorem dX11_text_112 : decode cX11_text 112 = .ok (.aload_n 0, 1) := by decide +kernel
theorem dX11_text_113 : decode cX11_text 113 = .ok (.getfield 260, 3) := by decide +kernel
theorem dX11_text_116 : decode cX11_text 116 = .ok (.putfield 406, 3) := by decide +kernel
theorem dX11_text_119 : decode cX11_text 119 = .ok (.aload_n 0, 1) := by decide +kernel
theorem dX11_text_120 : decode cX11_text 120 = .ok (.aload_n 0, 1) := by decide +kernel
theorem dX11_text_121 : decode cX11_text 121 = .ok (.getfield 263, 3) := by decide +kernel
theorem dX11_text_124 : decode cX11_text 124 = .ok (.putfield 13, 3) := by decide +kernel
theorem dX11_text_127 : decode cX11_text 127 = .ok (.aload_n 0, 1) := by decide +kernel
theorem dX11_text_128 : decode cX11_text 128 = .ok (.getfield 260, 3) := by decide +kernel
theorem dX11_text_131 : decode cX11_text 131 = .ok (.ifCond .eq 5, 3) := by decide +kernel
theorem dX11_text_136 : decode cX11_text 136 = .ok (.aload_n 0, 1) := by decide +kernel
theorem dX11_text_137 : decode cX11_text 137 = .ok (.invokevirtual 409, 3) := by decide +kernel
theorem dX11_text_140 : decode cX11_text 140 = .ok (.aload_n 0, 1) := by decide +kernel
theorem dX11_text_141 : decode cX11_text 141 = .ok (.iload_n 1, 1) := by decide +kernel
theorem dX11_text_142 : decode cX11_text 142 = .ok (.putfield 121, 3) := by decide +kernel
theorem dX11_text_145 : decode cX11_text 145 = .ok (.aload_n 0, 1) := by decide +kernel
theorem dX11_text_146 : decode cX11_text 146 = .ok (.iload_n 2, 1) := by decide +kernel
theorem dX11_text_147 : decode cX11_text 147 = .ok (.putfield 124, 3) := by decide +kernel
theorem dX11_text_150 : decode cX11_text 150 = .ok (.aload_n 0, 1) := by decide +kernel
theorem dX11_text_151 : decode cX11_text 151 = .ok (.iconst 0, 1) := by decide +kernel
theorem dX11_text_152 : decode cX11_text 152 = .ok (.putfield 412, 3) := by decide +kernel
theorem dX11_text_155 : decode cX11_text 155 = .ok (.aload_n 0, 1) := by decide +kernel
theorem dX11_text_156 : decode cX11_text 156 = .ok (.iconst (-1), 1) := by decide +kernel
theorem dX11_text_157 : decode cX11_text 157 = .ok (.putfield 145, 3) := by decide +kernel
theorem dX11_text_160 : decode cX11_text 160 = .ok (.aload_n 0, 1) := by decide +kernel
theorem dX11_text_161 : decode cX11_text 161 = .ok (.iconst (-1), 1) := by decide +kernel
theorem dX11_text_162 : decode cX11_text 162 = .ok (.putfield 148, 3) := by decide +kernel
theorem dX11_text_165 : decode cX11_text 165 = .ok (.aload_n 0, 1) := by decide +kernel
theorem dX11_text_166 : decode cX11_text 166 = .ok (.iconst (-1), 1) := by decide +kernel
theorem dX11_text_167 : decode cX11_text 167 = .ok (.putfield 172, 3) := by decide +kernel
theorem dX11_text_170 : decode cX11_text 170 = .ok (.aload_n 0, 1) := by decide +kernel
theorem dX11_text_171 : decode cX11_text 171 = .ok (.iconst 0, 1) := by decide +kernel
theorem dX11_text_172 : decode cX11_text 172 = .ok (.putfield 415, 3) := by decide +kernel
theorem dX11_text_175 : decode cX11_text 175 = .ok (.aload_n 0, 1) := by decide +kernel
theorem dX11_text_176 : decode cX11_text 176 = .ok (.iconst (-1), 1) := by decide +kernel
theorem dX11_text_177 : decode cX11_text 177 = .ok (.putfield 212, 3) := by decide +kernel
theorem dX11_text_180 : decode cX11_text 180 = .ok (.aload_n 0, 1) := by decide +kernel
theorem dX11_text_181 : decode cX11_text 181 = .ok (.iconst (-1), 1) := by decide +kernel
theorem dX11_text_182 : decode cX11_text 182 = .ok (.putfield 227, 3) := by decide +kernel
theorem dX11_text_185 : decode cX11_text 185 = .ok (.aload_n 0, 1) := by decide +kernel
theorem dX11_text_186 : decode cX11_text 186 = .ok (.getfield 392, 3) := by decide +kernel
theorem dX11_text_189 : decode cX11_text 189 = .ok (.ireturn, 1) := by decide +kernel
theorem dX11_isIn_0 : decode cX11_isIn 0 = .ok (.lload_n 0, 1) := by decide +kernel
theorem dX11_isIn_1 : decode cX11_isIn 1 = .ok (.lload_n 2, 1) := by decide +kernel
theorem dX11_isIn_2 : decode cX11_isIn 2 = .ok (.lcmp, 1) := by decide +kernel
theorem dX11_isIn_3 : decode cX11_isIn 3 = .ok (.ifCond .lt 14, 3) := by decide +kernel
theorem dX11_isIn_6 : decode cX11_isIn 6 = .ok (.lload_n 0, 1) := by decide +kernel
theorem dX11_isIn_7 : decode cX11_isIn 7 = .ok (.lload 4, 2) := by decide +kernel
theorem dX11_isIn_9 : decode cX11_isIn 9 = .ok (.lcmp, 1) := by decide +kernel
theorem dX11_isIn_10 : decode cX11_isIn 10 = .ok (.ifCond .gt 7, 3) := by decide +kernel
theorem dX11_isIn_13 : decode cX11_isIn 13 = .ok (.iconst 1, 1) := by decide +kernel
theorem dX11_isIn_14 : decode cX11_isIn 14 = .ok (.goto 4, 3) := by decide +kernel
theorem dX11_isIn_17 : decode cX11_isIn 17 = .ok (.iconst 0, 1) := by decide +kernel
theorem dX11_isIn_18 : decode cX11_isIn 18 = .ok (.ireturn, 1) := by decide +kernel
theorem dX11_look_0 : decode cX11_look 0 = .ok (.aload_n 0, 1) := by decide +kernel
theorem dX11_look_1 : decode cX11_look 1 = .ok (.getfield 266, 3) := by decide +kernel
theorem dX11_look_4 : decode cX11_look 4 = .ok (.aload_n 0, 1) := by decide +kernel
theorem dX11_look_5 : decode cX11_look 5 = .ok (.getfield 269, 3) := by decide +kernel
theorem dX11_look_8 : decode cX11_look 8 = .ok (.if_icmp .ge 44, 3) := by decide +kernel
theorem dX11_look_52 : decode cX11_look 52 = .ok (.aload_n 0, 1) := by decide +kernel
theorem dX11_look_53 : decode cX11_look 53 = .ok (.getfield 266, 3) := by decide +kernel
theorem dX11_look_56 : decode cX11_look 56 = .ok (.aload_n 0, 1) := by decide +kernel
theorem dX11_look_57 : decode cX11_look 57 = .ok (.getfield 269, 3) := by decide +kernel
theorem dX11_look_60 : decode cX11_look 60 = .ok (.if_icmp .ge 15, 3) := by decide +kernel
theorem dX11_look_75 : decode cX11_look 75 = .ok (.iconst (-1), 1) := by decide +kernel
theorem dX11_look_76 : decode cX11_look 76 = .ok (.ireturn, 1) := by decide +kernel
theorem dX11_stands_0 : decode cX11_stands 0 = .ok (.aload_n 0, 1) := by decide +kernel
theorem dX11_stands_1 : decode cX11_stands 1 = .ok (.getfield 81, 3) := by decide +kernel
theorem dX11_stands_4 : decode cX11_stands 4 = .ok (.iconst 1, 1) := by decide +kernel
theorem dX11_stands_5 : decode cX11_stands 5 = .ok (.aload_n 0, 1) := by decide +kernel
theorem dX11_stands_6 : decode cX11_stands 6 = .ok (.getfield 81, 3) := by decide +kernel
theorem dX11_stands_9 : decode cX11_stands 9 = .ok (.iconst 0, 1) := by decide +kernel
theorem dX11_stands_10 : decode cX11_stands 10 = .ok (.iaload, 1) := by decide +kernel
theorem dX11_stands_11 : decode cX11_stands 11 = .ok (.iastore, 1) := by decide +kernel
theorem dX11_stands_12 : decode cX11_stands 12 = .ok (.aload_n 0, 1) := by decide +kernel
theorem dX11_stands_13 : decode cX11_stands 13 = .ok (.getfield 100, 3) := by decide +kernel
theorem dX11_stands_16 : decode cX11_stands 16 = .ok (.iconst 1, 1) := by decide +kernel
theorem dX11_stands_17 : decode cX11_stands 17 = .ok (.aload_n 0, 1) := by decide +kernel
theorem dX11_stands_18 : decode cX11_stands 18 = .ok (.getfield 100, 3) := by decide +kernel
theorem dX11_stands_21 : decode cX11_stands 21 = .ok (.iconst 0, 1) := by decide +kernel
theorem dX11_stands_22 : decode cX11_stands 22 = .ok (.iaload, 1) := by decide +kernel
theorem dX11_stands_23 : decode cX11_stands 23 = .ok (.iastore, 1) := by decide +kernel
theorem dX11_stands_24 : decode cX11_stands 24 = .ok (.iconst 0, 1) := by decide +kernel
theorem dX11_stands_25 : decode cX11_stands 25 = .ok (.istore_n 1, 1) := by decide +kernel
theorem dX11_stands_26 : decode cX11_stands 26 = .ok (.iload_n 1, 1) := by decide +kernel
theorem dX11_stands_27 : decode cX11_stands 27 = .ok (.bipush 8, 2) := by decide +kernel
theorem dX11_stands_29 : decode cX11_stands 29 = .ok (.if_icmp .ge 69, 3) := by decide +kernel
theorem dX11_stands_32 : decode cX11_stands 32 = .ok (.aload_n 0, 1) := by decide +kernel
theorem dX11_stands_33 : decode cX11_stands 33 = .ok (.getfield 88, 3) := by decide +kernel
theorem dX11_stands_36 : decode cX11_stands 36 = .ok (.bipush 8, 2) := by decide +kernel
theorem dX11_stands_38 : decode cX11_stands 38 = .ok (.iload_n 1, 1) := by decide +kernel
theorem dX11_stands_39 : decode cX11_stands 39 = .ok (.iadd, 1) := by decide +kernel
theorem dX11_stands_40 : decode cX11_stands 40 = .ok (.aload_n 0, 1) := by decide +kernel
theorem dX11_stands_41 : decode cX11_stands 41 = .ok (.getfield 88, 3) := by decide +kernel
theorem dX11_stands_44 : decode cX11_stands 44 = .ok (.iload_n 1, 1) := by decide +kernel
theorem dX11_stands_45 : decode cX11_stands 45 = .ok (.iaload, 1) := by decide +kernel
theorem dX11_stands_46 : decode cX11_stands 46 = .ok (.iastore, 1) := by decide +kernel
theorem dX11_stands_47 : decode cX11_stands 47 = .ok (.aload_n 0, 1) := by decide +kernel
theorem dX11_stands_48 : decode cX11_stands 48 = .ok (.getfield 91, 3) := by decide +kernel
theorem dX11_stands_51 : decode cX11_stands 51 = .ok (.bipush 8, 2) := by decide +kernel
theorem dX11_stands_53 : decode cX11_stands 53 = .ok (.iload_n 1, 1) := by decide +kernel
theorem dX11_stands_54 : decode cX11_stands 54 = .ok (.iadd, 1) := by decide +kernel
theorem dX11_stands_55 : decode cX11_stands 55 = .ok (.aload_n 0, 1) := by decide +kernel
theorem dX11_stands_56 : decode cX11_stands 56 = .ok (.getfield 91, 3) := by decide +kernel
theorem dX11_stands_59 : decode cX11_stands 59 = .ok (.iload_n 1, 1) := by decide +kernel
theorem dX11_stands_60 : decode cX11_stands 60 = .ok (.iaload, 1) := by decide +kernel
theorem dX11_stands_61 : decode cX11_stands 61 = .ok (.iastore, 1) := by decide +kernel
theorem dX11_stands_62 : decode cX11_stands 62 = .ok (.aload_n 0, 1) := by decide +kernel
theorem dX11_stands_63 : decode cX11_stands 63 = .ok (.getfield 94, 3) := by decide +kernel
theorem dX11_stands_66 : decode cX11_stands 66 = .ok (.bipush 8, 2) := by decide +kernel
theorem dX11_stands_68 : decode cX11_stands 68 = .ok (.iload_n 1, 1) := by decide +kernel
theorem dX11_stands_69 : decode cX11_stands 69 = .ok (.iadd, 1) := by decide +kernel
theorem dX11_stands_70 : decode cX11_stands 70 = .ok (.aload_n 0, 1) := by decide +kernel
theorem dX11_stands_71 : decode cX11_stands 71 = .ok (.getfield 94, 3) := by decide +kernel
theorem dX11_stands_74 : decode cX11_stands 74 = .ok (.iload_n 1, 1) := by decide +kernel
theorem dX11_stands_75 : decode cX11_stands 75 = .ok (.iaload, 1) := by decide +kernel
theorem dX11_stands_76 : decode cX11_stands 76 = .ok (.iastore, 1) := by decide +kernel
theorem dX11_stands_77 : decode cX11_stands 77 = .ok (.aload_n 0, 1) := by decide +kernel
theorem dX11_stands_78 : decode cX11_stands 78 = .ok (.getfield 97, 3) := by decide +kernel
theorem dX11_stands_81 : decode cX11_stands 81 = .ok (.bipush 8, 2) := by decide +kernel
theorem dX11_stands_83 : decode cX11_stands 83 = .ok (.iload_n 1, 1) := by decide +kernel
theorem dX11_stands_84 : decode cX11_stands 84 = .ok (.iadd, 1) := by decide +kernel
theorem dX11_stands_85 : decode cX11_stands 85 = .ok (.aload_n 0, 1) := by decide +kernel
theorem dX11_stands_86 : decode cX11_stands 86 = .ok (.getfield 97, 3) := by decide +kernel
theorem dX11_stands_89 : decode cX11_stands 89 = .ok (.iload_n 1, 1) := by decide +kernel
theorem dX11_stands_90 : decode cX11_stands 90 = .ok (.iaload, 1) := by decide +kernel
theorem dX11_stands_91 : decode cX11_stands 91 = .ok (.iastore, 1) := by decide +kernel
theorem dX11_stands_92 : decode cX11_stands 92 = .ok (.iinc 1 1, 3) := by decide +kernel
theorem dX11_stands_95 : decode cX11_stands 95 = .ok (.goto (-69), 3) := by decide +kernel
theorem dX11_stands_98 : decode cX11_stands 98 = .ok (.iconst 0, 1) := by decide +kernel
theorem dX11_stands_99 : decode cX11_stands 99 = .ok (.istore_n 1, 1) := by decide +kernel
theorem dX11_stands_100 : decode cX11_stands 100 = .ok (.iload_n 1, 1) := by decide +kernel
theorem dX11_stands_101 : decode cX11_stands 101 = .ok (.aload_n 0, 1) := by decide +kernel
theorem dX11_stands_102 : decode cX11_stands 102 = .ok (.getfield 100, 3) := by decide +kernel
theorem dX11_stands_105 : decode cX11_stands 105 = .ok (.iconst 0, 1) := by decide +kernel
theorem dX11_stands_106 : decode cX11_stands 106 = .ok (.iaload, 1) := by decide +kernel
theorem dX11_stands_107 : decode cX11_stands 107 = .ok (.if_icmp .ge 69, 3) := by decide +kernel
theorem dX11_stands_176 : decode cX11_stands 176 = .ok (.iconst 0, 1) := by decide +kernel
theorem dX11_stands_177 : decode cX11_stands 177 = .ok (.istore_n 1, 1) := by decide +kernel
theorem dX11_stands_178 : decode cX11_stands 178 = .ok (.iload_n 1, 1) := by decide +kernel
theorem dX11_stands_179 : decode cX11_stands 179 = .ok (.aload_n 0, 1) := by decide +kernel
theorem dX11_stands_180 : decode cX11_stands 180 = .ok (.getfield 323, 3) := by decide +kernel
theorem dX11_stands_183 : decode cX11_stands 183 = .ok (.if_icmp .ge 25, 3) := by decide +kernel
theorem dX11_stands_208 : decode cX11_stands 208 = .ok (.return_, 1) := by decide +kernel
theorem dX11_fault_0 : decode cX11_fault 0 = .ok (.iload_n 1, 1) := by decide +kernel
theorem dX11_fault_1 : decode cX11_fault 1 = .ok (.ifCond .ne 10, 3) := by decide +kernel
theorem dX11_fault_4 : decode cX11_fault 4 = .ok (.aload_n 0, 1) := by decide +kernel
theorem dX11_fault_5 : decode cX11_fault 5 = .ok (.getfield 406, 3) := by decide +kernel
theorem dX11_fault_8 : decode cX11_fault 8 = .ok (.goto 16, 3) := by decide +kernel
theorem dX11_fault_11 : decode cX11_fault 11 = .ok (.iload_n 1, 1) := by decide +kernel
theorem dX11_fault_12 : decode cX11_fault 12 = .ok (.iconst 1, 1) := by decide +kernel
theorem dX11_fault_13 : decode cX11_fault 13 = .ok (.if_icmp .ne 10, 3) := by decide +kernel
theorem dX11_fault_16 : decode cX11_fault 16 = .ok (.aload_n 0, 1) := by decide +kernel
theorem dX11_fault_17 : decode cX11_fault 17 = .ok (.getfield 13, 3) := by decide +kernel
theorem dX11_fault_20 : decode cX11_fault 20 = .ok (.goto 4, 3) := by decide +kernel
theorem dX11_fault_23 : decode cX11_fault 23 = .ok (.iconst (-1), 1) := by decide +kernel
theorem dX11_fault_24 : decode cX11_fault 24 = .ok (.ireturn, 1) := by decide +kernel
theorem dX11_kind_0 : decode cX11_kind 0 = .ok (.iload_n 1, 1) := by decide +kernel
theorem dX11_kind_1 : decode cX11_kind 1 = .ok (.i2l, 1) := by decide +kernel
theorem dX11_kind_2 : decode cX11_kind 2 = .ok (.lconst 0, 1) := by decide +kernel
theorem dX11_kind_3 : decode cX11_kind 3 = .ok (.aload_n 0, 1) := by decide +kernel
theorem dX11_kind_4 : decode cX11_kind 4 = .ok (.getfield 81, 3) := by decide +kernel
theorem dX11_kind_7 : decode cX11_kind 7 = .ok (.iconst 1, 1) := by decide +kernel
theorem dX11_kind_8 : decode cX11_kind 8 = .ok (.iaload, 1) := by decide +kernel
theorem dX11_kind_9 : decode cX11_kind 9 = .ok (.iconst 1, 1) := by decide +kernel
theorem dX11_kind_10 : decode cX11_kind 10 = .ok (.isub, 1) := by decide +kernel
theorem dX11_kind_11 : decode cX11_kind 11 = .ok (.i2l, 1) := by decide +kernel
theorem dX11_kind_12 : decode cX11_kind 12 = .ok (.invokestatic 300, 3) := by decide +kernel
theorem dX11_kind_15 : decode cX11_kind 15 = .ok (.ifCond .ne 5, 3) := by decide +kernel
theorem dX11_kind_18 : decode cX11_kind 18 = .ok (.iconst (-1), 1) := by decide +kernel
theorem dX11_kind_19 : decode cX11_kind 19 = .ok (.ireturn, 1) := by decide +kernel
theorem dX11_hook_0 : decode cX11_hook 0 = .ok (.aload_n 0, 1) := by decide +kernel
theorem dX11_hook_1 : decode cX11_hook 1 = .ok (.iload_n 1, 1) := by decide +kernel
theorem dX11_hook_2 : decode cX11_hook 2 = .ok (.invokevirtual 422, 3) := by decide +kernel
theorem dX11_hook_5 : decode cX11_hook 5 = .ok (.ifCond .eq 54, 3) := by decide +kernel
theorem dX11_hook_8 : decode cX11_hook 8 = .ok (.iload_n 2, 1) := by decide +kernel
theorem dX11_hook_9 : decode cX11_hook 9 = .ok (.i2l, 1) := by decide +kernel
theorem dX11_hook_10 : decode cX11_hook 10 = .ok (.lconst 0, 1) := by decide +kernel
theorem dX11_hook_11 : decode cX11_hook 11 = .ok (.aload_n 0, 1) := by decide +kernel
theorem dX11_hook_12 : decode cX11_hook 12 = .ok (.getfield 81, 3) := by decide +kernel
theorem dX11_hook_15 : decode cX11_hook 15 = .ok (.iconst 1, 1) := by decide +kernel
theorem dX11_hook_16 : decode cX11_hook 16 = .ok (.iaload, 1) := by decide +kernel
theorem dX11_hook_17 : decode cX11_hook 17 = .ok (.iconst 1, 1) := by decide +kernel
theorem dX11_hook_18 : decode cX11_hook 18 = .ok (.isub, 1) := by decide +kernel
theorem dX11_hook_19 : decode cX11_hook 19 = .ok (.i2l, 1) := by decide +kernel
theorem dX11_hook_20 : decode cX11_hook 20 = .ok (.invokestatic 300, 3) := by decide +kernel
theorem dX11_hook_23 : decode cX11_hook 23 = .ok (.ifCond .eq 36, 3) := by decide +kernel
theorem dX11_hook_59 : decode cX11_hook 59 = .ok (.iconst (-1), 1) := by decide +kernel
theorem dX11_hook_60 : decode cX11_hook 60 = .ok (.ireturn, 1) := by decide +kernel
theorem dX11_isCell_0 : decode cX11_isCell 0 = .ok (.iload_n 1, 1) := by decide +kernel
theorem dX11_isCell_1 : decode cX11_isCell 1 = .ok (.i2l, 1) := by decide +kernel
theorem dX11_isCell_2 : decode cX11_isCell 2 = .ok (.lconst 0, 1) := by decide +kernel
theorem dX11_isCell_3 : decode cX11_isCell 3 = .ok (.aload_n 0, 1) := by decide +kernel
theorem dX11_isCell_4 : decode cX11_isCell 4 = .ok (.invokevirtual 419, 3) := by decide +kernel
theorem dX11_isCell_7 : decode cX11_isCell 7 = .ok (.iconst 1, 1) := by decide +kernel
theorem dX11_isCell_8 : decode cX11_isCell 8 = .ok (.isub, 1) := by decide +kernel
theorem dX11_isCell_9 : decode cX11_isCell 9 = .ok (.i2l, 1) := by decide +kernel
theorem dX11_isCell_10 : decode cX11_isCell 10 = .ok (.invokestatic 300, 3) := by decide +kernel
theorem dX11_isCell_13 : decode cX11_isCell 13 = .ok (.ireturn, 1) := by decide +kernel
theorem dX11_cells_0 : decode cX11_cells 0 = .ok (.aload_n 0, 1) := by decide +kernel
theorem dX11_cells_1 : decode cX11_cells 1 = .ok (.getfield 121, 3) := by decide +kernel
theorem dX11_cells_4 : decode cX11_cells 4 = .ok (.aload_n 0, 1) := by decide +kernel
theorem dX11_cells_5 : decode cX11_cells 5 = .ok (.getfield 124, 3) := by decide +kernel
theorem dX11_cells_8 : decode cX11_cells 8 = .ok (.imul, 1) := by decide +kernel
theorem dX11_cells_9 : decode cX11_cells 9 = .ok (.ireturn, 1) := by decide +kernel
theorem dX11_loops_0 : decode cX11_loops 0 = .ok (.aload_n 0, 1) := by decide +kernel
theorem dX11_loops_1 : decode cX11_loops 1 = .ok (.iload_n 1, 1) := by decide +kernel
theorem dX11_loops_2 : decode cX11_loops 2 = .ok (.invokevirtual 422, 3) := by decide +kernel
theorem dX11_loops_5 : decode cX11_loops 5 = .ok (.ifCond .eq 36, 3) := by decide +kernel
theorem dX11_loops_8 : decode cX11_loops 8 = .ok (.iload_n 2, 1) := by decide +kernel
theorem dX11_loops_9 : decode cX11_loops 9 = .ok (.i2l, 1) := by decide +kernel
theorem dX11_loops_10 : decode cX11_loops 10 = .ok (.lconst 0, 1) := by decide +kernel
theorem dX11_loops_11 : decode cX11_loops 11 = .ok (.ldc2_w 431, 3) := by decide +kernel
theorem dX11_loops_14 : decode cX11_loops 14 = .ok (.invokestatic 300, 3) := by decide +kernel
theorem dX11_loops_17 : decode cX11_loops 17 = .ok (.ifCond .eq 24, 3) := by decide +kernel
theorem dX11_loops_20 : decode cX11_loops 20 = .ok (.aload_n 0, 1) := by decide +kernel
theorem dX11_loops_21 : decode cX11_loops 21 = .ok (.getfield 412, 3) := by decide +kernel
theorem dX11_loops_24 : decode cX11_loops 24 = .ok (.bipush 120, 2) := by decide +kernel
theorem dX11_loops_26 : decode cX11_loops 26 = .ok (.if_icmp .ge 15, 3) := by decide +kernel
theorem dX11_loops_29 : decode cX11_loops 29 = .ok (.aload_n 0, 1) := by decide +kernel
theorem dX11_loops_30 : decode cX11_loops 30 = .ok (.iconst 2, 1) := by decide +kernel
theorem dX11_loops_31 : decode cX11_loops 31 = .ok (.iload_n 1, 1) := by decide +kernel
theorem dX11_loops_32 : decode cX11_loops 32 = .ok (.iload_n 2, 1) := by decide +kernel
theorem dX11_loops_33 : decode cX11_loops 33 = .ok (.iconst 0, 1) := by decide +kernel
theorem dX11_loops_34 : decode cX11_loops 34 = .ok (.iconst 0, 1) := by decide +kernel
theorem dX11_loops_35 : decode cX11_loops 35 = .ok (.invokevirtual 427, 3) := by decide +kernel
theorem dX11_loops_38 : decode cX11_loops 38 = .ok (.goto 4, 3) := by decide +kernel
theorem dX11_loops_41 : decode cX11_loops 41 = .ok (.iconst (-1), 1) := by decide +kernel
theorem dX11_loops_42 : decode cX11_loops 42 = .ok (.ireturn, 1) := by decide +kernel
theorem dX11_act_0 : decode cX11_act 0 = .ok (.aload_n 0, 1) := by decide +kernel
theorem dX11_act_1 : decode cX11_act 1 = .ok (.dup, 1) := by decide +kernel
theorem dX11_act_2 : decode cX11_act 2 = .ok (.getfield 412, 3) := by decide +kernel
theorem dX11_act_5 : decode cX11_act 5 = .ok (.iconst 1, 1) := by decide +kernel
theorem dX11_act_6 : decode cX11_act 6 = .ok (.iadd, 1) := by decide +kernel
theorem dX11_act_7 : decode cX11_act 7 = .ok (.putfield 412, 3) := by decide +kernel
theorem dX11_act_10 : decode cX11_act 10 = .ok (.aload_n 0, 1) := by decide +kernel
theorem dX11_act_11 : decode cX11_act 11 = .ok (.getfield 127, 3) := by decide +kernel
theorem dX11_act_14 : decode cX11_act 14 = .ok (.aload_n 0, 1) := by decide +kernel
theorem dX11_act_15 : decode cX11_act 15 = .ok (.getfield 412, 3) := by decide +kernel
theorem dX11_act_18 : decode cX11_act 18 = .ok (.iload_n 1, 1) := by decide +kernel
theorem dX11_act_19 : decode cX11_act 19 = .ok (.iastore, 1) := by decide +kernel
theorem dX11_act_20 : decode cX11_act 20 = .ok (.aload_n 0, 1) := by decide +kernel
theorem dX11_act_21 : decode cX11_act 21 = .ok (.getfield 130, 3) := by decide +kernel
theorem dX11_act_24 : decode cX11_act 24 = .ok (.aload_n 0, 1) := by decide +kernel
theorem dX11_act_25 : decode cX11_act 25 = .ok (.getfield 412, 3) := by decide +kernel
theorem dX11_act_28 : decode cX11_act 28 = .ok (.iload_n 2, 1) := by decide +kernel
theorem dX11_act_29 : decode cX11_act 29 = .ok (.iastore, 1) := by decide +kernel
theorem dX11_act_30 : decode cX11_act 30 = .ok (.aload_n 0, 1) := by decide +kernel
theorem dX11_act_31 : decode cX11_act 31 = .ok (.getfield 133, 3) := by decide +kernel
theorem dX11_act_34 : decode cX11_act 34 = .ok (.aload_n 0, 1) := by decide +kernel
theorem dX11_act_35 : decode cX11_act 35 = .ok (.getfield 412, 3) := by decide +kernel
theorem dX11_act_38 : decode cX11_act 38 = .ok (.iload_n 3, 1) := by decide +kernel
theorem dX11_act_39 : decode cX11_act 39 = .ok (.iastore, 1) := by decide +kernel
theorem dX11_act_40 : decode cX11_act 40 = .ok (.aload_n 0, 1) := by decide +kernel
theorem dX11_act_41 : decode cX11_act 41 = .ok (.getfield 136, 3) := by decide +kernel
theorem dX11_act_44 : decode cX11_act 44 = .ok (.aload_n 0, 1) := by decide +kernel
theorem dX11_act_45 : decode cX11_act 45 = .ok (.getfield 412, 3) := by decide +kernel
theorem dX11_act_48 : decode cX11_act 48 = .ok (.iload 4, 2) := by decide +kernel
theorem dX11_act_50 : decode cX11_act 50 = .ok (.iastore, 1) := by decide +kernel
theorem dX11_act_51 : decode cX11_act 51 = .ok (.aload_n 0, 1) := by decide +kernel
theorem dX11_act_52 : decode cX11_act 52 = .ok (.getfield 139, 3) := by decide +kernel
theorem dX11_act_55 : decode cX11_act 55 = .ok (.aload_n 0, 1) := by decide +kernel
theorem dX11_act_56 : decode cX11_act 56 = .ok (.getfield 412, 3) := by decide +kernel
theorem dX11_act_59 : decode cX11_act 59 = .ok (.iload 5, 2) := by decide +kernel
theorem dX11_act_61 : decode cX11_act 61 = .ok (.iastore, 1) := by decide +kernel
theorem dX11_act_62 : decode cX11_act 62 = .ok (.aload_n 0, 1) := by decide +kernel
theorem dX11_act_63 : decode cX11_act 63 = .ok (.getfield 142, 3) := by decide +kernel
theorem dX11_act_66 : decode cX11_act 66 = .ok (.aload_n 0, 1) := by decide +kernel
theorem dX11_act_67 : decode cX11_act 67 = .ok (.getfield 412, 3) := by decide +kernel
theorem dX11_act_70 : decode cX11_act 70 = .ok (.iconst 0, 1) := by decide +kernel
theorem dX11_act_71 : decode cX11_act 71 = .ok (.iastore, 1) := by decide +kernel
theorem dX11_act_72 : decode cX11_act 72 = .ok (.aload_n 0, 1) := by decide +kernel
theorem dX11_act_73 : decode cX11_act 73 = .ok (.getfield 412, 3) := by decide +kernel
theorem dX11_act_76 : decode cX11_act 76 = .ok (.ireturn, 1) := by decide +kernel
theorem dX11_rounds_0 : decode cX11_rounds 0 = .ok (.iload_n 1, 1) := by decide +kernel
theorem dX11_rounds_1 : decode cX11_rounds 1 = .ok (.i2l, 1) := by decide +kernel
theorem dX11_rounds_2 : decode cX11_rounds 2 = .ok (.lconst 1, 1) := by decide +kernel
theorem dX11_rounds_3 : decode cX11_rounds 3 = .ok (.ldc2_w 433, 3) := by decide +kernel
theorem dX11_rounds_6 : decode cX11_rounds 6 = .ok (.invokestatic 300, 3) := by decide +kernel
theorem dX11_rounds_9 : decode cX11_rounds 9 = .ok (.ifCond .eq 38, 3) := by decide +kernel
theorem dX11_rounds_12 : decode cX11_rounds 12 = .ok (.iload_n 2, 1) := by decide +kernel
theorem dX11_rounds_13 : decode cX11_rounds 13 = .ok (.iload_n 3, 1) := by decide +kernel
theorem dX11_rounds_14 : decode cX11_rounds 14 = .ok (.invokestatic 435, 3) := by decide +kernel
theorem dX11_rounds_17 : decode cX11_rounds 17 = .ok (.ifCond .eq 30, 3) := by decide +kernel
theorem dX11_rounds_20 : decode cX11_rounds 20 = .ok (.iload 4, 2) := by decide +kernel
theorem dX11_rounds_22 : decode cX11_rounds 22 = .ok (.ifCond .lt 25, 3) := by decide +kernel
theorem dX11_rounds_25 : decode cX11_rounds 25 = .ok (.aload_n 0, 1) := by decide +kernel
theorem dX11_rounds_26 : decode cX11_rounds 26 = .ok (.getfield 412, 3) := by decide +kernel
theorem dX11_rounds_29 : decode cX11_rounds 29 = .ok (.bipush 120, 2) := by decide +kernel
theorem dX11_rounds_31 : decode cX11_rounds 31 = .ok (.if_icmp .ge 16, 3) := by decide +kernel
theorem dX11_rounds_34 : decode cX11_rounds 34 = .ok (.aload_n 0, 1) := by decide +kernel
theorem dX11_rounds_35 : decode cX11_rounds 35 = .ok (.iconst 3, 1) := by decide +kernel
theorem dX11_rounds_36 : decode cX11_rounds 36 = .ok (.iload_n 1, 1) := by decide +kernel
theorem dX11_rounds_37 : decode cX11_rounds 37 = .ok (.iload_n 2, 1) := by decide +kernel
theorem dX11_rounds_38 : decode cX11_rounds 38 = .ok (.iload_n 3, 1) := by decide +kernel
theorem dX11_rounds_39 : decode cX11_rounds 39 = .ok (.iload 4, 2) := by decide +kernel
theorem dX11_rounds_41 : decode cX11_rounds 41 = .ok (.invokevirtual 427, 3) := by decide +kernel
theorem dX11_rounds_44 : decode cX11_rounds 44 = .ok (.goto 4, 3) := by decide +kernel
theorem dX11_rounds_47 : decode cX11_rounds 47 = .ok (.iconst (-1), 1) := by decide +kernel
theorem dX11_rounds_48 : decode cX11_rounds 48 = .ok (.ireturn, 1) := by decide +kernel
theorem dX11_areHands_0 : decode cX11_areHands 0 = .ok (.iload_n 0, 1) := by decide +kernel
theorem dX11_areHands_1 : decode cX11_areHands 1 = .ok (.i2l, 1) := by decide +kernel
theorem dX11_areHands_2 : decode cX11_areHands 2 = .ok (.lconst 0, 1) := by decide +kernel
theorem dX11_areHands_3 : decode cX11_areHands 3 = .ok (.ldc2_w 425, 3) := by decide +kernel
theorem dX11_areHands_6 : decode cX11_areHands 6 = .ok (.invokestatic 300, 3) := by decide +kernel
theorem dX11_areHands_9 : decode cX11_areHands 9 = .ok (.ifCond .eq 19, 3) := by decide +kernel
theorem dX11_areHands_12 : decode cX11_areHands 12 = .ok (.iload_n 1, 1) := by decide +kernel
theorem dX11_areHands_13 : decode cX11_areHands 13 = .ok (.i2l, 1) := by decide +kernel
theorem dX11_areHands_14 : decode cX11_areHands 14 = .ok (.lconst 0, 1) := by decide +kernel
theorem dX11_areHands_15 : decode cX11_areHands 15 = .ok (.ldc2_w 425, 3) := by decide +kernel
theorem dX11_areHands_18 : decode cX11_areHands 18 = .ok (.invokestatic 300, 3) := by decide +kernel
theorem dX11_areHands_21 : decode cX11_areHands 21 = .ok (.ifCond .eq 7, 3) := by decide +kernel
theorem dX11_areHands_24 : decode cX11_areHands 24 = .ok (.iconst 1, 1) := by decide +kernel
theorem dX11_areHands_25 : decode cX11_areHands 25 = .ok (.goto 4, 3) := by decide +kernel
theorem dX11_areHands_28 : decode cX11_areHands 28 = .ok (.iconst 0, 1) := by decide +kernel
theorem dX11_areHands_29 : decode cX11_areHands 29 = .ok (.ireturn, 1) := by decide +kernel
theorem dX11_wash_0 : decode cX11_wash 0 = .ok (.aload_n 0, 1) := by decide +kernel
theorem dX11_wash_1 : decode cX11_wash 1 = .ok (.getfield 412, 3) := by decide +kernel
theorem dX11_wash_4 : decode cX11_wash 4 = .ok (.bipush 120, 2) := by decide +kernel
theorem dX11_wash_6 : decode cX11_wash 6 = .ok (.if_icmp .ge 15, 3) := by decide +kernel
theorem dX11_wash_9 : decode cX11_wash 9 = .ok (.aload_n 0, 1) := by decide +kernel
theorem dX11_wash_10 : decode cX11_wash 10 = .ok (.iconst 4, 1) := by decide +kernel
theorem dX11_wash_11 : decode cX11_wash 11 = .ok (.iconst 0, 1) := by decide +kernel
theorem dX11_wash_12 : decode cX11_wash 12 = .ok (.iconst 0, 1) := by decide +kernel
theorem dX11_wash_13 : decode cX11_wash 13 = .ok (.iconst 0, 1) := by decide +kernel
theorem dX11_wash_14 : decode cX11_wash 14 = .ok (.iconst 0, 1) := by decide +kernel
theorem dX11_wash_15 : decode cX11_wash 15 = .ok (.invokevirtual 427, 3) := by decide +kernel
theorem dX11_wash_18 : decode cX11_wash 18 = .ok (.goto 4, 3) := by decide +kernel
theorem dX11_wash_22 : decode cX11_wash 22 = .ok (.ireturn, 1) := by decide +kernel
theorem dX11_annul_0 : decode cX11_annul 0 = .ok (.iload_n 1, 1) := by decide +kernel
theorem dX11_annul_1 : decode cX11_annul 1 = .ok (.i2l, 1) := by decide +kernel
theorem dX11_annul_2 : decode cX11_annul 2 = .ok (.lconst 1, 1) := by decide +kernel
theorem dX11_annul_3 : decode cX11_annul 3 = .ok (.aload_n 0, 1) := by decide +kernel
theorem dX11_annul_4 : decode cX11_annul 4 = .ok (.getfield 412, 3) := by decide +kernel
theorem dX11_annul_7 : decode cX11_annul 7 = .ok (.i2l, 1) := by decide +kernel
theorem dX11_annul_8 : decode cX11_annul 8 = .ok (.invokestatic 300, 3) := by decide +kernel
theorem dX11_annul_11 : decode cX11_annul 11 = .ok (.ifCond .eq 31, 3) := by decide +kernel
theorem dX11_annul_42 : decode cX11_annul 42 = .ok (.iconst (-1), 1) := by decide +kernel
theorem dX11_annul_43 : decode cX11_annul 43 = .ok (.ireturn, 1) := by decide +kernel
theorem dX11_as_0 : decode cX11_as 0 = .ok (.iload_n 1, 1) := by decide +kernel
theorem dX11_as_1 : decode cX11_as 1 = .ok (.i2l, 1) := by decide +kernel
theorem dX11_as_2 : decode cX11_as 2 = .ok (.ldc2_w 439, 3) := by decide +kernel
theorem dX11_as_5 : decode cX11_as 5 = .ok (.aload_n 0, 1) := by decide +kernel
theorem dX11_as_6 : decode cX11_as 6 = .ok (.getfield 412, 3) := by decide +kernel
theorem dX11_as_9 : decode cX11_as 9 = .ok (.i2l, 1) := by decide +kernel
theorem dX11_as_10 : decode cX11_as 10 = .ok (.invokestatic 300, 3) := by decide +kernel
theorem dX11_as_13 : decode cX11_as 13 = .ok (.ifCond .ne 5, 3) := by decide +kernel
theorem dX11_as_16 : decode cX11_as 16 = .ok (.iconst 0, 1) := by decide +kernel
theorem dX11_as_17 : decode cX11_as 17 = .ok (.ireturn, 1) := by decide +kernel
theorem dX11_as_18 : decode cX11_as 18 = .ok (.aload_n 0, 1) := by decide +kernel
theorem dX11_as_19 : decode cX11_as 19 = .ok (.iload_n 1, 1) := by decide +kernel
theorem dX11_as_20 : decode cX11_as 20 = .ok (.putfield 145, 3) := by decide +kernel
theorem dX11_as_23 : decode cX11_as 23 = .ok (.iconst 1, 1) := by decide +kernel
theorem dX11_as_24 : decode cX11_as 24 = .ok (.ireturn, 1) := by decide +kernel
theorem dX11_cell_0 : decode cX11_cell 0 = .ok (.aload_n 0, 1) := by decide +kernel
theorem dX11_cell_1 : decode cX11_cell 1 = .ok (.iload_n 1, 1) := by decide +kernel
theorem dX11_cell_2 : decode cX11_cell 2 = .ok (.invokevirtual 422, 3) := by decide +kernel
theorem dX11_cell_5 : decode cX11_cell 5 = .ok (.ifCond .ne 5, 3) := by decide +kernel
theorem dX11_cell_8 : decode cX11_cell 8 = .ok (.iconst (-1), 1) := by decide +kernel
theorem dX11_cell_9 : decode cX11_cell 9 = .ok (.ireturn, 1) := by decide +kernel
theorem dX11_cell_10 : decode cX11_cell 10 = .ok (.aload_n 0, 1) := by decide +kernel
theorem dX11_cell_11 : decode cX11_cell 11 = .ok (.invokevirtual 472, 3) := by decide +kernel
theorem dX11_cell_14 : decode cX11_cell 14 = .ok (.iload_n 2, 1) := by decide +kernel
theorem dX11_cell_15 : decode cX11_cell 15 = .ok (.tableswitch 120 0 5 #[37, 44, 65, 86, 106, 113], 37) := by decide +kernel
theorem dX11_cell_52 : decode cX11_cell 52 = .ok (.aload_n 0, 1) := by decide +kernel
theorem dX11_cell_53 : decode cX11_cell 53 = .ok (.getfield 151, 3) := by decide +kernel
theorem dX11_cell_56 : decode cX11_cell 56 = .ok (.iload_n 1, 1) := by decide +kernel
theorem dX11_cell_57 : decode cX11_cell 57 = .ok (.iaload, 1) := by decide +kernel
theorem dX11_cell_58 : decode cX11_cell 58 = .ok (.ireturn, 1) := by decide +kernel
theorem dX11_cell_59 : decode cX11_cell 59 = .ok (.aload_n 0, 1) := by decide +kernel
theorem dX11_cell_60 : decode cX11_cell 60 = .ok (.getfield 151, 3) := by decide +kernel
theorem dX11_cell_63 : decode cX11_cell 63 = .ok (.iload_n 1, 1) := by decide +kernel
theorem dX11_cell_64 : decode cX11_cell 64 = .ok (.iaload, 1) := by decide +kernel
theorem dX11_cell_65 : decode cX11_cell 65 = .ok (.iconst (-1), 1) := by decide +kernel
theorem dX11_cell_66 : decode cX11_cell 66 = .ok (.if_icmp .ne 7, 3) := by decide +kernel
theorem dX11_cell_69 : decode cX11_cell 69 = .ok (.iconst (-1), 1) := by decide +kernel
theorem dX11_cell_70 : decode cX11_cell 70 = .ok (.goto 9, 3) := by decide +kernel
theorem dX11_cell_79 : decode cX11_cell 79 = .ok (.ireturn, 1) := by decide +kernel
theorem dX11_cell_80 : decode cX11_cell 80 = .ok (.aload_n 0, 1) := by decide +kernel
theorem dX11_cell_81 : decode cX11_cell 81 = .ok (.getfield 151, 3) := by decide +kernel
theorem dX11_cell_84 : decode cX11_cell 84 = .ok (.iload_n 1, 1) := by decide +kernel
theorem dX11_cell_85 : decode cX11_cell 85 = .ok (.iaload, 1) := by decide +kernel
theorem dX11_cell_86 : decode cX11_cell 86 = .ok (.iconst (-1), 1) := by decide +kernel
theorem dX11_cell_87 : decode cX11_cell 87 = .ok (.if_icmp .ne 7, 3) := by decide +kernel
theorem dX11_cell_90 : decode cX11_cell 90 = .ok (.iconst (-1), 1) := by decide +kernel
theorem dX11_cell_91 : decode cX11_cell 91 = .ok (.goto 9, 3) := by decide +kernel
theorem dX11_cell_100 : decode cX11_cell 100 = .ok (.ireturn, 1) := by decide +kernel
theorem dX11_cell_101 : decode cX11_cell 101 = .ok (.aload_n 0, 1) := by decide +kernel
theorem dX11_cell_102 : decode cX11_cell 102 = .ok (.getfield 151, 3) := by decide +kernel
theorem dX11_cell_105 : decode cX11_cell 105 = .ok (.iload_n 1, 1) := by decide +kernel
theorem dX11_cell_106 : decode cX11_cell 106 = .ok (.iaload, 1) := by decide +kernel
theorem dX11_cell_107 : decode cX11_cell 107 = .ok (.iconst (-1), 1) := by decide +kernel
theorem dX11_cell_108 : decode cX11_cell 108 = .ok (.if_icmp .ne 7, 3) := by decide +kernel
theorem dX11_cell_111 : decode cX11_cell 111 = .ok (.iconst (-1), 1) := by decide +kernel
theorem dX11_cell_112 : decode cX11_cell 112 = .ok (.goto 8, 3) := by decide +kernel
theorem dX11_cell_120 : decode cX11_cell 120 = .ok (.ireturn, 1) := by decide +kernel
theorem dX11_cell_121 : decode cX11_cell 121 = .ok (.aload_n 0, 1) := by decide +kernel
theorem dX11_cell_122 : decode cX11_cell 122 = .ok (.getfield 160, 3) := by decide +kernel
theorem dX11_cell_125 : decode cX11_cell 125 = .ok (.iload_n 1, 1) := by decide +kernel
theorem dX11_cell_126 : decode cX11_cell 126 = .ok (.iaload, 1) := by decide +kernel
theorem dX11_cell_127 : decode cX11_cell 127 = .ok (.ireturn, 1) := by decide +kernel
theorem dX11_cell_128 : decode cX11_cell 128 = .ok (.aload_n 0, 1) := by decide +kernel
theorem dX11_cell_129 : decode cX11_cell 129 = .ok (.getfield 163, 3) := by decide +kernel
theorem dX11_cell_132 : decode cX11_cell 132 = .ok (.iload_n 1, 1) := by decide +kernel
theorem dX11_cell_133 : decode cX11_cell 133 = .ok (.iaload, 1) := by decide +kernel
theorem dX11_cell_134 : decode cX11_cell 134 = .ok (.ireturn, 1) := by decide +kernel
theorem dX11_cell_135 : decode cX11_cell 135 = .ok (.iconst (-1), 1) := by decide +kernel
theorem dX11_cell_136 : decode cX11_cell 136 = .ok (.ireturn, 1) := by decide +kernel
theorem dX11_goes_0 : decode cX11_goes 0 = .ok (.aload_n 0, 1) := by decide +kernel
theorem dX11_goes_1 : decode cX11_goes 1 = .ok (.invokevirtual 441, 3) := by decide +kernel
theorem dX11_goes_4 : decode cX11_goes 4 = .ok (.istore_n 1, 1) := by decide +kernel
theorem dX11_goes_5 : decode cX11_goes 5 = .ok (.aload_n 0, 1) := by decide +kernel
theorem dX11_goes_6 : decode cX11_goes 6 = .ok (.getfield 148, 3) := by decide +kernel
theorem dX11_goes_9 : decode cX11_goes 9 = .ok (.iconst (-1), 1) := by decide +kernel
theorem dX11_goes_10 : decode cX11_goes 10 = .ok (.if_icmp .eq 11, 3) := by decide +kernel
theorem dX11_goes_21 : decode cX11_goes 21 = .ok (.iconst 1, 1) := by decide +kernel
theorem dX11_goes_22 : decode cX11_goes 22 = .ok (.goto 4, 3) := by decide +kernel
theorem dX11_goes_26 : decode cX11_goes 26 = .ok (.istore_n 2, 1) := by decide +kernel
theorem dX11_goes_27 : decode cX11_goes 27 = .ok (.iconst 1, 1) := by decide +kernel
theorem dX11_goes_28 : decode cX11_goes 28 = .ok (.istore_n 3, 1) := by decide +kernel
theorem dX11_goes_29 : decode cX11_goes 29 = .ok (.iload_n 3, 1) := by decide +kernel
theorem dX11_goes_30 : decode cX11_goes 30 = .ok (.aload_n 0, 1) := by decide +kernel
theorem dX11_goes_31 : decode cX11_goes 31 = .ok (.getfield 148, 3) := by decide +kernel
theorem dX11_goes_34 : decode cX11_goes 34 = .ok (.if_icmp .gt 37, 3) := by decide +kernel
theorem dX11_goes_71 : decode cX11_goes 71 = .ok (.iload_n 2, 1) := by decide +kernel
theorem dX11_goes_72 : decode cX11_goes 72 = .ok (.ifCond .eq 62, 3) := by decide +kernel
theorem dX11_goes_75 : decode cX11_goes 75 = .ok (.aload_n 0, 1) := by decide +kernel
theorem dX11_goes_76 : decode cX11_goes 76 = .ok (.iconst 0, 1) := by decide +kernel
theorem dX11_goes_77 : decode cX11_goes 77 = .ok (.putfield 148, 3) := by decide +kernel
theorem dX11_goes_80 : decode cX11_goes 80 = .ok (.aload_n 0, 1) := by decide +kernel
theorem dX11_goes_81 : decode cX11_goes 81 = .ok (.iconst 0, 1) := by decide +kernel
theorem dX11_goes_82 : decode cX11_goes 82 = .ok (.putfield 447, 3) := by decide +kernel
theorem dX11_goes_85 : decode cX11_goes 85 = .ok (.iconst 0, 1) := by decide +kernel
theorem dX11_goes_86 : decode cX11_goes 86 = .ok (.istore_n 3, 1) := by decide +kernel
theorem dX11_goes_87 : decode cX11_goes 87 = .ok (.iload_n 3, 1) := by decide +kernel
theorem dX11_goes_88 : decode cX11_goes 88 = .ok (.bipush 64, 2) := by decide +kernel
theorem dX11_goes_90 : decode cX11_goes 90 = .ok (.if_icmp .ge 44, 3) := by decide +kernel
theorem dX11_goes_93 : decode cX11_goes 93 = .ok (.aload_n 0, 1) := by decide +kernel
theorem dX11_goes_94 : decode cX11_goes 94 = .ok (.getfield 151, 3) := by decide +kernel
theorem dX11_goes_97 : decode cX11_goes 97 = .ok (.iload_n 3, 1) := by decide +kernel
theorem dX11_goes_98 : decode cX11_goes 98 = .ok (.iconst (-1), 1) := by decide +kernel
theorem dX11_goes_99 : decode cX11_goes 99 = .ok (.iastore, 1) := by decide +kernel
theorem dX11_goes_100 : decode cX11_goes 100 = .ok (.aload_n 0, 1) := by decide +kernel
theorem dX11_goes_101 : decode cX11_goes 101 = .ok (.getfield 154, 3) := by decide +kernel
theorem dX11_goes_104 : decode cX11_goes 104 = .ok (.iload_n 3, 1) := by decide +kernel
theorem dX11_goes_105 : decode cX11_goes 105 = .ok (.iconst 0, 1) := by decide +kernel
theorem dX11_goes_106 : decode cX11_goes 106 = .ok (.iastore, 1) := by decide +kernel
theorem dX11_goes_107 : decode cX11_goes 107 = .ok (.aload_n 0, 1) := by decide +kernel
theorem dX11_goes_108 : decode cX11_goes 108 = .ok (.getfield 157, 3) := by decide +kernel
theorem dX11_goes_111 : decode cX11_goes 111 = .ok (.iload_n 3, 1) := by decide +kernel
theorem dX11_goes_112 : decode cX11_goes 112 = .ok (.iconst 0, 1) := by decide +kernel
theorem dX11_goes_113 : decode cX11_goes 113 = .ok (.iastore, 1) := by decide +kernel
theorem dX11_goes_114 : decode cX11_goes 114 = .ok (.aload_n 0, 1) := by decide +kernel
theorem dX11_goes_115 : decode cX11_goes 115 = .ok (.getfield 160, 3) := by decide +kernel
theorem dX11_goes_118 : decode cX11_goes 118 = .ok (.iload_n 3, 1) := by decide +kernel
theorem dX11_goes_119 : decode cX11_goes 119 = .ok (.iconst 0, 1) := by decide +kernel
theorem dX11_goes_120 : decode cX11_goes 120 = .ok (.iastore, 1) := by decide +kernel
theorem dX11_goes_121 : decode cX11_goes 121 = .ok (.aload_n 0, 1) := by decide +kernel
theorem dX11_goes_122 : decode cX11_goes 122 = .ok (.getfield 163, 3) := by decide +kernel
theorem dX11_goes_125 : decode cX11_goes 125 = .ok (.iload_n 3, 1) := by decide +kernel
theorem dX11_goes_126 : decode cX11_goes 126 = .ok (.iconst 0, 1) := by decide +kernel
theorem dX11_goes_127 : decode cX11_goes 127 = .ok (.iastore, 1) := by decide +kernel
theorem dX11_goes_128 : decode cX11_goes 128 = .ok (.iinc 3 1, 3) := by decide +kernel
theorem dX11_goes_131 : decode cX11_goes 131 = .ok (.goto (-44), 3) := by decide +kernel
theorem dX11_goes_134 : decode cX11_goes 134 = .ok (.aload_n 0, 1) := by decide +kernel
theorem dX11_goes_135 : decode cX11_goes 135 = .ok (.getfield 148, 3) := by decide +kernel
theorem dX11_goes_138 : decode cX11_goes 138 = .ok (.iconst 1, 1) := by decide +kernel
theorem dX11_goes_139 : decode cX11_goes 139 = .ok (.iadd, 1) := by decide +kernel
theorem dX11_goes_140 : decode cX11_goes 140 = .ok (.istore_n 3, 1) := by decide +kernel
theorem dX11_goes_141 : decode cX11_goes 141 = .ok (.iload_n 3, 1) := by decide +kernel
theorem dX11_goes_142 : decode cX11_goes 142 = .ok (.iload_n 1, 1) := by decide +kernel
theorem dX11_goes_143 : decode cX11_goes 143 = .ok (.if_icmp .gt 23, 3) := by decide +kernel
theorem dX11_goes_166 : decode cX11_goes 166 = .ok (.aload_n 0, 1) := by decide +kernel
theorem dX11_goes_167 : decode cX11_goes 167 = .ok (.iload_n 1, 1) := by decide +kernel
theorem dX11_goes_168 : decode cX11_goes 168 = .ok (.putfield 148, 3) := by decide +kernel
theorem dX11_goes_171 : decode cX11_goes 171 = .ok (.return_, 1) := by decide +kernel
theorem dX11_now_0 : decode cX11_now 0 = .ok (.aload_n 0, 1) := by decide +kernel
theorem dX11_now_1 : decode cX11_now 1 = .ok (.getfield 145, 3) := by decide +kernel
theorem dX11_now_4 : decode cX11_now 4 = .ok (.iconst (-1), 1) := by decide +kernel
theorem dX11_now_5 : decode cX11_now 5 = .ok (.if_icmp .ne 10, 3) := by decide +kernel
theorem dX11_now_8 : decode cX11_now 8 = .ok (.aload_n 0, 1) := by decide +kernel
theorem dX11_now_9 : decode cX11_now 9 = .ok (.getfield 412, 3) := by decide +kernel
theorem dX11_now_12 : decode cX11_now 12 = .ok (.goto 7, 3) := by decide +kernel
theorem dX11_now_19 : decode cX11_now 19 = .ok (.ireturn, 1) := by decide +kernel
theorem dX11_listed_0 : decode cX11_listed 0 = .ok (.aload_n 0, 1) := by decide +kernel
theorem dX11_listed_1 : decode cX11_listed 1 = .ok (.invokevirtual 472, 3) := by decide +kernel
theorem dX11_listed_4 : decode cX11_listed 4 = .ok (.aload_n 0, 1) := by decide +kernel
theorem dX11_listed_5 : decode cX11_listed 5 = .ok (.getfield 447, 3) := by decide +kernel
theorem dX11_listed_8 : decode cX11_listed 8 = .ok (.ireturn, 1) := by decide +kernel
theorem dX11_list_0 : decode cX11_list 0 = .ok (.aload_n 0, 1) := by decide +kernel
theorem dX11_list_1 : decode cX11_list 1 = .ok (.invokevirtual 472, 3) := by decide +kernel
theorem dX11_list_4 : decode cX11_list 4 = .ok (.iload_n 1, 1) := by decide +kernel
theorem dX11_list_5 : decode cX11_list 5 = .ok (.ifCond .lt 20, 3) := by decide +kernel
theorem dX11_list_8 : decode cX11_list 8 = .ok (.iload_n 1, 1) := by decide +kernel
theorem dX11_list_9 : decode cX11_list 9 = .ok (.aload_n 0, 1) := by decide +kernel
theorem dX11_list_10 : decode cX11_list 10 = .ok (.getfield 447, 3) := by decide +kernel
theorem dX11_list_13 : decode cX11_list 13 = .ok (.if_icmp .ge 12, 3) := by decide +kernel
theorem dX11_list_25 : decode cX11_list 25 = .ok (.ldc2_w 439, 3) := by decide +kernel
theorem dX11_list_28 : decode cX11_list 28 = .ok (.lreturn, 1) := by decide +kernel
theorem dX11_until_0 : decode cX11_until 0 = .ok (.aload_n 0, 1) := by decide +kernel
theorem dX11_until_1 : decode cX11_until 1 = .ok (.invokevirtual 472, 3) := by decide +kernel
theorem dX11_until_4 : decode cX11_until 4 = .ok (.iconst 0, 1) := by decide +kernel
theorem dX11_until_5 : decode cX11_until 5 = .ok (.istore_n 3, 1) := by decide +kernel
theorem dX11_until_6 : decode cX11_until 6 = .ok (.iload_n 3, 1) := by decide +kernel
theorem dX11_until_7 : decode cX11_until 7 = .ok (.aload_n 0, 1) := by decide +kernel
theorem dX11_until_8 : decode cX11_until 8 = .ok (.getfield 447, 3) := by decide +kernel
theorem dX11_until_11 : decode cX11_until 11 = .ok (.if_icmp .ge 22, 3) := by decide +kernel
theorem dX11_until_33 : decode cX11_until 33 = .ok (.iconst (-1), 1) := by decide +kernel
theorem dX11_until_34 : decode cX11_until 34 = .ok (.ireturn, 1) := by decide +kernel
theorem dX11_chance_0 : decode cX11_chance 0 = .ok (.aload_n 0, 1) := by decide +kernel
theorem dX11_chance_1 : decode cX11_chance 1 = .ok (.iload_n 1, 1) := by decide +kernel
theorem dX11_chance_2 : decode cX11_chance 2 = .ok (.invokevirtual 422, 3) := by decide +kernel
theorem dX11_chance_5 : decode cX11_chance 5 = .ok (.ifCond .eq 11, 3) := by decide +kernel
theorem dX11_chance_8 : decode cX11_chance 8 = .ok (.iload_n 2, 1) := by decide +kernel
theorem dX11_chance_9 : decode cX11_chance 9 = .ok (.iload_n 3, 1) := by decide +kernel
theorem dX11_chance_10 : decode cX11_chance 10 = .ok (.invokestatic 435, 3) := by decide +kernel
theorem dX11_chance_13 : decode cX11_chance 13 = .ok (.ifCond .ne 5, 3) := by decide +kernel
theorem dX11_chance_16 : decode cX11_chance 16 = .ok (.iconst (-1), 1) := by decide +kernel
theorem dX11_chance_17 : decode cX11_chance 17 = .ok (.ireturn, 1) := by decide +kernel
theorem dX11_chance_18 : decode cX11_chance 18 = .ok (.aload_n 0, 1) := by decide +kernel
theorem dX11_chance_19 : decode cX11_chance 19 = .ok (.invokevirtual 472, 3) := by decide +kernel
theorem dX11_chance_22 : decode cX11_chance 22 = .ok (.aload_n 0, 1) := by decide +kernel
theorem dX11_chance_23 : decode cX11_chance 23 = .ok (.getfield 151, 3) := by decide +kernel
theorem dX11_chance_26 : decode cX11_chance 26 = .ok (.iload_n 1, 1) := by decide +kernel
theorem dX11_chance_27 : decode cX11_chance 27 = .ok (.iaload, 1) := by decide +kernel
theorem dX11_chance_28 : decode cX11_chance 28 = .ok (.iconst (-1), 1) := by decide +kernel
theorem dX11_chance_29 : decode cX11_chance 29 = .ok (.if_icmp .ne 7, 3) := by decide +kernel
theorem dX11_chance_32 : decode cX11_chance 32 = .ok (.iconst (-1), 1) := by decide +kernel
theorem dX11_chance_33 : decode cX11_chance 33 = .ok (.goto 10, 3) := by decide +kernel
theorem dX11_chance_43 : decode cX11_chance 43 = .ok (.ireturn, 1) := by decide +kernel
theorem dX11_table_0 : decode cX11_table 0 = .ok (.iload_n 1, 1) := by decide +kernel
theorem dX11_table_1 : decode cX11_table 1 = .ok (.iload_n 2, 1) := by decide +kernel
theorem dX11_table_2 : decode cX11_table 2 = .ok (.invokestatic 435, 3) := by decide +kernel
theorem dX11_table_5 : decode cX11_table 5 = .ok (.ifCond .ne 5, 3) := by decide +kernel
theorem dX11_table_8 : decode cX11_table 8 = .ok (.iconst (-1), 1) := by decide +kernel
theorem dX11_table_9 : decode cX11_table 9 = .ok (.ireturn, 1) := by decide +kernel
theorem dX11_table_10 : decode cX11_table 10 = .ok (.aload_n 0, 1) := by decide +kernel
theorem dX11_table_11 : decode cX11_table 11 = .ok (.invokevirtual 472, 3) := by decide +kernel
theorem dX11_table_14 : decode cX11_table 14 = .ok (.aload_n 0, 1) := by decide +kernel
theorem dX11_table_15 : decode cX11_table 15 = .ok (.iconst 0, 1) := by decide +kernel
theorem dX11_table_16 : decode cX11_table 16 = .ok (.putfield 172, 3) := by decide +kernel
theorem dX11_table_19 : decode cX11_table 19 = .ok (.iconst 0, 1) := by decide +kernel
theorem dX11_table_20 : decode cX11_table 20 = .ok (.istore_n 3, 1) := by decide +kernel
theorem dX11_table_21 : decode cX11_table 21 = .ok (.iload_n 3, 1) := by decide +kernel
theorem dX11_table_22 : decode cX11_table 22 = .ok (.bipush 66, 2) := by decide +kernel
theorem dX11_table_24 : decode cX11_table 24 = .ok (.if_icmp .ge 26, 3) := by decide +kernel
theorem dX11_table_27 : decode cX11_table 27 = .ok (.aload_n 0, 1) := by decide +kernel
theorem dX11_table_28 : decode cX11_table 28 = .ok (.getfield 175, 3) := by decide +kernel
theorem dX11_table_31 : decode cX11_table 31 = .ok (.iload_n 3, 1) := by decide +kernel
theorem dX11_table_32 : decode cX11_table 32 = .ok (.iload_n 3, 1) := by decide +kernel
theorem dX11_table_33 : decode cX11_table 33 = .ok (.ifCond .ne 9, 3) := by decide +kernel
theorem dX11_table_36 : decode cX11_table 36 = .ok (.ldc2_w 511, 3) := by decide +kernel
theorem dX11_table_39 : decode cX11_table 39 = .ok (.goto 4, 3) := by decide +kernel
theorem dX11_table_42 : decode cX11_table 42 = .ok (.lconst 0, 1) := by decide +kernel
theorem dX11_table_43 : decode cX11_table 43 = .ok (.lastore, 1) := by decide +kernel
theorem dX11_table_44 : decode cX11_table 44 = .ok (.iinc 3 1, 3) := by decide +kernel
theorem dX11_table_47 : decode cX11_table 47 = .ok (.goto (-26), 3) := by decide +kernel
theorem dX11_table_50 : decode cX11_table 50 = .ok (.iconst 0, 1) := by decide +kernel
theorem dX11_table_51 : decode cX11_table 51 = .ok (.istore_n 3, 1) := by decide +kernel
theorem dX11_table_52 : decode cX11_table 52 = .ok (.iload_n 3, 1) := by decide +kernel
theorem dX11_table_53 : decode cX11_table 53 = .ok (.aload_n 0, 1) := by decide +kernel
theorem dX11_table_54 : decode cX11_table 54 = .ok (.invokevirtual 419, 3) := by decide +kernel
theorem dX11_table_57 : decode cX11_table 57 = .ok (.if_icmp .ge 110, 3) := by decide +kernel
theorem dX11_table_60 : decode cX11_table 60 = .ok (.aload_n 0, 1) := by decide +kernel
theorem dX11_table_61 : decode cX11_table 61 = .ok (.getfield 151, 3) := by decide +kernel
theorem dX11_table_64 : decode cX11_table 64 = .ok (.iload_n 3, 1) := by decide +kernel
theorem dX11_table_65 : decode cX11_table 65 = .ok (.iaload, 1) := by decide +kernel
theorem dX11_table_66 : decode cX11_table 66 = .ok (.iconst (-1), 1) := by decide +kernel
theorem dX11_table_67 : decode cX11_table 67 = .ok (.if_icmp .ne 6, 3) := by decide +kernel
theorem dX11_table_70 : decode cX11_table 70 = .ok (.goto 91, 3) := by decide +kernel
theorem dX11_table_161 : decode cX11_table 161 = .ok (.iinc 3 1, 3) := by decide +kernel
theorem dX11_table_164 : decode cX11_table 164 = .ok (.goto (-112), 3) := by decide +kernel
theorem dX11_table_167 : decode cX11_table 167 = .ok (.aload_n 0, 1) := by decide +kernel
theorem dX11_table_168 : decode cX11_table 168 = .ok (.getfield 172, 3) := by decide +kernel
theorem dX11_table_171 : decode cX11_table 171 = .ok (.ireturn, 1) := by decide +kernel
theorem dX11_odds_0 : decode cX11_odds 0 = .ok (.iload_n 1, 1) := by decide +kernel
theorem dX11_odds_1 : decode cX11_odds 1 = .ok (.i2l, 1) := by decide +kernel
theorem dX11_odds_2 : decode cX11_odds 2 = .ok (.lconst 0, 1) := by decide +kernel
theorem dX11_odds_3 : decode cX11_odds 3 = .ok (.aload_n 0, 1) := by decide +kernel
theorem dX11_odds_4 : decode cX11_odds 4 = .ok (.getfield 172, 3) := by decide +kernel
theorem dX11_odds_7 : decode cX11_odds 7 = .ok (.i2l, 1) := by decide +kernel
theorem dX11_odds_8 : decode cX11_odds 8 = .ok (.invokestatic 300, 3) := by decide +kernel
theorem dX11_odds_11 : decode cX11_odds 11 = .ok (.ifCond .ne 7, 3) := by decide +kernel
theorem dX11_odds_14 : decode cX11_odds 14 = .ok (.ldc2_w 439, 3) := by decide +kernel
theorem dX11_odds_17 : decode cX11_odds 17 = .ok (.lreturn, 1) := by decide +kernel
theorem dX11_sure_0 : decode cX11_sure 0 = .ok (.aload_n 0, 1) := by decide +kernel
theorem dX11_sure_1 : decode cX11_sure 1 = .ok (.getfield 172, 3) := by decide +kernel
theorem dX11_sure_4 : decode cX11_sure 4 = .ok (.iconst (-1), 1) := by decide +kernel
theorem dX11_sure_5 : decode cX11_sure 5 = .ok (.if_icmp .eq 15, 3) := by decide +kernel
theorem dX11_sure_20 : decode cX11_sure 20 = .ok (.iconst (-1), 1) := by decide +kernel
theorem dX11_sure_21 : decode cX11_sure 21 = .ok (.ireturn, 1) := by decide +kernel
theorem dX11_draw_0 : decode cX11_draw 0 = .ok (.iload_n 1, 1) := by decide +kernel
theorem dX11_draw_1 : decode cX11_draw 1 = .ok (.iload_n 2, 1) := by decide +kernel
theorem dX11_draw_2 : decode cX11_draw 2 = .ok (.invokestatic 435, 3) := by decide +kernel
theorem dX11_draw_5 : decode cX11_draw 5 = .ok (.ifCond .eq 7, 3) := by decide +kernel
theorem dX11_draw_8 : decode cX11_draw 8 = .ok (.iload_n 3, 1) := by decide +kernel
theorem dX11_draw_9 : decode cX11_draw 9 = .ok (.ifCond .ge 5, 3) := by decide +kernel
theorem dX11_draw_12 : decode cX11_draw 12 = .ok (.iconst (-1), 1) := by decide +kernel
theorem dX11_draw_13 : decode cX11_draw 13 = .ok (.ireturn, 1) := by decide +kernel
theorem dX11_draw_14 : decode cX11_draw 14 = .ok (.aload_n 0, 1) := by decide +kernel
theorem dX11_draw_15 : decode cX11_draw 15 = .ok (.invokevirtual 472, 3) := by decide +kernel
theorem dX11_draw_18 : decode cX11_draw 18 = .ok (.aload_n 0, 1) := by decide +kernel
theorem dX11_draw_19 : decode cX11_draw 19 = .ok (.iload_n 1, 1) := by decide +kernel
theorem dX11_draw_20 : decode cX11_draw 20 = .ok (.iload_n 2, 1) := by decide +kernel
theorem dX11_draw_21 : decode cX11_draw 21 = .ok (.iload_n 3, 1) := by decide +kernel
theorem dX11_draw_22 : decode cX11_draw 22 = .ok (.i2l, 1) := by decide +kernel
theorem dX11_draw_23 : decode cX11_draw 23 = .ok (.invokevirtual 457, 3) := by decide +kernel
theorem dX11_draw_26 : decode cX11_draw 26 = .ok (.pop2, 1) := by decide +kernel
theorem dX11_draw_27 : decode cX11_draw 27 = .ok (.aload_n 0, 1) := by decide +kernel
theorem dX11_draw_28 : decode cX11_draw 28 = .ok (.invokevirtual 460, 3) := by decide +kernel
theorem dX11_draw_31 : decode cX11_draw 31 = .ok (.aload_n 0, 1) := by decide +kernel
theorem dX11_draw_32 : decode cX11_draw 32 = .ok (.iconst 1, 1) := by decide +kernel
theorem dX11_draw_33 : decode cX11_draw 33 = .ok (.putfield 415, 3) := by decide +kernel
theorem dX11_draw_36 : decode cX11_draw 36 = .ok (.aload_n 0, 1) := by decide +kernel
theorem dX11_draw_37 : decode cX11_draw 37 = .ok (.aload_n 0, 1) := by decide +kernel
theorem dX11_draw_38 : decode cX11_draw 38 = .ok (.getfield 121, 3) := by decide +kernel
theorem dX11_draw_41 : decode cX11_draw 41 = .ok (.putfield 537, 3) := by decide +kernel
theorem dX11_draw_44 : decode cX11_draw 44 = .ok (.aload_n 0, 1) := by decide +kernel
theorem dX11_draw_45 : decode cX11_draw 45 = .ok (.aload_n 0, 1) := by decide +kernel
theorem dX11_draw_46 : decode cX11_draw 46 = .ok (.getfield 124, 3) := by decide +kernel
theorem dX11_draw_49 : decode cX11_draw 49 = .ok (.putfield 540, 3) := by decide +kernel
theorem dX11_draw_52 : decode cX11_draw 52 = .ok (.iconst 0, 1) := by decide +kernel
theorem dX11_draw_53 : decode cX11_draw 53 = .ok (.istore 4, 2) := by decide +kernel
theorem dX11_draw_55 : decode cX11_draw 55 = .ok (.iload 4, 2) := by decide +kernel
theorem dX11_draw_57 : decode cX11_draw 57 = .ok (.bipush 64, 2) := by decide +kernel
theorem dX11_draw_59 : decode cX11_draw 59 = .ok (.if_icmp .ge 55, 3) := by decide +kernel
theorem dX11_draw_62 : decode cX11_draw 62 = .ok (.aload_n 0, 1) := by decide +kernel
theorem dX11_draw_63 : decode cX11_draw 63 = .ok (.getfield 197, 3) := by decide +kernel
theorem dX11_draw_66 : decode cX11_draw 66 = .ok (.iload 4, 2) := by decide +kernel
theorem dX11_draw_68 : decode cX11_draw 68 = .ok (.iload 4, 2) := by decide +kernel
theorem dX11_draw_70 : decode cX11_draw 70 = .ok (.aload_n 0, 1) := by decide +kernel
theorem dX11_draw_71 : decode cX11_draw 71 = .ok (.invokevirtual 419, 3) := by decide +kernel
theorem dX11_draw_74 : decode cX11_draw 74 = .ok (.if_icmp .ge 14, 3) := by decide +kernel
theorem dX11_draw_77 : decode cX11_draw 77 = .ok (.aload_n 0, 1) := by decide +kernel
theorem dX11_draw_78 : decode cX11_draw 78 = .ok (.getfield 151, 3) := by decide +kernel
theorem dX11_draw_81 : decode cX11_draw 81 = .ok (.iload 4, 2) := by decide +kernel
theorem dX11_draw_83 : decode cX11_draw 83 = .ok (.iaload, 1) := by decide +kernel
theorem dX11_draw_84 : decode cX11_draw 84 = .ok (.iconst (-1), 1) := by decide +kernel
theorem dX11_draw_85 : decode cX11_draw 85 = .ok (.if_icmp .ne 7, 3) := by decide +kernel
theorem dX11_draw_88 : decode cX11_draw 88 = .ok (.iconst (-1), 1) := by decide +kernel
theorem dX11_draw_89 : decode cX11_draw 89 = .ok (.goto 18, 3) := by decide +kernel
theorem dX11_draw_107 : decode cX11_draw 107 = .ok (.iastore, 1) := by decide +kernel
theorem dX11_draw_108 : decode cX11_draw 108 = .ok (.iinc 4 1, 3) := by decide +kernel
theorem dX11_draw_111 : decode cX11_draw 111 = .ok (.goto (-56), 3) := by decide +kernel
theorem dX11_draw_114 : decode cX11_draw 114 = .ok (.aload_n 0, 1) := by decide +kernel
theorem dX11_draw_115 : decode cX11_draw 115 = .ok (.aload_n 0, 1) := by decide +kernel
theorem dX11_draw_116 : decode cX11_draw 116 = .ok (.getfield 525, 3) := by decide +kernel
theorem dX11_draw_119 : decode cX11_draw 119 = .ok (.putfield 543, 3) := by decide +kernel
theorem dX11_draw_122 : decode cX11_draw 122 = .ok (.iconst 0, 1) := by decide +kernel
theorem dX11_draw_123 : decode cX11_draw 123 = .ok (.istore 4, 2) := by decide +kernel
theorem dX11_draw_125 : decode cX11_draw 125 = .ok (.iload 4, 2) := by decide +kernel
theorem dX11_draw_127 : decode cX11_draw 127 = .ok (.aload_n 0, 1) := by decide +kernel
theorem dX11_draw_128 : decode cX11_draw 128 = .ok (.getfield 525, 3) := by decide +kernel
theorem dX11_draw_131 : decode cX11_draw 131 = .ok (.if_icmp .ge 65, 3) := by decide +kernel
theorem dX11_draw_196 : decode cX11_draw 196 = .ok (.aload_n 0, 1) := by decide +kernel
theorem dX11_draw_197 : decode cX11_draw 197 = .ok (.getfield 543, 3) := by decide +kernel
theorem dX11_draw_200 : decode cX11_draw 200 = .ok (.ireturn, 1) := by decide +kernel
theorem dX11_draws_0 : decode cX11_draws 0 = .ok (.lload_n 3, 1) := by decide +kernel
theorem dX11_draws_1 : decode cX11_draws 1 = .ok (.lstore 5, 2) := by decide +kernel
theorem dX11_draws_3 : decode cX11_draws 3 = .ok (.iconst 0, 1) := by decide +kernel
theorem dX11_draws_4 : decode cX11_draws 4 = .ok (.istore 7, 2) := by decide +kernel
theorem dX11_draws_6 : decode cX11_draws 6 = .ok (.iload 7, 2) := by decide +kernel
theorem dX11_draws_8 : decode cX11_draws 8 = .ok (.aload_n 0, 1) := by decide +kernel
theorem dX11_draws_9 : decode cX11_draws 9 = .ok (.invokevirtual 419, 3) := by decide +kernel
theorem dX11_draws_12 : decode cX11_draws 12 = .ok (.if_icmp .ge 82, 3) := by decide +kernel
theorem dX11_draws_15 : decode cX11_draws 15 = .ok (.aload_n 0, 1) := by decide +kernel
theorem dX11_draws_16 : decode cX11_draws 16 = .ok (.getfield 178, 3) := by decide +kernel
theorem dX11_draws_19 : decode cX11_draws 19 = .ok (.iload 7, 2) := by decide +kernel
theorem dX11_draws_21 : decode cX11_draws 21 = .ok (.iconst 0, 1) := by decide +kernel
theorem dX11_draws_22 : decode cX11_draws 22 = .ok (.bastore, 1) := by decide +kernel
theorem dX11_draws_23 : decode cX11_draws 23 = .ok (.aload_n 0, 1) := by decide +kernel
theorem dX11_draws_24 : decode cX11_draws 24 = .ok (.getfield 151, 3) := by decide +kernel
theorem dX11_draws_27 : decode cX11_draws 27 = .ok (.iload 7, 2) := by decide +kernel
theorem dX11_draws_29 : decode cX11_draws 29 = .ok (.iaload, 1) := by decide +kernel
theorem dX11_draws_30 : decode cX11_draws 30 = .ok (.iconst (-1), 1) := by decide +kernel
theorem dX11_draws_31 : decode cX11_draws 31 = .ok (.if_icmp .ne 6, 3) := by decide +kernel
theorem dX11_draws_34 : decode cX11_draws 34 = .ok (.goto 54, 3) := by decide +kernel
theorem dX11_draws_88 : decode cX11_draws 88 = .ok (.iinc 7 1, 3) := by decide +kernel
theorem dX11_draws_91 : decode cX11_draws 91 = .ok (.goto (-85), 3) := by decide +kernel
theorem dX11_draws_94 : decode cX11_draws 94 = .ok (.lload 5, 2) := by decide +kernel
theorem dX11_draws_96 : decode cX11_draws 96 = .ok (.lreturn, 1) := by decide +kernel
theorem dX11_takes__0 : decode cX11_takes_ 0 = .ok (.aload_n 0, 1) := by decide +kernel
theorem dX11_takes__1 : decode cX11_takes_ 1 = .ok (.iconst 0, 1) := by decide +kernel
theorem dX11_takes__2 : decode cX11_takes_ 2 = .ok (.putfield 525, 3) := by decide +kernel
theorem dX11_takes__5 : decode cX11_takes_ 5 = .ok (.iconst 0, 1) := by decide +kernel
theorem dX11_takes__6 : decode cX11_takes_ 6 = .ok (.istore_n 1, 1) := by decide +kernel
theorem dX11_takes__7 : decode cX11_takes_ 7 = .ok (.iload_n 1, 1) := by decide +kernel
theorem dX11_takes__8 : decode cX11_takes_ 8 = .ok (.aload_n 0, 1) := by decide +kernel
theorem dX11_takes__9 : decode cX11_takes_ 9 = .ok (.invokevirtual 419, 3) := by decide +kernel
theorem dX11_takes__12 : decode cX11_takes_ 12 = .ok (.if_icmp .ge 93, 3) := by decide +kernel
theorem dX11_takes__15 : decode cX11_takes_ 15 = .ok (.aload_n 0, 1) := by decide +kernel
theorem dX11_takes__16 : decode cX11_takes_ 16 = .ok (.getfield 178, 3) := by decide +kernel
theorem dX11_takes__19 : decode cX11_takes_ 19 = .ok (.iload_n 1, 1) := by decide +kernel
theorem dX11_takes__20 : decode cX11_takes_ 20 = .ok (.baload, 1) := by decide +kernel
theorem dX11_takes__21 : decode cX11_takes_ 21 = .ok (.ifCond .ne 6, 3) := by decide +kernel
theorem dX11_takes__24 : decode cX11_takes_ 24 = .ok (.goto 75, 3) := by decide +kernel
theorem dX11_takes__99 : decode cX11_takes_ 99 = .ok (.iinc 1 1, 3) := by decide +kernel
theorem dX11_takes__102 : decode cX11_takes_ 102 = .ok (.goto (-95), 3) := by decide +kernel
theorem dX11_takes__105 : decode cX11_takes_ 105 = .ok (.return_, 1) := by decide +kernel
theorem dX11_caught_0 : decode cX11_caught 0 = .ok (.aload_n 0, 1) := by decide +kernel
theorem dX11_caught_1 : decode cX11_caught 1 = .ok (.getfield 415, 3) := by decide +kernel
theorem dX11_caught_4 : decode cX11_caught 4 = .ok (.ifCond .eq 33, 3) := by decide +kernel
theorem dX11_caught_37 : decode cX11_caught 37 = .ok (.iconst (-1), 1) := by decide +kernel
theorem dX11_caught_38 : decode cX11_caught 38 = .ok (.ireturn, 1) := by decide +kernel
theorem dX11_pull_0 : decode cX11_pull 0 = .ok (.aload_n 0, 1) := by decide +kernel
theorem dX11_pull_1 : decode cX11_pull 1 = .ok (.getfield 415, 3) := by decide +kernel
theorem dX11_pull_4 : decode cX11_pull 4 = .ok (.ifCond .ne 5, 3) := by decide +kernel
theorem dX11_pull_7 : decode cX11_pull 7 = .ok (.iconst (-1), 1) := by decide +kernel
theorem dX11_pull_8 : decode cX11_pull 8 = .ok (.ireturn, 1) := by decide +kernel
theorem dX11_step_0 : decode cX11_step 0 = .ok (.iload_n 1, 1) := by decide +kernel
theorem dX11_step_1 : decode cX11_step 1 = .ok (.ifCond .lt 20, 3) := by decide +kernel
theorem dX11_step_4 : decode cX11_step 4 = .ok (.iload_n 1, 1) := by decide +kernel
theorem dX11_step_5 : decode cX11_step 5 = .ok (.aload_n 0, 1) := by decide +kernel
theorem dX11_step_6 : decode cX11_step 6 = .ok (.getfield 212, 3) := by decide +kernel
theorem dX11_step_9 : decode cX11_step 9 = .ok (.if_icmp .ge 12, 3) := by decide +kernel
theorem dX11_step_21 : decode cX11_step 21 = .ok (.iconst (-1), 1) := by decide +kernel
theorem dX11_step_22 : decode cX11_step 22 = .ok (.ireturn, 1) := by decide +kernel
theorem dX11_load_0 : decode cX11_load 0 = .ok (.iload_n 1, 1) := by decide +kernel
theorem dX11_load_1 : decode cX11_load 1 = .ok (.ifCond .lt 34, 3) := by decide +kernel
theorem dX11_load_4 : decode cX11_load 4 = .ok (.iload_n 1, 1) := by decide +kernel
theorem dX11_load_5 : decode cX11_load 5 = .ok (.aload_n 0, 1) := by decide +kernel
theorem dX11_load_6 : decode cX11_load 6 = .ok (.getfield 212, 3) := by decide +kernel
theorem dX11_load_9 : decode cX11_load 9 = .ok (.if_icmp .ge 26, 3) := by decide +kernel
theorem dX11_load_35 : decode cX11_load 35 = .ok (.ldc2_w 439, 3) := by decide +kernel
theorem dX11_load_38 : decode cX11_load 38 = .ok (.lreturn, 1) := by decide +kernel
theorem dX11_greatest_0 : decode cX11_greatest 0 = .ok (.aload_n 0, 1) := by decide +kernel
theorem dX11_greatest_1 : decode cX11_greatest 1 = .ok (.getfield 212, 3) := by decide +kernel
theorem dX11_greatest_4 : decode cX11_greatest 4 = .ok (.iconst (-1), 1) := by decide +kernel
theorem dX11_greatest_5 : decode cX11_greatest 5 = .ok (.if_icmp .ne 7, 3) := by decide +kernel
theorem dX11_greatest_8 : decode cX11_greatest 8 = .ok (.ldc2_w 439, 3) := by decide +kernel
theorem dX11_greatest_11 : decode cX11_greatest 11 = .ok (.lreturn, 1) := by decide +kernel
theorem dX11_hung_0 : decode cX11_hung 0 = .ok (.aload_n 0, 1) := by decide +kernel
theorem dX11_hung_1 : decode cX11_hung 1 = .ok (.getfield 212, 3) := by decide +kernel
theorem dX11_hung_4 : decode cX11_hung 4 = .ok (.iconst (-1), 1) := by decide +kernel
theorem dX11_hung_5 : decode cX11_hung 5 = .ok (.if_icmp .eq 15, 3) := by decide +kernel
theorem dX11_hung_20 : decode cX11_hung 20 = .ok (.iconst (-1), 1) := by decide +kernel
theorem dX11_hung_21 : decode cX11_hung 21 = .ok (.ireturn, 1) := by decide +kernel
theorem dX11_peel_0 : decode cX11_peel 0 = .ok (.aload_n 0, 1) := by decide +kernel
theorem dX11_peel_1 : decode cX11_peel 1 = .ok (.getfield 415, 3) := by decide +kernel
theorem dX11_peel_4 : decode cX11_peel 4 = .ok (.ifCond .eq 14, 3) := by decide +kernel
theorem dX11_peel_18 : decode cX11_peel 18 = .ok (.iconst (-1), 1) := by decide +kernel
theorem dX11_peel_19 : decode cX11_peel 19 = .ok (.ireturn, 1) := by decide +kernel
theorem dX11_front_0 : decode cX11_front 0 = .ok (.iload_n 1, 1) := by decide +kernel
theorem dX11_front_1 : decode cX11_front 1 = .ok (.ifCond .lt 11, 3) := by decide +kernel
theorem dX11_front_4 : decode cX11_front 4 = .ok (.iload_n 1, 1) := by decide +kernel
theorem dX11_front_5 : decode cX11_front 5 = .ok (.aload_n 0, 1) := by decide +kernel
theorem dX11_front_6 : decode cX11_front 6 = .ok (.getfield 227, 3) := by decide +kernel
theorem dX11_front_9 : decode cX11_front 9 = .ok (.if_icmp .lt 5, 3) := by decide +kernel
theorem dX11_front_12 : decode cX11_front 12 = .ok (.iconst (-1), 1) := by decide +kernel
theorem dX11_front_13 : decode cX11_front 13 = .ok (.ireturn, 1) := by decide +kernel
theorem dX11_work_0 : decode cX11_work 0 = .ok (.aload_n 0, 1) := by decide +kernel
theorem dX11_work_1 : decode cX11_work 1 = .ok (.getfield 227, 3) := by decide +kernel
theorem dX11_work_4 : decode cX11_work 4 = .ok (.iconst (-1), 1) := by decide +kernel
theorem dX11_work_5 : decode cX11_work 5 = .ok (.if_icmp .ne 7, 3) := by decide +kernel
theorem dX11_work_8 : decode cX11_work 8 = .ok (.ldc2_w 439, 3) := by decide +kernel
theorem dX11_work_11 : decode cX11_work 11 = .ok (.lreturn, 1) := by decide +kernel
theorem dX11_patch_0 : decode cX11_patch 0 = .ok (.iload_n 1, 1) := by decide +kernel
theorem dX11_patch_1 : decode cX11_patch 1 = .ok (.i2l, 1) := by decide +kernel
theorem dX11_patch_2 : decode cX11_patch 2 = .ok (.lconst 0, 1) := by decide +kernel
theorem dX11_patch_3 : decode cX11_patch 3 = .ok (.ldc2_w 425, 3) := by decide +kernel
theorem dX11_patch_6 : decode cX11_patch 6 = .ok (.invokestatic 300, 3) := by decide +kernel
theorem dX11_patch_9 : decode cX11_patch 9 = .ok (.ifCond .eq 36, 3) := by decide +kernel
theorem dX11_patch_12 : decode cX11_patch 12 = .ok (.iload_n 2, 1) := by decide +kernel
theorem dX11_patch_13 : decode cX11_patch 13 = .ok (.i2l, 1) := by decide +kernel
theorem dX11_patch_14 : decode cX11_patch 14 = .ok (.lconst 1, 1) := by decide +kernel
theorem dX11_patch_15 : decode cX11_patch 15 = .ok (.ldc2_w 552, 3) := by decide +kernel
theorem dX11_patch_18 : decode cX11_patch 18 = .ok (.invokestatic 300, 3) := by decide +kernel
theorem dX11_patch_21 : decode cX11_patch 21 = .ok (.ifCond .eq 24, 3) := by decide +kernel
theorem dX11_patch_24 : decode cX11_patch 24 = .ok (.iload_n 3, 1) := by decide +kernel
theorem dX11_patch_25 : decode cX11_patch 25 = .ok (.i2l, 1) := by decide +kernel
theorem dX11_patch_26 : decode cX11_patch 26 = .ok (.lconst 1, 1) := by decide +kernel
theorem dX11_patch_27 : decode cX11_patch 27 = .ok (.ldc2_w 552, 3) := by decide +kernel
theorem dX11_patch_30 : decode cX11_patch 30 = .ok (.invokestatic 300, 3) := by decide +kernel
theorem dX11_patch_33 : decode cX11_patch 33 = .ok (.ifCond .eq 12, 3) := by decide +kernel
theorem dX11_patch_36 : decode cX11_patch 36 = .ok (.aload_n 0, 1) := by decide +kernel
theorem dX11_patch_37 : decode cX11_patch 37 = .ok (.getfield 554, 3) := by decide +kernel
theorem dX11_patch_40 : decode cX11_patch 40 = .ok (.bipush 12, 2) := by decide +kernel
theorem dX11_patch_42 : decode cX11_patch 42 = .ok (.if_icmp .ne 5, 3) := by decide +kernel
theorem dX11_patch_45 : decode cX11_patch 45 = .ok (.iconst (-1), 1) := by decide +kernel
theorem dX11_patch_46 : decode cX11_patch 46 = .ok (.ireturn, 1) := by decide +kernel
theorem dX11_patch_47 : decode cX11_patch 47 = .ok (.aload_n 0, 1) := by decide +kernel
theorem dX11_patch_48 : decode cX11_patch 48 = .ok (.getfield 239, 3) := by decide +kernel
theorem dX11_patch_51 : decode cX11_patch 51 = .ok (.aload_n 0, 1) := by decide +kernel
theorem dX11_patch_52 : decode cX11_patch 52 = .ok (.getfield 554, 3) := by decide +kernel
theorem dX11_patch_55 : decode cX11_patch 55 = .ok (.iload_n 1, 1) := by decide +kernel
theorem dX11_patch_56 : decode cX11_patch 56 = .ok (.iastore, 1) := by decide +kernel
theorem dX11_patch_57 : decode cX11_patch 57 = .ok (.aload_n 0, 1) := by decide +kernel
theorem dX11_patch_58 : decode cX11_patch 58 = .ok (.getfield 242, 3) := by decide +kernel
theorem dX11_patch_61 : decode cX11_patch 61 = .ok (.aload_n 0, 1) := by decide +kernel
theorem dX11_patch_62 : decode cX11_patch 62 = .ok (.getfield 554, 3) := by decide +kernel
theorem dX11_patch_65 : decode cX11_patch 65 = .ok (.iload_n 2, 1) := by decide +kernel
theorem dX11_patch_66 : decode cX11_patch 66 = .ok (.iastore, 1) := by decide +kernel
theorem dX11_patch_67 : decode cX11_patch 67 = .ok (.aload_n 0, 1) := by decide +kernel
theorem dX11_patch_68 : decode cX11_patch 68 = .ok (.getfield 245, 3) := by decide +kernel
theorem dX11_patch_71 : decode cX11_patch 71 = .ok (.aload_n 0, 1) := by decide +kernel
theorem dX11_patch_72 : decode cX11_patch 72 = .ok (.getfield 554, 3) := by decide +kernel
theorem dX11_patch_75 : decode cX11_patch 75 = .ok (.iload_n 3, 1) := by decide +kernel
theorem dX11_patch_76 : decode cX11_patch 76 = .ok (.iastore, 1) := by decide +kernel
theorem dX11_patch_77 : decode cX11_patch 77 = .ok (.aload_n 0, 1) := by decide +kernel
theorem dX11_patch_78 : decode cX11_patch 78 = .ok (.dup, 1) := by decide +kernel
theorem dX11_patch_79 : decode cX11_patch 79 = .ok (.getfield 554, 3) := by decide +kernel
theorem dX11_patch_82 : decode cX11_patch 82 = .ok (.iconst 1, 1) := by decide +kernel
theorem dX11_patch_83 : decode cX11_patch 83 = .ok (.iadd, 1) := by decide +kernel
theorem dX11_patch_84 : decode cX11_patch 84 = .ok (.putfield 554, 3) := by decide +kernel
theorem dX11_patch_87 : decode cX11_patch 87 = .ok (.aload_n 0, 1) := by decide +kernel
theorem dX11_patch_88 : decode cX11_patch 88 = .ok (.getfield 554, 3) := by decide +kernel
theorem dX11_patch_91 : decode cX11_patch 91 = .ok (.ireturn, 1) := by decide +kernel
theorem dX11_force_0 : decode cX11_force 0 = .ok (.iload_n 1, 1) := by decide +kernel
theorem dX11_force_1 : decode cX11_force 1 = .ok (.i2l, 1) := by decide +kernel
theorem dX11_force_2 : decode cX11_force 2 = .ok (.lconst 0, 1) := by decide +kernel
theorem dX11_force_3 : decode cX11_force 3 = .ok (.ldc2_w 425, 3) := by decide +kernel
theorem dX11_force_6 : decode cX11_force 6 = .ok (.invokestatic 300, 3) := by decide +kernel
theorem dX11_force_9 : decode cX11_force 9 = .ok (.ifCond .eq 24, 3) := by decide +kernel
theorem dX11_force_12 : decode cX11_force 12 = .ok (.iload_n 2, 1) := by decide +kernel
theorem dX11_force_13 : decode cX11_force 13 = .ok (.i2l, 1) := by decide +kernel
theorem dX11_force_14 : decode cX11_force 14 = .ok (.lconst 1, 1) := by decide +kernel
theorem dX11_force_15 : decode cX11_force 15 = .ok (.ldc2_w 557, 3) := by decide +kernel
theorem dX11_force_18 : decode cX11_force 18 = .ok (.invokestatic 300, 3) := by decide +kernel
theorem dX11_force_21 : decode cX11_force 21 = .ok (.ifCond .eq 12, 3) := by decide +kernel
theorem dX11_force_24 : decode cX11_force 24 = .ok (.aload_n 0, 1) := by decide +kernel
theorem dX11_force_25 : decode cX11_force 25 = .ok (.getfield 559, 3) := by decide +kernel
theorem dX11_force_28 : decode cX11_force 28 = .ok (.bipush 8, 2) := by decide +kernel
theorem dX11_force_30 : decode cX11_force 30 = .ok (.if_icmp .ne 5, 3) := by decide +kernel
theorem dX11_force_33 : decode cX11_force 33 = .ok (.iconst (-1), 1) := by decide +kernel
theorem dX11_force_34 : decode cX11_force 34 = .ok (.ireturn, 1) := by decide +kernel
theorem dX11_force_35 : decode cX11_force 35 = .ok (.aload_n 0, 1) := by decide +kernel
theorem dX11_force_36 : decode cX11_force 36 = .ok (.getfield 248, 3) := by decide +kernel
theorem dX11_force_39 : decode cX11_force 39 = .ok (.aload_n 0, 1) := by decide +kernel
theorem dX11_force_40 : decode cX11_force 40 = .ok (.getfield 559, 3) := by decide +kernel
theorem dX11_force_43 : decode cX11_force 43 = .ok (.iload_n 1, 1) := by decide +kernel
theorem dX11_force_44 : decode cX11_force 44 = .ok (.iastore, 1) := by decide +kernel
theorem dX11_force_45 : decode cX11_force 45 = .ok (.aload_n 0, 1) := by decide +kernel
theorem dX11_force_46 : decode cX11_force 46 = .ok (.getfield 251, 3) := by decide +kernel
theorem dX11_force_49 : decode cX11_force 49 = .ok (.aload_n 0, 1) := by decide +kernel
theorem dX11_force_50 : decode cX11_force 50 = .ok (.getfield 559, 3) := by decide +kernel
theorem dX11_force_53 : decode cX11_force 53 = .ok (.iload_n 2, 1) := by decide +kernel
theorem dX11_force_54 : decode cX11_force 54 = .ok (.iastore, 1) := by decide +kernel
theorem dX11_force_55 : decode cX11_force 55 = .ok (.aload_n 0, 1) := by decide +kernel
theorem dX11_force_56 : decode cX11_force 56 = .ok (.dup, 1) := by decide +kernel
theorem dX11_force_57 : decode cX11_force 57 = .ok (.getfield 559, 3) := by decide +kernel
theorem dX11_force_60 : decode cX11_force 60 = .ok (.iconst 1, 1) := by decide +kernel
theorem dX11_force_61 : decode cX11_force 61 = .ok (.iadd, 1) := by decide +kernel
theorem dX11_force_62 : decode cX11_force 62 = .ok (.putfield 559, 3) := by decide +kernel
theorem dX11_force_65 : decode cX11_force 65 = .ok (.aload_n 0, 1) := by decide +kernel
theorem dX11_force_66 : decode cX11_force 66 = .ok (.getfield 559, 3) := by decide +kernel
theorem dX11_force_69 : decode cX11_force 69 = .ok (.ireturn, 1) := by decide +kernel
theorem dX11_clear_0 : decode cX11_clear 0 = .ok (.aload_n 0, 1) := by decide +kernel
theorem dX11_clear_1 : decode cX11_clear 1 = .ok (.getfield 554, 3) := by decide +kernel
theorem dX11_clear_4 : decode cX11_clear 4 = .ok (.istore_n 1, 1) := by decide +kernel
theorem dX11_clear_5 : decode cX11_clear 5 = .ok (.aload_n 0, 1) := by decide +kernel
theorem dX11_clear_6 : decode cX11_clear 6 = .ok (.iconst 0, 1) := by decide +kernel
theorem dX11_clear_7 : decode cX11_clear 7 = .ok (.putfield 554, 3) := by decide +kernel
theorem dX11_clear_10 : decode cX11_clear 10 = .ok (.aload_n 0, 1) := by decide +kernel
theorem dX11_clear_11 : decode cX11_clear 11 = .ok (.iconst 0, 1) := by decide +kernel
theorem dX11_clear_12 : decode cX11_clear 12 = .ok (.putfield 559, 3) := by decide +kernel
theorem dX11_clear_15 : decode cX11_clear 15 = .ok (.iload_n 1, 1) := by decide +kernel
theorem dX11_clear_16 : decode cX11_clear 16 = .ok (.ireturn, 1) := by decide +kernel
theorem dX11_choose_0 : decode cX11_choose 0 = .ok (.iload_n 1, 1) := by decide +kernel
theorem dX11_choose_1 : decode cX11_choose 1 = .ok (.i2l, 1) := by decide +kernel
theorem dX11_choose_2 : decode cX11_choose 2 = .ok (.lconst 0, 1) := by decide +kernel
theorem dX11_choose_3 : decode cX11_choose 3 = .ok (.ldc2_w 425, 3) := by decide +kernel
theorem dX11_choose_6 : decode cX11_choose 6 = .ok (.invokestatic 300, 3) := by decide +kernel
theorem dX11_choose_9 : decode cX11_choose 9 = .ok (.ifCond .eq 15, 3) := by decide +kernel
theorem dX11_choose_12 : decode cX11_choose 12 = .ok (.iload_n 2, 1) := by decide +kernel
theorem dX11_choose_13 : decode cX11_choose 13 = .ok (.i2l, 1) := by decide +kernel
theorem dX11_choose_14 : decode cX11_choose 14 = .ok (.lconst 0, 1) := by decide +kernel
theorem dX11_choose_15 : decode cX11_choose 15 = .ok (.ldc2_w 562, 3) := by decide +kernel
theorem dX11_choose_18 : decode cX11_choose 18 = .ok (.invokestatic 300, 3) := by decide +kernel
theorem dX11_choose_21 : decode cX11_choose 21 = .ok (.ifCond .ne 5, 3) := by decide +kernel
theorem dX11_choose_24 : decode cX11_choose 24 = .ok (.iconst (-1), 1) := by decide +kernel
theorem dX11_choose_25 : decode cX11_choose 25 = .ok (.ireturn, 1) := by decide +kernel
theorem dX11_choose_26 : decode cX11_choose 26 = .ok (.iconst (-1), 1) := by decide +kernel
theorem dX11_choose_27 : decode cX11_choose 27 = .ok (.istore_n 3, 1) := by decide +kernel
theorem dX11_choose_28 : decode cX11_choose 28 = .ok (.iconst 0, 1) := by decide +kernel
theorem dX11_choose_29 : decode cX11_choose 29 = .ok (.istore 4, 2) := by decide +kernel
theorem dX11_choose_31 : decode cX11_choose 31 = .ok (.iconst 0, 1) := by decide +kernel
theorem dX11_choose_32 : decode cX11_choose 32 = .ok (.istore 5, 2) := by decide +kernel
theorem dX11_choose_34 : decode cX11_choose 34 = .ok (.iload 5, 2) := by decide +kernel
theorem dX11_choose_36 : decode cX11_choose 36 = .ok (.iconst 1, 1) := by decide +kernel
theorem dX11_choose_37 : decode cX11_choose 37 = .ok (.aload_n 0, 1) := by decide +kernel
theorem dX11_choose_38 : decode cX11_choose 38 = .ok (.getfield 554, 3) := by decide +kernel
theorem dX11_choose_41 : decode cX11_choose 41 = .ok (.ishl, 1) := by decide +kernel
theorem dX11_choose_42 : decode cX11_choose 42 = .ok (.if_icmp .ge 190, 3) := by decide +kernel
theorem dX11_choose_45 : decode cX11_choose 45 = .ok (.iconst 0, 1) := by decide +kernel
theorem dX11_choose_46 : decode cX11_choose 46 = .ok (.istore 6, 2) := by decide +kernel
theorem dX11_choose_48 : decode cX11_choose 48 = .ok (.iconst 0, 1) := by decide +kernel
theorem dX11_choose_49 : decode cX11_choose 49 = .ok (.istore 7, 2) := by decide +kernel
theorem dX11_choose_51 : decode cX11_choose 51 = .ok (.iconst 0, 1) := by decide +kernel
theorem dX11_choose_52 : decode cX11_choose 52 = .ok (.istore 8, 2) := by decide +kernel
theorem dX11_choose_54 : decode cX11_choose 54 = .ok (.iload 8, 2) := by decide +kernel
theorem dX11_choose_56 : decode cX11_choose 56 = .ok (.aload_n 0, 1) := by decide +kernel
theorem dX11_choose_57 : decode cX11_choose 57 = .ok (.getfield 554, 3) := by decide +kernel
theorem dX11_choose_60 : decode cX11_choose 60 = .ok (.if_icmp .ge 49, 3) := by decide +kernel
theorem dX11_choose_109 : decode cX11_choose 109 = .ok (.iload 7, 2) := by decide +kernel
theorem dX11_choose_111 : decode cX11_choose 111 = .ok (.iload_n 2, 1) := by decide +kernel
theorem dX11_choose_112 : decode cX11_choose 112 = .ok (.if_icmp .gt 7, 3) := by decide +kernel
theorem dX11_choose_115 : decode cX11_choose 115 = .ok (.iconst 1, 1) := by decide +kernel
theorem dX11_choose_116 : decode cX11_choose 116 = .ok (.goto 4, 3) := by decide +kernel
theorem dX11_choose_120 : decode cX11_choose 120 = .ok (.istore 8, 2) := by decide +kernel
theorem dX11_choose_122 : decode cX11_choose 122 = .ok (.iconst 0, 1) := by decide +kernel
theorem dX11_choose_123 : decode cX11_choose 123 = .ok (.istore 9, 2) := by decide +kernel
theorem dX11_choose_125 : decode cX11_choose 125 = .ok (.iload 9, 2) := by decide +kernel
theorem dX11_choose_127 : decode cX11_choose 127 = .ok (.aload_n 0, 1) := by decide +kernel
theorem dX11_choose_128 : decode cX11_choose 128 = .ok (.getfield 559, 3) := by decide +kernel
theorem dX11_choose_131 : decode cX11_choose 131 = .ok (.if_icmp .ge 25, 3) := by decide +kernel
theorem dX11_choose_156 : decode cX11_choose 156 = .ok (.iload 8, 2) := by decide +kernel
theorem dX11_choose_158 : decode cX11_choose 158 = .ok (.ifCond .ne 6, 3) := by decide +kernel
theorem dX11_choose_164 : decode cX11_choose 164 = .ok (.iload_n 3, 1) := by decide +kernel
theorem dX11_choose_165 : decode cX11_choose 165 = .ok (.iconst (-1), 1) := by decide +kernel
theorem dX11_choose_166 : decode cX11_choose 166 = .ok (.if_icmp .eq 53, 3) := by decide +kernel
theorem dX11_choose_219 : decode cX11_choose 219 = .ok (.iload 5, 2) := by decide +kernel
theorem dX11_choose_221 : decode cX11_choose 221 = .ok (.istore_n 3, 1) := by decide +kernel
theorem dX11_choose_222 : decode cX11_choose 222 = .ok (.iload 6, 2) := by decide +kernel
theorem dX11_choose_224 : decode cX11_choose 224 = .ok (.istore 4, 2) := by decide +kernel
theorem dX11_choose_226 : decode cX11_choose 226 = .ok (.iinc 5 1, 3) := by decide +kernel
theorem dX11_choose_229 : decode cX11_choose 229 = .ok (.goto (-195), 3) := by decide +kernel
theorem dX11_choose_232 : decode cX11_choose 232 = .ok (.iload_n 3, 1) := by decide +kernel
theorem dX11_choose_233 : decode cX11_choose 233 = .ok (.iconst (-1), 1) := by decide +kernel
theorem dX11_choose_234 : decode cX11_choose 234 = .ok (.if_icmp .ne 5, 3) := by decide +kernel
theorem dX11_choose_239 : decode cX11_choose 239 = .ok (.aload_n 0, 1) := by decide +kernel
theorem dX11_choose_240 : decode cX11_choose 240 = .ok (.iload_n 3, 1) := by decide +kernel
theorem dX11_choose_241 : decode cX11_choose 241 = .ok (.putfield 254, 3) := by decide +kernel
theorem dX11_choose_244 : decode cX11_choose 244 = .ok (.aload_n 0, 1) := by decide +kernel
theorem dX11_choose_245 : decode cX11_choose 245 = .ok (.aload_n 0, 1) := by decide +kernel
theorem dX11_choose_246 : decode cX11_choose 246 = .ok (.getfield 554, 3) := by decide +kernel
theorem dX11_choose_249 : decode cX11_choose 249 = .ok (.putfield 574, 3) := by decide +kernel
theorem dX11_choose_252 : decode cX11_choose 252 = .ok (.iload 4, 2) := by decide +kernel
theorem dX11_choose_254 : decode cX11_choose 254 = .ok (.ireturn, 1) := by decide +kernel
theorem dX11_chosen_0 : decode cX11_chosen 0 = .ok (.aload_n 0, 1) := by decide +kernel
theorem dX11_chosen_1 : decode cX11_chosen 1 = .ok (.getfield 254, 3) := by decide +kernel
theorem dX11_chosen_4 : decode cX11_chosen 4 = .ok (.iconst (-1), 1) := by decide +kernel
theorem dX11_chosen_5 : decode cX11_chosen 5 = .ok (.if_icmp .eq 26, 3) := by decide +kernel
theorem dX11_chosen_31 : decode cX11_chosen 31 = .ok (.iconst (-1), 1) := by decide +kernel
theorem dX11_chosen_32 : decode cX11_chosen 32 = .ok (.ireturn, 1) := by decide +kernel
theorem dX11_all_0 : decode cX11_all 0 = .ok (.iconst 0, 1) := by decide +kernel
theorem dX11_all_1 : decode cX11_all 1 = .ok (.istore_n 2, 1) := by decide +kernel
theorem dX11_all_2 : decode cX11_all 2 = .ok (.iload_n 1, 1) := by decide +kernel
theorem dX11_all_3 : decode cX11_all 3 = .ok (.tableswitch 108 0 6 #[41, 46, 53, 58, 63, 98, 103], 41) := by decide +kernel
theorem dX11_all_44 : decode cX11_all 44 = .ok (.aload_n 0, 1) := by decide +kernel
theorem dX11_all_45 : decode cX11_all 45 = .ok (.invokevirtual 419, 3) := by decide +kernel
theorem dX11_all_48 : decode cX11_all 48 = .ok (.ireturn, 1) := by decide +kernel
theorem dX11_all_49 : decode cX11_all 49 = .ok (.aload_n 0, 1) := by decide +kernel
theorem dX11_all_50 : decode cX11_all 50 = .ok (.getfield 81, 3) := by decide +kernel
theorem dX11_all_53 : decode cX11_all 53 = .ok (.iconst 1, 1) := by decide +kernel
theorem dX11_all_54 : decode cX11_all 54 = .ok (.iaload, 1) := by decide +kernel
theorem dX11_all_55 : decode cX11_all 55 = .ok (.ireturn, 1) := by decide +kernel
theorem dX11_all_56 : decode cX11_all 56 = .ok (.aload_n 0, 1) := by decide +kernel
theorem dX11_all_57 : decode cX11_all 57 = .ok (.getfield 412, 3) := by decide +kernel
theorem dX11_all_60 : decode cX11_all 60 = .ok (.ireturn, 1) := by decide +kernel
theorem dX11_all_61 : decode cX11_all 61 = .ok (.aload_n 0, 1) := by decide +kernel
theorem dX11_all_62 : decode cX11_all 62 = .ok (.invokevirtual 441, 3) := by decide +kernel
theorem dX11_all_65 : decode cX11_all 65 = .ok (.ireturn, 1) := by decide +kernel
theorem dX11_all_66 : decode cX11_all 66 = .ok (.aload_n 0, 1) := by decide +kernel
theorem dX11_all_67 : decode cX11_all 67 = .ok (.invokevirtual 472, 3) := by decide +kernel
theorem dX11_all_70 : decode cX11_all 70 = .ok (.iconst 0, 1) := by decide +kernel
theorem dX11_all_71 : decode cX11_all 71 = .ok (.istore_n 3, 1) := by decide +kernel
theorem dX11_all_72 : decode cX11_all 72 = .ok (.iload_n 3, 1) := by decide +kernel
theorem dX11_all_73 : decode cX11_all 73 = .ok (.aload_n 0, 1) := by decide +kernel
theorem dX11_all_74 : decode cX11_all 74 = .ok (.invokevirtual 419, 3) := by decide +kernel
theorem dX11_all_77 : decode cX11_all 77 = .ok (.if_icmp .ge 22, 3) := by decide +kernel
theorem dX11_all_80 : decode cX11_all 80 = .ok (.aload_n 0, 1) := by decide +kernel
theorem dX11_all_81 : decode cX11_all 81 = .ok (.getfield 151, 3) := by decide +kernel
theorem dX11_all_84 : decode cX11_all 84 = .ok (.iload_n 3, 1) := by decide +kernel
theorem dX11_all_85 : decode cX11_all 85 = .ok (.iaload, 1) := by decide +kernel
theorem dX11_all_86 : decode cX11_all 86 = .ok (.iconst (-1), 1) := by decide +kernel
theorem dX11_all_87 : decode cX11_all 87 = .ok (.if_icmp .eq 6, 3) := by decide +kernel
theorem dX11_all_93 : decode cX11_all 93 = .ok (.iinc 3 1, 3) := by decide +kernel
theorem dX11_all_96 : decode cX11_all 96 = .ok (.goto (-24), 3) := by decide +kernel
theorem dX11_all_99 : decode cX11_all 99 = .ok (.iload_n 2, 1) := by decide +kernel
theorem dX11_all_100 : decode cX11_all 100 = .ok (.ireturn, 1) := by decide +kernel
theorem dX11_all_101 : decode cX11_all 101 = .ok (.aload_n 0, 1) := by decide +kernel
theorem dX11_all_102 : decode cX11_all 102 = .ok (.getfield 554, 3) := by decide +kernel
theorem dX11_all_105 : decode cX11_all 105 = .ok (.ireturn, 1) := by decide +kernel
theorem dX11_all_106 : decode cX11_all 106 = .ok (.aload_n 0, 1) := by decide +kernel
theorem dX11_all_107 : decode cX11_all 107 = .ok (.getfield 559, 3) := by decide +kernel
theorem dX11_all_110 : decode cX11_all 110 = .ok (.ireturn, 1) := by decide +kernel
theorem dX11_all_111 : decode cX11_all 111 = .ok (.iconst (-1), 1) := by decide +kernel
theorem dX11_all_112 : decode cX11_all 112 = .ok (.ireturn, 1) := by decide +kernel
