theorem dX5_init_13 : decode cX5_init 13 = .ok (.bipush 8, 2) := by decide +kernel
theorem dX5_init_15 : decode cX5_init 15 = .ok (.newarray .int, 2) := by decide +kernel
theorem dX5_init_17 : decode cX5_init 17 = .ok (.putfield 15, 3) := by decide +kernel
theorem dX5_init_20 : decode cX5_init 20 = .ok (.aload_n 0, 1) := by decide +kernel
theorem dX5_init_21 : decode cX5_init 21 = .ok (.bipush 8, 2) := by decide +kernel
theorem dX5_init_23 : decode cX5_init 23 = .ok (.newarray .int, 2) := by decide +kernel
theorem dX5_init_25 : decode cX5_init 25 = .ok (.putfield 18, 3) := by decide +kernel
theorem dX5_init_28 : decode cX5_init 28 = .ok (.aload_n 0, 1) := by decide +kernel
theorem dX5_init_29 : decode cX5_init 29 = .ok (.bipush 8, 2) := by decide +kernel
theorem dX5_init_31 : decode cX5_init 31 = .ok (.newarray .int, 2) := by decide +kernel
theorem dX5_init_33 : decode cX5_init 33 = .ok (.putfield 21, 3) := by decide +kernel
theorem dX5_init_36 : decode cX5_init 36 = .ok (.aload_n 0, 1) := by decide +kernel
theorem dX5_init_37 : decode cX5_init 37 = .ok (.iconst 4, 1) := by decide +kernel
theorem dX5_init_38 : decode cX5_init 38 = .ok (.newarray .int, 2) := by decide +kernel
theorem dX5_init_40 : decode cX5_init 40 = .ok (.putfield 24, 3) := by decide +kernel
theorem dX5_init_43 : decode cX5_init 43 = .ok (.aload_n 0, 1) := by decide +kernel
theorem dX5_init_44 : decode cX5_init 44 = .ok (.iconst 0, 1) := by decide +kernel
theorem dX5_init_45 : decode cX5_init 45 = .ok (.putfield 27, 3) := by decide +kernel
theorem dX5_init_48 : decode cX5_init 48 = .ok (.aload_n 0, 1) := by decide +kernel
theorem dX5_init_49 : decode cX5_init 49 = .ok (.lconst 0, 1) := by decide +kernel
theorem dX5_init_50 : decode cX5_init 50 = .ok (.putfield 31, 3) := by decide +kernel
theorem dX5_init_53 : decode cX5_init 53 = .ok (.aload_n 0, 1) := by decide +kernel
theorem dX5_init_54 : decode cX5_init 54 = .ok (.iconst 0, 1) := by decide +kernel
theorem dX5_init_55 : decode cX5_init 55 = .ok (.putfield 35, 3) := by decide +kernel
theorem dX5_init_58 : decode cX5_init 58 = .ok (.return_, 1) := by decide +kernel
theorem dX5_canWeigh_0 : decode cX5_canWeigh 0 = .ok (.iload_n 0, 1) := by decide +kernel
theorem dX5_canWeigh_1 : decode cX5_canWeigh 1 = .ok (.ifCond .lt 16, 3) := by decide +kernel
theorem dX5_canWeigh_4 : decode cX5_canWeigh 4 = .ok (.iload_n 0, 1) := by decide +kernel
theorem dX5_canWeigh_5 : decode cX5_canWeigh 5 = .ok (.ldc 39, 2) := by decide +kernel
theorem dX5_canWeigh_7 : decode cX5_canWeigh 7 = .ok (.if_icmp .ge 10, 3) := by decide +kernel
theorem dX5_canWeigh_10 : decode cX5_canWeigh 10 = .ok (.iload_n 0, 1) := by decide +kernel
theorem dX5_canWeigh_11 : decode cX5_canWeigh 11 = .ok (.bipush 15, 2) := by decide +kernel
theorem dX5_canWeigh_13 : decode cX5_canWeigh 13 = .ok (.iand, 1) := by decide +kernel
theorem dX5_canWeigh_14 : decode cX5_canWeigh 14 = .ok (.ifCond .ne 5, 3) := by decide +kernel
theorem dX5_canWeigh_17 : decode cX5_canWeigh 17 = .ok (.iconst 0, 1) := by decide +kernel
theorem dX5_canWeigh_18 : decode cX5_canWeigh 18 = .ok (.ireturn, 1) := by decide +kernel
theorem dX5_canWeigh_19 : decode cX5_canWeigh 19 = .ok (.iconst 0, 1) := by decide +kernel
theorem dX5_canWeigh_20 : decode cX5_canWeigh 20 = .ok (.istore_n 1, 1) := by decide +kernel
theorem dX5_canWeigh_21 : decode cX5_canWeigh 21 = .ok (.iload_n 1, 1) := by decide +kernel
theorem dX5_canWeigh_22 : decode cX5_canWeigh 22 = .ok (.iconst 4, 1) := by decide +kernel
theorem dX5_canWeigh_23 : decode cX5_canWeigh 23 = .ok (.if_icmp .ge 24, 3) := by decide +kernel
theorem dX5_canWeigh_26 : decode cX5_canWeigh 26 = .ok (.iload_n 0, 1) := by decide +kernel
theorem dX5_canWeigh_27 : decode cX5_canWeigh 27 = .ok (.iconst 4, 1) := by decide +kernel
theorem dX5_canWeigh_28 : decode cX5_canWeigh 28 = .ok (.iload_n 1, 1) := by decide +kernel
theorem dX5_canWeigh_29 : decode cX5_canWeigh 29 = .ok (.imul, 1) := by decide +kernel
theorem dX5_canWeigh_30 : decode cX5_canWeigh 30 = .ok (.ishr, 1) := by decide +kernel
theorem dX5_canWeigh_31 : decode cX5_canWeigh 31 = .ok (.bipush 15, 2) := by decide +kernel
theorem dX5_canWeigh_33 : decode cX5_canWeigh 33 = .ok (.iand, 1) := by decide +kernel
theorem dX5_canWeigh_34 : decode cX5_canWeigh 34 = .ok (.bipush 9, 2) := by decide +kernel
theorem dX5_canWeigh_36 : decode cX5_canWeigh 36 = .ok (.if_icmp .le 5, 3) := by decide +kernel
theorem dX5_canWeigh_39 : decode cX5_canWeigh 39 = .ok (.iconst 0, 1) := by decide +kernel
theorem dX5_canWeigh_40 : decode cX5_canWeigh 40 = .ok (.ireturn, 1) := by decide +kernel
theorem dX5_canWeigh_41 : decode cX5_canWeigh 41 = .ok (.iinc 1 1, 3) := by decide +kernel
theorem dX5_canWeigh_44 : decode cX5_canWeigh 44 = .ok (.goto (-23), 3) := by decide +kernel
theorem dX5_canWeigh_47 : decode cX5_canWeigh 47 = .ok (.iconst 1, 1) := by decide +kernel
theorem dX5_canWeigh_48 : decode cX5_canWeigh 48 = .ok (.ireturn, 1) := by decide +kernel
theorem dX5_follow_0 : decode cX5_follow 0 = .ok (.bipush 8, 2) := by decide +kernel
theorem dX5_follow_2 : decode cX5_follow 2 = .ok (.aload_n 1, 1) := by decide +kernel
theorem dX5_follow_3 : decode cX5_follow 3 = .ok (.getfield 40, 3) := by decide +kernel
theorem dX5_follow_6 : decode cX5_follow 6 = .ok (.iconst 1, 1) := by decide +kernel
theorem dX5_follow_7 : decode cX5_follow 7 = .ok (.aload_n 1, 1) := by decide +kernel
theorem dX5_follow_8 : decode cX5_follow 8 = .ok (.getfield 45, 3) := by decide +kernel
theorem dX5_follow_11 : decode cX5_follow 11 = .ok (.invokestatic 48, 3) := by decide +kernel
theorem dX5_follow_14 : decode cX5_follow 14 = .ok (.idiv, 1) := by decide +kernel
theorem dX5_follow_15 : decode cX5_follow 15 = .ok (.invokestatic 54, 3) := by decide +kernel
theorem dX5_follow_18 : decode cX5_follow 18 = .ok (.istore 4, 2) := by decide +kernel
theorem dX5_follow_20 : decode cX5_follow 20 = .ok (.aload_n 0, 1) := by decide +kernel
theorem dX5_follow_21 : decode cX5_follow 21 = .ok (.iconst 1, 1) := by decide +kernel
theorem dX5_follow_22 : decode cX5_follow 22 = .ok (.putfield 35, 3) := by decide +kernel
theorem dX5_follow_25 : decode cX5_follow 25 = .ok (.aload_n 0, 1) := by decide +kernel
theorem dX5_follow_26 : decode cX5_follow 26 = .ok (.iconst 0, 1) := by decide +kernel
theorem dX5_follow_27 : decode cX5_follow 27 = .ok (.putfield 27, 3) := by decide +kernel
theorem dX5_follow_30 : decode cX5_follow 30 = .ok (.aload_n 0, 1) := by decide +kernel
theorem dX5_follow_31 : decode cX5_follow 31 = .ok (.lconst 0, 1) := by decide +kernel
theorem dX5_follow_32 : decode cX5_follow 32 = .ok (.putfield 31, 3) := by decide +kernel
theorem dX5_follow_35 : decode cX5_follow 35 = .ok (.iconst 0, 1) := by decide +kernel
theorem dX5_follow_36 : decode cX5_follow 36 = .ok (.istore 5, 2) := by decide +kernel
theorem dX5_follow_38 : decode cX5_follow 38 = .ok (.iload 5, 2) := by decide +kernel
theorem dX5_follow_40 : decode cX5_follow 40 = .ok (.iconst 4, 1) := by decide +kernel
theorem dX5_follow_41 : decode cX5_follow 41 = .ok (.if_icmp .ge 25, 3) := by decide +kernel
theorem dX5_follow_44 : decode cX5_follow 44 = .ok (.aload_n 0, 1) := by decide +kernel
theorem dX5_follow_45 : decode cX5_follow 45 = .ok (.getfield 24, 3) := by decide +kernel
theorem dX5_follow_48 : decode cX5_follow 48 = .ok (.iload 5, 2) := by decide +kernel
theorem dX5_follow_50 : decode cX5_follow 50 = .ok (.iload_n 3, 1) := by decide +kernel
theorem dX5_follow_51 : decode cX5_follow 51 = .ok (.iconst 4, 1) := by decide +kernel
theorem dX5_follow_52 : decode cX5_follow 52 = .ok (.iload 5, 2) := by decide +kernel
theorem dX5_follow_54 : decode cX5_follow 54 = .ok (.imul, 1) := by decide +kernel
theorem dX5_follow_55 : decode cX5_follow 55 = .ok (.ishr, 1) := by decide +kernel
theorem dX5_follow_56 : decode cX5_follow 56 = .ok (.bipush 15, 2) := by decide +kernel
theorem dX5_follow_58 : decode cX5_follow 58 = .ok (.iand, 1) := by decide +kernel
theorem dX5_follow_59 : decode cX5_follow 59 = .ok (.iastore, 1) := by decide +kernel
theorem dX5_follow_60 : decode cX5_follow 60 = .ok (.iinc 5 1, 3) := by decide +kernel
theorem dX5_follow_63 : decode cX5_follow 63 = .ok (.goto (-25), 3) := by decide +kernel
theorem dX5_follow_66 : decode cX5_follow 66 = .ok (.iconst 0, 1) := by decide +kernel
theorem dX5_follow_67 : decode cX5_follow 67 = .ok (.istore 5, 2) := by decide +kernel
theorem dX5_follow_69 : decode cX5_follow 69 = .ok (.iload 5, 2) := by decide +kernel
theorem dX5_follow_71 : decode cX5_follow 71 = .ok (.iload 4, 2) := by decide +kernel
theorem dX5_follow_73 : decode cX5_follow 73 = .ok (.if_icmp .ge 36, 3) := by decide +kernel
theorem dX5_follow_76 : decode cX5_follow 76 = .ok (.aload_n 0, 1) := by decide +kernel
theorem dX5_follow_77 : decode cX5_follow 77 = .ok (.getfield 21, 3) := by decide +kernel
theorem dX5_follow_80 : decode cX5_follow 80 = .ok (.iload 5, 2) := by decide +kernel
theorem dX5_follow_82 : decode cX5_follow 82 = .ok (.aload_n 1, 1) := by decide +kernel
theorem dX5_follow_83 : decode cX5_follow 83 = .ok (.iload_n 2, 1) := by decide +kernel
theorem dX5_follow_84 : decode cX5_follow 84 = .ok (.ifCond .eq 8, 3) := by decide +kernel
theorem dX5_follow_87 : decode cX5_follow 87 = .ok (.iload 5, 2) := by decide +kernel
theorem dX5_follow_89 : decode cX5_follow 89 = .ok (.goto 10, 3) := by decide +kernel
theorem dX5_follow_92 : decode cX5_follow 92 = .ok (.iload 4, 2) := by decide +kernel
theorem dX5_follow_94 : decode cX5_follow 94 = .ok (.iconst 1, 1) := by decide +kernel
theorem dX5_follow_95 : decode cX5_follow 95 = .ok (.isub, 1) := by decide +kernel
theorem dX5_follow_96 : decode cX5_follow 96 = .ok (.iload 5, 2) := by decide +kernel
theorem dX5_follow_98 : decode cX5_follow 98 = .ok (.isub, 1) := by decide +kernel
theorem dX5_follow_99 : decode cX5_follow 99 = .ok (.invokestatic 57, 3) := by decide +kernel
theorem dX5_follow_102 : decode cX5_follow 102 = .ok (.iastore, 1) := by decide +kernel
theorem dX5_follow_103 : decode cX5_follow 103 = .ok (.iinc 5 1, 3) := by decide +kernel
theorem dX5_follow_106 : decode cX5_follow 106 = .ok (.goto (-37), 3) := by decide +kernel
theorem dX5_follow_109 : decode cX5_follow 109 = .ok (.iconst 0, 1) := by decide +kernel
theorem dX5_follow_110 : decode cX5_follow 110 = .ok (.istore 5, 2) := by decide +kernel
theorem dX5_follow_112 : decode cX5_follow 112 = .ok (.iload 5, 2) := by decide +kernel
theorem dX5_follow_114 : decode cX5_follow 114 = .ok (.iload 4, 2) := by decide +kernel
theorem dX5_follow_116 : decode cX5_follow 116 = .ok (.if_icmp .ge 85, 3) := by decide +kernel
theorem dX5_follow_119 : decode cX5_follow 119 = .ok (.aload_n 0, 1) := by decide +kernel
theorem dX5_follow_120 : decode cX5_follow 120 = .ok (.iload 5, 2) := by decide +kernel
theorem dX5_follow_122 : decode cX5_follow 122 = .ok (.iload 4, 2) := by decide +kernel
theorem dX5_follow_124 : decode cX5_follow 124 = .ok (.invokevirtual 61, 3) := by decide +kernel
theorem dX5_follow_127 : decode cX5_follow 127 = .ok (.aload_n 0, 1) := by decide +kernel
theorem dX5_follow_128 : decode cX5_follow 128 = .ok (.getfield 9, 3) := by decide +kernel
theorem dX5_follow_131 : decode cX5_follow 131 = .ok (.aload_n 0, 1) := by decide +kernel
theorem dX5_follow_132 : decode cX5_follow 132 = .ok (.getfield 27, 3) := by decide +kernel
theorem dX5_follow_135 : decode cX5_follow 135 = .ok (.iload_n 2, 1) := by decide +kernel
theorem dX5_follow_136 : decode cX5_follow 136 = .ok (.ifCond .eq 8, 3) := by decide +kernel
theorem dX5_follow_139 : decode cX5_follow 139 = .ok (.iload 5, 2) := by decide +kernel
theorem dX5_follow_141 : decode cX5_follow 141 = .ok (.goto 10, 3) := by decide +kernel
theorem dX5_follow_144 : decode cX5_follow 144 = .ok (.iload 4, 2) := by decide +kernel
theorem dX5_follow_146 : decode cX5_follow 146 = .ok (.iconst 1, 1) := by decide +kernel
theorem dX5_follow_147 : decode cX5_follow 147 = .ok (.isub, 1) := by decide +kernel
theorem dX5_follow_148 : decode cX5_follow 148 = .ok (.iload 5, 2) := by decide +kernel
theorem dX5_follow_150 : decode cX5_follow 150 = .ok (.isub, 1) := by decide +kernel
theorem dX5_follow_151 : decode cX5_follow 151 = .ok (.iastore, 1) := by decide +kernel
theorem dX5_follow_152 : decode cX5_follow 152 = .ok (.aload_n 0, 1) := by decide +kernel
theorem dX5_follow_153 : decode cX5_follow 153 = .ok (.dup, 1) := by decide +kernel
theorem dX5_follow_154 : decode cX5_follow 154 = .ok (.getfield 31, 3) := by decide +kernel
theorem dX5_follow_157 : decode cX5_follow 157 = .ok (.aload_n 0, 1) := by decide +kernel
theorem dX5_follow_158 : decode cX5_follow 158 = .ok (.getfield 15, 3) := by decide +kernel
theorem dX5_follow_161 : decode cX5_follow 161 = .ok (.aload_n 0, 1) := by decide +kernel
theorem dX5_follow_162 : decode cX5_follow 162 = .ok (.getfield 27, 3) := by decide +kernel
theorem dX5_follow_165 : decode cX5_follow 165 = .ok (.iaload, 1) := by decide +kernel
theorem dX5_follow_166 : decode cX5_follow 166 = .ok (.i2l, 1) := by decide +kernel
theorem dX5_follow_167 : decode cX5_follow 167 = .ok (.ladd, 1) := by decide +kernel
theorem dX5_follow_168 : decode cX5_follow 168 = .ok (.putfield 31, 3) := by decide +kernel
theorem dX5_follow_171 : decode cX5_follow 171 = .ok (.iload 5, 2) := by decide +kernel
theorem dX5_follow_173 : decode cX5_follow 173 = .ok (.aload_n 0, 1) := by decide +kernel
theorem dX5_follow_174 : decode cX5_follow 174 = .ok (.getfield 18, 3) := by decide +kernel
theorem dX5_follow_177 : decode cX5_follow 177 = .ok (.aload_n 0, 1) := by decide +kernel
theorem dX5_follow_178 : decode cX5_follow 178 = .ok (.getfield 27, 3) := by decide +kernel
theorem dX5_follow_181 : decode cX5_follow 181 = .ok (.iaload, 1) := by decide +kernel
theorem dX5_follow_182 : decode cX5_follow 182 = .ok (.iadd, 1) := by decide +kernel
theorem dX5_follow_183 : decode cX5_follow 183 = .ok (.istore 5, 2) := by decide +kernel
theorem dX5_follow_185 : decode cX5_follow 185 = .ok (.aload_n 0, 1) := by decide +kernel
theorem dX5_follow_186 : decode cX5_follow 186 = .ok (.dup, 1) := by decide +kernel
theorem dX5_follow_187 : decode cX5_follow 187 = .ok (.getfield 27, 3) := by decide +kernel
theorem dX5_follow_190 : decode cX5_follow 190 = .ok (.iconst 1, 1) := by decide +kernel
theorem dX5_follow_191 : decode cX5_follow 191 = .ok (.iadd, 1) := by decide +kernel
theorem dX5_follow_192 : decode cX5_follow 192 = .ok (.putfield 27, 3) := by decide +kernel
theorem dX5_follow_195 : decode cX5_follow 195 = .ok (.iinc 5 1, 3) := by decide +kernel
theorem dX5_follow_198 : decode cX5_follow 198 = .ok (.goto (-86), 3) := by decide +kernel
theorem dX5_follow_201 : decode cX5_follow 201 = .ok (.return_, 1) := by decide +kernel
theorem dX5_holdOf_0 : decode cX5_holdOf 0 = .ok (.iconst 0, 1) := by decide +kernel
theorem dX5_holdOf_1 : decode cX5_holdOf 1 = .ok (.istore_n 2, 1) := by decide +kernel
theorem dX5_holdOf_2 : decode cX5_holdOf 2 = .ok (.iconst 0, 1) := by decide +kernel
theorem dX5_holdOf_3 : decode cX5_holdOf 3 = .ok (.istore_n 3, 1) := by decide +kernel
theorem dX5_holdOf_4 : decode cX5_holdOf 4 = .ok (.iload_n 3, 1) := by decide +kernel
theorem dX5_holdOf_5 : decode cX5_holdOf 5 = .ok (.aload_n 0, 1) := by decide +kernel
theorem dX5_holdOf_6 : decode cX5_holdOf 6 = .ok (.getfield 45, 3) := by decide +kernel
theorem dX5_holdOf_9 : decode cX5_holdOf 9 = .ok (.if_icmp .ge 40, 3) := by decide +kernel
theorem dX5_holdOf_12 : decode cX5_holdOf 12 = .ok (.iload_n 1, 1) := by decide +kernel
theorem dX5_holdOf_13 : decode cX5_holdOf 13 = .ok (.aload_n 0, 1) := by decide +kernel
theorem dX5_holdOf_14 : decode cX5_holdOf 14 = .ok (.getfield 45, 3) := by decide +kernel
theorem dX5_holdOf_17 : decode cX5_holdOf 17 = .ok (.imul, 1) := by decide +kernel
theorem dX5_holdOf_18 : decode cX5_holdOf 18 = .ok (.iload_n 3, 1) := by decide +kernel
theorem dX5_holdOf_19 : decode cX5_holdOf 19 = .ok (.iadd, 1) := by decide +kernel
theorem dX5_holdOf_20 : decode cX5_holdOf 20 = .ok (.istore 4, 2) := by decide +kernel
theorem dX5_holdOf_22 : decode cX5_holdOf 22 = .ok (.aload_n 0, 1) := by decide +kernel
theorem dX5_holdOf_23 : decode cX5_holdOf 23 = .ok (.getfield 65, 3) := by decide +kernel
theorem dX5_holdOf_26 : decode cX5_holdOf 26 = .ok (.iload 4, 2) := by decide +kernel
theorem dX5_holdOf_28 : decode cX5_holdOf 28 = .ok (.iaload, 1) := by decide +kernel
theorem dX5_holdOf_29 : decode cX5_holdOf 29 = .ok (.iconst 1, 1) := by decide +kernel
theorem dX5_holdOf_30 : decode cX5_holdOf 30 = .ok (.if_icmp .ne 13, 3) := by decide +kernel
theorem dX5_holdOf_33 : decode cX5_holdOf 33 = .ok (.iload_n 2, 1) := by decide +kernel
theorem dX5_holdOf_34 : decode cX5_holdOf 34 = .ok (.aload_n 0, 1) := by decide +kernel
theorem dX5_holdOf_35 : decode cX5_holdOf 35 = .ok (.getfield 68, 3) := by decide +kernel
theorem dX5_holdOf_38 : decode cX5_holdOf 38 = .ok (.iload 4, 2) := by decide +kernel
theorem dX5_holdOf_40 : decode cX5_holdOf 40 = .ok (.iaload, 1) := by decide +kernel
theorem dX5_holdOf_41 : decode cX5_holdOf 41 = .ok (.iadd, 1) := by decide +kernel
theorem dX5_holdOf_42 : decode cX5_holdOf 42 = .ok (.istore_n 2, 1) := by decide +kernel
theorem dX5_holdOf_43 : decode cX5_holdOf 43 = .ok (.iinc 3 1, 3) := by decide +kernel
theorem dX5_holdOf_46 : decode cX5_holdOf 46 = .ok (.goto (-42), 3) := by decide +kernel
theorem dX5_holdOf_49 : decode cX5_holdOf 49 = .ok (.iload_n 2, 1) := by decide +kernel
theorem dX5_holdOf_50 : decode cX5_holdOf 50 = .ok (.ireturn, 1) := by decide +kernel
theorem dX5_open_0 : decode cX5_open 0 = .ok (.iconst 0, 1) := by decide +kernel
theorem dX5_open_1 : decode cX5_open 1 = .ok (.istore_n 3, 1) := by decide +kernel
theorem dX5_open_2 : decode cX5_open 2 = .ok (.iconst 0, 1) := by decide +kernel
theorem dX5_open_3 : decode cX5_open 3 = .ok (.istore 4, 2) := by decide +kernel
theorem dX5_open_5 : decode cX5_open 5 = .ok (.iload 4, 2) := by decide +kernel
theorem dX5_open_7 : decode cX5_open 7 = .ok (.iconst 4, 1) := by decide +kernel
theorem dX5_open_8 : decode cX5_open 8 = .ok (.if_icmp .ge 27, 3) := by decide +kernel
theorem dX5_open_11 : decode cX5_open 11 = .ok (.iload_n 1, 1) := by decide +kernel
theorem dX5_open_12 : decode cX5_open 12 = .ok (.iload 4, 2) := by decide +kernel
theorem dX5_open_14 : decode cX5_open 14 = .ok (.iadd, 1) := by decide +kernel
theorem dX5_open_15 : decode cX5_open 15 = .ok (.iload_n 2, 1) := by decide +kernel
theorem dX5_open_16 : decode cX5_open 16 = .ok (.if_icmp .ge 19, 3) := by decide +kernel
theorem dX5_open_19 : decode cX5_open 19 = .ok (.iload_n 3, 1) := by decide +kernel
theorem dX5_open_20 : decode cX5_open 20 = .ok (.aload_n 0, 1) := by decide +kernel
theorem dX5_open_21 : decode cX5_open 21 = .ok (.getfield 24, 3) := by decide +kernel
theorem dX5_open_24 : decode cX5_open 24 = .ok (.iload 4, 2) := by decide +kernel
theorem dX5_open_26 : decode cX5_open 26 = .ok (.iaload, 1) := by decide +kernel
theorem dX5_open_27 : decode cX5_open 27 = .ok (.iadd, 1) := by decide +kernel
theorem dX5_open_28 : decode cX5_open 28 = .ok (.istore_n 3, 1) := by decide +kernel
theorem dX5_open_29 : decode cX5_open 29 = .ok (.iinc 4 1, 3) := by decide +kernel
theorem dX5_open_32 : decode cX5_open 32 = .ok (.goto (-27), 3) := by decide +kernel
theorem dX5_open_35 : decode cX5_open 35 = .ok (.iconst 1, 1) := by decide +kernel
theorem dX5_open_36 : decode cX5_open 36 = .ok (.iload_n 3, 1) := by decide +kernel
theorem dX5_open_37 : decode cX5_open 37 = .ok (.invokestatic 48, 3) := by decide +kernel
theorem dX5_open_40 : decode cX5_open 40 = .ok (.istore_n 3, 1) := by decide +kernel
theorem dX5_open_41 : decode cX5_open 41 = .ok (.iconst 1, 1) := by decide +kernel
theorem dX5_open_42 : decode cX5_open 42 = .ok (.aload_n 0, 1) := by decide +kernel
theorem dX5_open_43 : decode cX5_open 43 = .ok (.getfield 24, 3) := by decide +kernel
theorem dX5_open_46 : decode cX5_open 46 = .ok (.iconst 0, 1) := by decide +kernel
theorem dX5_open_47 : decode cX5_open 47 = .ok (.iaload, 1) := by decide +kernel
theorem dX5_open_48 : decode cX5_open 48 = .ok (.invokestatic 48, 3) := by decide +kernel
theorem dX5_open_51 : decode cX5_open 51 = .ok (.istore 4, 2) := by decide +kernel
theorem dX5_open_53 : decode cX5_open 53 = .ok (.aload_n 0, 1) := by decide +kernel
theorem dX5_open_54 : decode cX5_open 54 = .ok (.getfield 21, 3) := by decide +kernel
theorem dX5_open_57 : decode cX5_open 57 = .ok (.iload_n 1, 1) := by decide +kernel
theorem dX5_open_58 : decode cX5_open 58 = .ok (.iaload, 1) := by decide +kernel
theorem dX5_open_59 : decode cX5_open 59 = .ok (.iload_n 3, 1) := by decide +kernel
theorem dX5_open_60 : decode cX5_open 60 = .ok (.imul, 1) := by decide +kernel
theorem dX5_open_61 : decode cX5_open 61 = .ok (.iload 4, 2) := by decide +kernel
theorem dX5_open_63 : decode cX5_open 63 = .ok (.iadd, 1) := by decide +kernel
theorem dX5_open_64 : decode cX5_open 64 = .ok (.iconst 1, 1) := by decide +kernel
theorem dX5_open_65 : decode cX5_open 65 = .ok (.isub, 1) := by decide +kernel
theorem dX5_open_66 : decode cX5_open 66 = .ok (.iload 4, 2) := by decide +kernel
theorem dX5_open_68 : decode cX5_open 68 = .ok (.idiv, 1) := by decide +kernel
theorem dX5_open_69 : decode cX5_open 69 = .ok (.istore 5, 2) := by decide +kernel
theorem dX5_open_71 : decode cX5_open 71 = .ok (.iconst 0, 1) := by decide +kernel
theorem dX5_open_72 : decode cX5_open 72 = .ok (.istore 6, 2) := by decide +kernel
theorem dX5_open_74 : decode cX5_open 74 = .ok (.iconst 1, 1) := by decide +kernel
theorem dX5_open_75 : decode cX5_open 75 = .ok (.istore 7, 2) := by decide +kernel
theorem dX5_open_77 : decode cX5_open 77 = .ok (.iload 7, 2) := by decide +kernel
theorem dX5_open_79 : decode cX5_open 79 = .ok (.iconst 4, 1) := by decide +kernel
theorem dX5_open_80 : decode cX5_open 80 = .ok (.if_icmp .ge 48, 3) := by decide +kernel
theorem dX5_open_83 : decode cX5_open 83 = .ok (.iload_n 1, 1) := by decide +kernel
theorem dX5_open_84 : decode cX5_open 84 = .ok (.iload 7, 2) := by decide +kernel
theorem dX5_open_86 : decode cX5_open 86 = .ok (.iadd, 1) := by decide +kernel
theorem dX5_open_87 : decode cX5_open 87 = .ok (.iload_n 2, 1) := by decide +kernel
theorem dX5_open_88 : decode cX5_open 88 = .ok (.if_icmp .ge 40, 3) := by decide +kernel
theorem dX5_open_91 : decode cX5_open 91 = .ok (.iload 5, 2) := by decide +kernel
theorem dX5_open_93 : decode cX5_open 93 = .ok (.aload_n 0, 1) := by decide +kernel
theorem dX5_open_94 : decode cX5_open 94 = .ok (.getfield 24, 3) := by decide +kernel
theorem dX5_open_97 : decode cX5_open 97 = .ok (.iload 7, 2) := by decide +kernel
theorem dX5_open_99 : decode cX5_open 99 = .ok (.iaload, 1) := by decide +kernel
theorem dX5_open_100 : decode cX5_open 100 = .ok (.imul, 1) := by decide +kernel
theorem dX5_open_101 : decode cX5_open 101 = .ok (.iload_n 3, 1) := by decide +kernel
theorem dX5_open_102 : decode cX5_open 102 = .ok (.idiv, 1) := by decide +kernel
theorem dX5_open_103 : decode cX5_open 103 = .ok (.aload_n 0, 1) := by decide +kernel
theorem dX5_open_104 : decode cX5_open 104 = .ok (.getfield 21, 3) := by decide +kernel
theorem dX5_open_107 : decode cX5_open 107 = .ok (.iload_n 1, 1) := by decide +kernel
theorem dX5_open_108 : decode cX5_open 108 = .ok (.iload 7, 2) := by decide +kernel
theorem dX5_open_110 : decode cX5_open 110 = .ok (.iadd, 1) := by decide +kernel
theorem dX5_open_111 : decode cX5_open 111 = .ok (.iaload, 1) := by decide +kernel
theorem dX5_open_112 : decode cX5_open 112 = .ok (.if_icmp .ge 6, 3) := by decide +kernel
theorem dX5_open_115 : decode cX5_open 115 = .ok (.goto 13, 3) := by decide +kernel
theorem dX5_open_118 : decode cX5_open 118 = .ok (.iload 7, 2) := by decide +kernel
theorem dX5_open_120 : decode cX5_open 120 = .ok (.istore 6, 2) := by decide +kernel
theorem dX5_open_122 : decode cX5_open 122 = .ok (.iinc 7 1, 3) := by decide +kernel
theorem dX5_open_125 : decode cX5_open 125 = .ok (.goto (-48), 3) := by decide +kernel
theorem dX5_open_128 : decode cX5_open 128 = .ok (.aload_n 0, 1) := by decide +kernel
theorem dX5_open_129 : decode cX5_open 129 = .ok (.getfield 15, 3) := by decide +kernel
theorem dX5_open_132 : decode cX5_open 132 = .ok (.aload_n 0, 1) := by decide +kernel
theorem dX5_open_133 : decode cX5_open 133 = .ok (.getfield 27, 3) := by decide +kernel
theorem dX5_open_136 : decode cX5_open 136 = .ok (.iload 5, 2) := by decide +kernel
theorem dX5_open_138 : decode cX5_open 138 = .ok (.iastore, 1) := by decide +kernel
theorem dX5_open_139 : decode cX5_open 139 = .ok (.aload_n 0, 1) := by decide +kernel
theorem dX5_open_140 : decode cX5_open 140 = .ok (.getfield 18, 3) := by decide +kernel
theorem dX5_open_143 : decode cX5_open 143 = .ok (.aload_n 0, 1) := by decide +kernel
theorem dX5_open_144 : decode cX5_open 144 = .ok (.getfield 27, 3) := by decide +kernel
theorem dX5_open_147 : decode cX5_open 147 = .ok (.iload 6, 2) := by decide +kernel
theorem dX5_open_149 : decode cX5_open 149 = .ok (.iastore, 1) := by decide +kernel
theorem dX5_open_150 : decode cX5_open 150 = .ok (.return_, 1) := by decide +kernel
theorem dX6_init_0 : decode cX6_init 0 = .ok (.aload_n 0, 1) := by decide +kernel
theorem dX6_init_1 : decode cX6_init 1 = .ok (.invokespecial 3, 3) := by decide +kernel
theorem dX6_init_4 : decode cX6_init 4 = .ok (.aload_n 0, 1) := by decide +kernel
theorem dX6_init_5 : decode cX6_init 5 = .ok (.bipush 64, 2) := by decide +kernel
theorem dX6_init_7 : decode cX6_init 7 = .ok (.newarray .int, 2) := by decide +kernel
theorem dX6_init_9 : decode cX6_init 9 = .ok (.putfield 9, 3) := by decide +kernel
theorem dX6_init_12 : decode cX6_init 12 = .ok (.aload_n 0, 1) := by decide +kernel
theorem dX6_init_13 : decode cX6_init 13 = .ok (.bipush 64, 2) := by decide +kernel
theorem dX6_init_15 : decode cX6_init 15 = .ok (.newarray .int, 2) := by decide +kernel
theorem dX6_init_17 : decode cX6_init 17 = .ok (.putfield 15, 3) := by decide +kernel
theorem dX6_init_20 : decode cX6_init 20 = .ok (.aload_n 0, 1) := by decide +kernel
theorem dX6_init_21 : decode cX6_init 21 = .ok (.bipush 64, 2) := by decide +kernel
theorem dX6_init_23 : decode cX6_init 23 = .ok (.newarray .int, 2) := by decide +kernel
theorem dX6_init_25 : decode cX6_init 25 = .ok (.putfield 18, 3) := by decide +kernel
theorem dX6_init_28 : decode cX6_init 28 = .ok (.aload_n 0, 1) := by decide +kernel
theorem dX6_init_29 : decode cX6_init 29 = .ok (.bipush 64, 2) := by decide +kernel
theorem dX6_init_31 : decode cX6_init 31 = .ok (.newarray .int, 2) := by decide +kernel
theorem dX6_init_33 : decode cX6_init 33 = .ok (.putfield 21, 3) := by decide +kernel
theorem dX6_init_36 : decode cX6_init 36 = .ok (.aload_n 0, 1) := by decide +kernel
theorem dX6_init_37 : decode cX6_init 37 = .ok (.iconst 0, 1) := by decide +kernel
theorem dX6_init_38 : decode cX6_init 38 = .ok (.putfield 24, 3) := by decide +kernel
theorem dX6_init_41 : decode cX6_init 41 = .ok (.aload_n 0, 1) := by decide +kernel
theorem dX6_init_42 : decode cX6_init 42 = .ok (.lconst 0, 1) := by decide +kernel
theorem dX6_init_43 : decode cX6_init 43 = .ok (.putfield 28, 3) := by decide +kernel
theorem dX6_init_46 : decode cX6_init 46 = .ok (.aload_n 0, 1) := by decide +kernel
theorem dX6_init_47 : decode cX6_init 47 = .ok (.iconst 0, 1) := by decide +kernel
theorem dX6_init_48 : decode cX6_init 48 = .ok (.putfield 32, 3) := by decide +kernel
theorem dX6_init_51 : decode cX6_init 51 = .ok (.return_, 1) := by decide +kernel
theorem dX6_follow_0 : decode cX6_follow 0 = .ok (.aload_n 0, 1) := by decide +kernel
theorem dX6_follow_1 : decode cX6_follow 1 = .ok (.iconst 1, 1) := by decide +kernel
theorem dX6_follow_2 : decode cX6_follow 2 = .ok (.putfield 32, 3) := by decide +kernel
theorem dX6_follow_5 : decode cX6_follow 5 = .ok (.aload_n 0, 1) := by decide +kernel
theorem dX6_follow_6 : decode cX6_follow 6 = .ok (.iconst 0, 1) := by decide +kernel
theorem dX6_follow_7 : decode cX6_follow 7 = .ok (.putfield 24, 3) := by decide +kernel
theorem dX6_follow_10 : decode cX6_follow 10 = .ok (.iconst 0, 1) := by decide +kernel
theorem dX6_follow_11 : decode cX6_follow 11 = .ok (.istore_n 2, 1) := by decide +kernel
theorem dX6_follow_12 : decode cX6_follow 12 = .ok (.iload_n 2, 1) := by decide +kernel
theorem dX6_follow_13 : decode cX6_follow 13 = .ok (.aload_n 1, 1) := by decide +kernel
theorem dX6_follow_14 : decode cX6_follow 14 = .ok (.getfield 36, 3) := by decide +kernel
theorem dX6_follow_17 : decode cX6_follow 17 = .ok (.if_icmp .ge 42, 3) := by decide +kernel
theorem dX6_follow_20 : decode cX6_follow 20 = .ok (.aload_n 1, 1) := by decide +kernel
theorem dX6_follow_21 : decode cX6_follow 21 = .ok (.getfield 41, 3) := by decide +kernel
theorem dX6_follow_24 : decode cX6_follow 24 = .ok (.iload_n 2, 1) := by decide +kernel
theorem dX6_follow_25 : decode cX6_follow 25 = .ok (.iaload, 1) := by decide +kernel
theorem dX6_follow_26 : decode cX6_follow 26 = .ok (.iconst 1, 1) := by decide +kernel
theorem dX6_follow_27 : decode cX6_follow 27 = .ok (.if_icmp .ne 26, 3) := by decide +kernel
theorem dX6_follow_30 : decode cX6_follow 30 = .ok (.aload_n 0, 1) := by decide +kernel
theorem dX6_follow_31 : decode cX6_follow 31 = .ok (.iload_n 2, 1) := by decide +kernel
theorem dX6_follow_32 : decode cX6_follow 32 = .ok (.aload_n 1, 1) := by decide +kernel
theorem dX6_follow_33 : decode cX6_follow 33 = .ok (.getfield 44, 3) := by decide +kernel
theorem dX6_follow_36 : decode cX6_follow 36 = .ok (.iload_n 2, 1) := by decide +kernel
theorem dX6_follow_37 : decode cX6_follow 37 = .ok (.iaload, 1) := by decide +kernel
theorem dX6_follow_38 : decode cX6_follow 38 = .ok (.aload_n 1, 1) := by decide +kernel
theorem dX6_follow_39 : decode cX6_follow 39 = .ok (.getfield 45, 3) := by decide +kernel
theorem dX6_follow_42 : decode cX6_follow 42 = .ok (.iload_n 2, 1) := by decide +kernel
theorem dX6_follow_43 : decode cX6_follow 43 = .ok (.iaload, 1) := by decide +kernel
theorem dX6_follow_44 : decode cX6_follow 44 = .ok (.aload_n 1, 1) := by decide +kernel
theorem dX6_follow_45 : decode cX6_follow 45 = .ok (.getfield 46, 3) := by decide +kernel
theorem dX6_follow_48 : decode cX6_follow 48 = .ok (.iload_n 2, 1) := by decide +kernel
theorem dX6_follow_49 : decode cX6_follow 49 = .ok (.iaload, 1) := by decide +kernel
theorem dX6_follow_50 : decode cX6_follow 50 = .ok (.invokevirtual 49, 3) := by decide +kernel
theorem dX6_follow_53 : decode cX6_follow 53 = .ok (.iinc 2 1, 3) := by decide +kernel
theorem dX6_follow_56 : decode cX6_follow 56 = .ok (.goto (-44), 3) := by decide +kernel
theorem dX6_follow_59 : decode cX6_follow 59 = .ok (.aload_n 0, 1) := by decide +kernel
theorem dX6_follow_60 : decode cX6_follow 60 = .ok (.lconst 0, 1) := by decide +kernel
theorem dX6_follow_61 : decode cX6_follow 61 = .ok (.putfield 28, 3) := by decide +kernel
theorem dX6_follow_64 : decode cX6_follow 64 = .ok (.iconst 0, 1) := by decide +kernel
theorem dX6_follow_65 : decode cX6_follow 65 = .ok (.istore_n 2, 1) := by decide +kernel
theorem dX6_follow_66 : decode cX6_follow 66 = .ok (.iload_n 2, 1) := by decide +kernel
theorem dX6_follow_67 : decode cX6_follow 67 = .ok (.aload_n 0, 1) := by decide +kernel
theorem dX6_follow_68 : decode cX6_follow 68 = .ok (.getfield 24, 3) := by decide +kernel
theorem dX6_follow_71 : decode cX6_follow 71 = .ok (.if_icmp .ge 37, 3) := by decide +kernel
theorem dX6_follow_74 : decode cX6_follow 74 = .ok (.aload_n 0, 1) := by decide +kernel
theorem dX6_follow_75 : decode cX6_follow 75 = .ok (.aload_n 0, 1) := by decide +kernel
theorem dX6_follow_76 : decode cX6_follow 76 = .ok (.getfield 28, 3) := by decide +kernel
theorem dX6_follow_79 : decode cX6_follow 79 = .ok (.aload_n 0, 1) := by decide +kernel
theorem dX6_follow_80 : decode cX6_follow 80 = .ok (.iload_n 2, 1) := by decide +kernel
theorem dX6_follow_81 : decode cX6_follow 81 = .ok (.invokevirtual 53, 3) := by decide +kernel
theorem dX6_follow_84 : decode cX6_follow 84 = .ok (.iconst 1, 1) := by decide +kernel
theorem dX6_follow_85 : decode cX6_follow 85 = .ok (.aload_n 0, 1) := by decide +kernel
theorem dX6_follow_86 : decode cX6_follow 86 = .ok (.getfield 15, 3) := by decide +kernel
theorem dX6_follow_89 : decode cX6_follow 89 = .ok (.iload_n 2, 1) := by decide +kernel
theorem dX6_follow_90 : decode cX6_follow 90 = .ok (.iaload, 1) := by decide +kernel
theorem dX6_follow_91 : decode cX6_follow 91 = .ok (.invokestatic 57, 3) := by decide +kernel
theorem dX6_follow_94 : decode cX6_follow 94 = .ok (.i2l, 1) := by decide +kernel
theorem dX6_follow_95 : decode cX6_follow 95 = .ok (.ldiv, 1) := by decide +kernel
theorem dX6_follow_96 : decode cX6_follow 96 = .ok (.invokestatic 63, 3) := by decide +kernel
theorem dX6_follow_99 : decode cX6_follow 99 = .ok (.putfield 28, 3) := by decide +kernel
theorem dX6_follow_102 : decode cX6_follow 102 = .ok (.iinc 2 1, 3) := by decide +kernel
theorem dX6_follow_105 : decode cX6_follow 105 = .ok (.goto (-39), 3) := by decide +kernel
theorem dX6_follow_108 : decode cX6_follow 108 = .ok (.return_, 1) := by decide +kernel
theorem dX6_insert_0 : decode cX6_insert 0 = .ok (.aload_n 0, 1) := by decide +kernel
theorem dX6_insert_1 : decode cX6_insert 1 = .ok (.getfield 24, 3) := by decide +kernel
theorem dX6_insert_4 : decode cX6_insert 4 = .ok (.bipush 64, 2) := by decide +kernel
theorem dX6_insert_6 : decode cX6_insert 6 = .ok (.if_icmp .lt 4, 3) := by decide +kernel
theorem dX6_insert_9 : decode cX6_insert 9 = .ok (.return_, 1) := by decide +kernel
theorem dX6_insert_10 : decode cX6_insert 10 = .ok (.aload_n 0, 1) := by decide +kernel
theorem dX6_insert_11 : decode cX6_insert 11 = .ok (.getfield 24, 3) := by decide +kernel
theorem dX6_insert_14 : decode cX6_insert 14 = .ok (.istore 5, 2) := by decide +kernel
theorem dX6_insert_16 : decode cX6_insert 16 = .ok (.iload_n 3, 1) := by decide +kernel
theorem dX6_insert_17 : decode cX6_insert 17 = .ok (.iload_n 2, 1) := by decide +kernel
theorem dX6_insert_18 : decode cX6_insert 18 = .ok (.imul, 1) := by decide +kernel
theorem dX6_insert_19 : decode cX6_insert 19 = .ok (.iload 4, 2) := by decide +kernel
theorem dX6_insert_21 : decode cX6_insert 21 = .ok (.iadd, 1) := by decide +kernel
theorem dX6_insert_22 : decode cX6_insert 22 = .ok (.istore 6, 2) := by decide +kernel
theorem dX6_insert_24 : decode cX6_insert 24 = .ok (.iload 5, 2) := by decide +kernel
theorem dX6_insert_26 : decode cX6_insert 26 = .ok (.ifCond .le 104, 3) := by decide +kernel
theorem dX6_insert_29 : decode cX6_insert 29 = .ok (.aload_n 0, 1) := by decide +kernel
theorem dX6_insert_30 : decode cX6_insert 30 = .ok (.getfield 21, 3) := by decide +kernel
theorem dX6_insert_33 : decode cX6_insert 33 = .ok (.iload 5, 2) := by decide +kernel
theorem dX6_insert_35 : decode cX6_insert 35 = .ok (.iconst 1, 1) := by decide +kernel
theorem dX6_insert_36 : decode cX6_insert 36 = .ok (.isub, 1) := by decide +kernel
theorem dX6_insert_37 : decode cX6_insert 37 = .ok (.iaload, 1) := by decide +kernel
theorem dX6_insert_38 : decode cX6_insert 38 = .ok (.i2l, 1) := by decide +kernel
theorem dX6_insert_39 : decode cX6_insert 39 = .ok (.iload_n 2, 1) := by decide +kernel
theorem dX6_insert_40 : decode cX6_insert 40 = .ok (.i2l, 1) := by decide +kernel
theorem dX6_insert_41 : decode cX6_insert 41 = .ok (.lmul, 1) := by decide +kernel
theorem dX6_insert_42 : decode cX6_insert 42 = .ok (.iload 6, 2) := by decide +kernel
theorem dX6_insert_44 : decode cX6_insert 44 = .ok (.i2l, 1) := by decide +kernel
theorem dX6_insert_45 : decode cX6_insert 45 = .ok (.aload_n 0, 1) := by decide +kernel
theorem dX6_insert_46 : decode cX6_insert 46 = .ok (.getfield 15, 3) := by decide +kernel
theorem dX6_insert_49 : decode cX6_insert 49 = .ok (.iload 5, 2) := by decide +kernel
theorem dX6_insert_51 : decode cX6_insert 51 = .ok (.iconst 1, 1) := by decide +kernel
theorem dX6_insert_52 : decode cX6_insert 52 = .ok (.isub, 1) := by decide +kernel
theorem dX6_insert_53 : decode cX6_insert 53 = .ok (.iaload, 1) := by decide +kernel
theorem dX6_insert_54 : decode cX6_insert 54 = .ok (.i2l, 1) := by decide +kernel
theorem dX6_insert_55 : decode cX6_insert 55 = .ok (.lmul, 1) := by decide +kernel
theorem dX6_insert_56 : decode cX6_insert 56 = .ok (.lcmp, 1) := by decide +kernel
theorem dX6_insert_57 : decode cX6_insert 57 = .ok (.ifCond .le 73, 3) := by decide +kernel
theorem dX6_insert_60 : decode cX6_insert 60 = .ok (.aload_n 0, 1) := by decide +kernel
theorem dX6_insert_61 : decode cX6_insert 61 = .ok (.getfield 9, 3) := by decide +kernel
theorem dX6_insert_64 : decode cX6_insert 64 = .ok (.iload 5, 2) := by decide +kernel
theorem dX6_insert_66 : decode cX6_insert 66 = .ok (.aload_n 0, 1) := by decide +kernel
theorem dX6_insert_67 : decode cX6_insert 67 = .ok (.getfield 9, 3) := by decide +kernel
theorem dX6_insert_70 : decode cX6_insert 70 = .ok (.iload 5, 2) := by decide +kernel
theorem dX6_insert_72 : decode cX6_insert 72 = .ok (.iconst 1, 1) := by decide +kernel
theorem dX6_insert_73 : decode cX6_insert 73 = .ok (.isub, 1) := by decide +kernel
theorem dX6_insert_74 : decode cX6_insert 74 = .ok (.iaload, 1) := by decide +kernel
theorem dX6_insert_75 : decode cX6_insert 75 = .ok (.iastore, 1) := by decide +kernel
theorem dX6_insert_76 : decode cX6_insert 76 = .ok (.aload_n 0, 1) := by decide +kernel
theorem dX6_insert_77 : decode cX6_insert 77 = .ok (.getfield 15, 3) := by decide +kernel
theorem dX6_insert_80 : decode cX6_insert 80 = .ok (.iload 5, 2) := by decide +kernel
theorem dX6_insert_82 : decode cX6_insert 82 = .ok (.aload_n 0, 1) := by decide +kernel
theorem dX6_insert_83 : decode cX6_insert 83 = .ok (.getfield 15, 3) := by decide +kernel
theorem dX6_insert_86 : decode cX6_insert 86 = .ok (.iload 5, 2) := by decide +kernel
theorem dX6_insert_88 : decode cX6_insert 88 = .ok (.iconst 1, 1) := by decide +kernel
theorem dX6_insert_89 : decode cX6_insert 89 = .ok (.isub, 1) := by decide +kernel
theorem dX6_insert_90 : decode cX6_insert 90 = .ok (.iaload, 1) := by decide +kernel
theorem dX6_insert_91 : decode cX6_insert 91 = .ok (.iastore, 1) := by decide +kernel
theorem dX6_insert_92 : decode cX6_insert 92 = .ok (.aload_n 0, 1) := by decide +kernel
theorem dX6_insert_93 : decode cX6_insert 93 = .ok (.getfield 18, 3) := by decide +kernel
theorem dX6_insert_96 : decode cX6_insert 96 = .ok (.iload 5, 2) := by decide +kernel
theorem dX6_insert_98 : decode cX6_insert 98 = .ok (.aload_n 0, 1) := by decide +kernel
theorem dX6_insert_99 : decode cX6_insert 99 = .ok (.getfield 18, 3) := by decide +kernel
theorem dX6_insert_102 : decode cX6_insert 102 = .ok (.iload 5, 2) := by decide +kernel
theorem dX6_insert_104 : decode cX6_insert 104 = .ok (.iconst 1, 1) := by decide +kernel
theorem dX6_insert_105 : decode cX6_insert 105 = .ok (.isub, 1) := by decide +kernel
theorem dX6_insert_106 : decode cX6_insert 106 = .ok (.iaload, 1) := by decide +kernel
theorem dX6_insert_107 : decode cX6_insert 107 = .ok (.iastore, 1) := by decide +kernel
theorem dX6_insert_108 : decode cX6_insert 108 = .ok (.aload_n 0, 1) := by decide +kernel
theorem dX6_insert_109 : decode cX6_insert 109 = .ok (.getfield 21, 3) := by decide +kernel
theorem dX6_insert_112 : decode cX6_insert 112 = .ok (.iload 5, 2) := by decide +kernel
theorem dX6_insert_114 : decode cX6_insert 114 = .ok (.aload_n 0, 1) := by decide +kernel
theorem dX6_insert_115 : decode cX6_insert 115 = .ok (.getfield 21, 3) := by decide +kernel
theorem dX6_insert_118 : decode cX6_insert 118 = .ok (.iload 5, 2) := by decide +kernel
theorem dX6_insert_120 : decode cX6_insert 120 = .ok (.iconst 1, 1) := by decide +kernel
theorem dX6_insert_121 : decode cX6_insert 121 = .ok (.isub, 1) := by decide +kernel
theorem dX6_insert_122 : decode cX6_insert 122 = .ok (.iaload, 1) := by decide +kernel
theorem dX6_insert_123 : decode cX6_insert 123 = .ok (.iastore, 1) := by decide +kernel
theorem dX6_insert_124 : decode cX6_insert 124 = .ok (.iinc 5 (-1), 3) := by decide +kernel
theorem dX6_insert_127 : decode cX6_insert 127 = .ok (.goto (-103), 3) := by decide +kernel
theorem dX6_insert_130 : decode cX6_insert 130 = .ok (.aload_n 0, 1) := by decide +kernel
theorem dX6_insert_131 : decode cX6_insert 131 = .ok (.getfield 9, 3) := by decide +kernel
theorem dX6_insert_134 : decode cX6_insert 134 = .ok (.iload 5, 2) := by decide +kernel
theorem dX6_insert_136 : decode cX6_insert 136 = .ok (.iload_n 1, 1) := by decide +kernel
theorem dX6_insert_137 : decode cX6_insert 137 = .ok (.iastore, 1) := by decide +kernel
theorem dX6_insert_138 : decode cX6_insert 138 = .ok (.aload_n 0, 1) := by decide +kernel
theorem dX6_insert_139 : decode cX6_insert 139 = .ok (.getfield 15, 3) := by decide +kernel
theorem dX6_insert_142 : decode cX6_insert 142 = .ok (.iload 5, 2) := by decide +kernel
theorem dX6_insert_144 : decode cX6_insert 144 = .ok (.iload_n 2, 1) := by decide +kernel
theorem dX6_insert_145 : decode cX6_insert 145 = .ok (.iastore, 1) := by decide +kernel
theorem dX6_insert_146 : decode cX6_insert 146 = .ok (.aload_n 0, 1) := by decide +kernel
theorem dX6_insert_147 : decode cX6_insert 147 = .ok (.getfield 18, 3) := by decide +kernel
theorem dX6_insert_150 : decode cX6_insert 150 = .ok (.iload 5, 2) := by decide +kernel
theorem dX6_insert_152 : decode cX6_insert 152 = .ok (.iload_n 3, 1) := by decide +kernel
theorem dX6_insert_153 : decode cX6_insert 153 = .ok (.iastore, 1) := by decide +kernel
theorem dX6_insert_154 : decode cX6_insert 154 = .ok (.aload_n 0, 1) := by decide +kernel
theorem dX6_insert_155 : decode cX6_insert 155 = .ok (.getfield 21, 3) := by decide +kernel
theorem dX6_insert_158 : decode cX6_insert 158 = .ok (.iload 5, 2) := by decide +kernel
theorem dX6_insert_160 : decode cX6_insert 160 = .ok (.iload 6, 2) := by decide +kernel
theorem dX6_insert_162 : decode cX6_insert 162 = .ok (.iastore, 1) := by decide +kernel
theorem dX6_insert_163 : decode cX6_insert 163 = .ok (.aload_n 0, 1) := by decide +kernel
theorem dX6_insert_164 : decode cX6_insert 164 = .ok (.dup, 1) := by decide +kernel
theorem dX6_insert_165 : decode cX6_insert 165 = .ok (.getfield 24, 3) := by decide +kernel
theorem dX6_insert_168 : decode cX6_insert 168 = .ok (.iconst 1, 1) := by decide +kernel
theorem dX6_insert_169 : decode cX6_insert 169 = .ok (.iadd, 1) := by decide +kernel
theorem dX6_insert_170 : decode cX6_insert 170 = .ok (.putfield 24, 3) := by decide +kernel
theorem dX6_insert_173 : decode cX6_insert 173 = .ok (.return_, 1) := by decide +kernel
theorem dX6_loadAbove_0 : decode cX6_loadAbove 0 = .ok (.aload_n 0, 1) := by decide +kernel
theorem dX6_loadAbove_1 : decode cX6_loadAbove 1 = .ok (.getfield 21, 3) := by decide +kernel
theorem dX6_loadAbove_4 : decode cX6_loadAbove 4 = .ok (.iload_n 1, 1) := by decide +kernel
theorem dX6_loadAbove_5 : decode cX6_loadAbove 5 = .ok (.iaload, 1) := by decide +kernel
theorem dX6_loadAbove_6 : decode cX6_loadAbove 6 = .ok (.i2l, 1) := by decide +kernel
theorem dX6_loadAbove_7 : decode cX6_loadAbove 7 = .ok (.lstore_n 2, 1) := by decide +kernel
theorem dX6_loadAbove_8 : decode cX6_loadAbove 8 = .ok (.aload_n 0, 1) := by decide +kernel
theorem dX6_loadAbove_9 : decode cX6_loadAbove 9 = .ok (.getfield 15, 3) := by decide +kernel
theorem dX6_loadAbove_12 : decode cX6_loadAbove 12 = .ok (.iload_n 1, 1) := by decide +kernel
theorem dX6_loadAbove_13 : decode cX6_loadAbove 13 = .ok (.iaload, 1) := by decide +kernel
theorem dX6_loadAbove_14 : decode cX6_loadAbove 14 = .ok (.i2l, 1) := by decide +kernel
theorem dX6_loadAbove_15 : decode cX6_loadAbove 15 = .ok (.lstore 4, 2) := by decide +kernel
theorem dX6_loadAbove_17 : decode cX6_loadAbove 17 = .ok (.lconst 0, 1) := by decide +kernel
theorem dX6_loadAbove_18 : decode cX6_loadAbove 18 = .ok (.lstore 6, 2) := by decide +kernel
theorem dX6_loadAbove_20 : decode cX6_loadAbove 20 = .ok (.aload_n 0, 1) := by decide +kernel
theorem dX6_loadAbove_21 : decode cX6_loadAbove 21 = .ok (.getfield 24, 3) := by decide +kernel
theorem dX6_loadAbove_24 : decode cX6_loadAbove 24 = .ok (.iconst 1, 1) := by decide +kernel
theorem dX6_loadAbove_25 : decode cX6_loadAbove 25 = .ok (.isub, 1) := by decide +kernel
theorem dX6_loadAbove_26 : decode cX6_loadAbove 26 = .ok (.istore 8, 2) := by decide +kernel
theorem dX6_loadAbove_28 : decode cX6_loadAbove 28 = .ok (.iload 8, 2) := by decide +kernel
theorem dX6_loadAbove_30 : decode cX6_loadAbove 30 = .ok (.ifCond .lt 68, 3) := by decide +kernel
theorem dX6_loadAbove_33 : decode cX6_loadAbove 33 = .ok (.aload_n 0, 1) := by decide +kernel
theorem dX6_loadAbove_34 : decode cX6_loadAbove 34 = .ok (.getfield 21, 3) := by decide +kernel
theorem dX6_loadAbove_37 : decode cX6_loadAbove 37 = .ok (.iload 8, 2) := by decide +kernel
theorem dX6_loadAbove_39 : decode cX6_loadAbove 39 = .ok (.iaload, 1) := by decide +kernel
theorem dX6_loadAbove_40 : decode cX6_loadAbove 40 = .ok (.i2l, 1) := by decide +kernel
theorem dX6_loadAbove_41 : decode cX6_loadAbove 41 = .ok (.lload 4, 2) := by decide +kernel
theorem dX6_loadAbove_43 : decode cX6_loadAbove 43 = .ok (.lmul, 1) := by decide +kernel
theorem dX6_loadAbove_44 : decode cX6_loadAbove 44 = .ok (.lload_n 2, 1) := by decide +kernel
theorem dX6_loadAbove_45 : decode cX6_loadAbove 45 = .ok (.aload_n 0, 1) := by decide +kernel
theorem dX6_loadAbove_46 : decode cX6_loadAbove 46 = .ok (.getfield 15, 3) := by decide +kernel
theorem dX6_loadAbove_49 : decode cX6_loadAbove 49 = .ok (.iload 8, 2) := by decide +kernel
theorem dX6_loadAbove_51 : decode cX6_loadAbove 51 = .ok (.iaload, 1) := by decide +kernel
theorem dX6_loadAbove_52 : decode cX6_loadAbove 52 = .ok (.i2l, 1) := by decide +kernel
theorem dX6_loadAbove_53 : decode cX6_loadAbove 53 = .ok (.lmul, 1) := by decide +kernel
theorem dX6_loadAbove_54 : decode cX6_loadAbove 54 = .ok (.lcmp, 1) := by decide +kernel
theorem dX6_loadAbove_55 : decode cX6_loadAbove 55 = .ok (.ifCond .ge 6, 3) := by decide +kernel
theorem dX6_loadAbove_58 : decode cX6_loadAbove 58 = .ok (.goto 40, 3) := by decide +kernel
theorem dX6_loadAbove_61 : decode cX6_loadAbove 61 = .ok (.lload 6, 2) := by decide +kernel
theorem dX6_loadAbove_63 : decode cX6_loadAbove 63 = .ok (.aload_n 0, 1) := by decide +kernel
theorem dX6_loadAbove_64 : decode cX6_loadAbove 64 = .ok (.getfield 15, 3) := by decide +kernel
theorem dX6_loadAbove_67 : decode cX6_loadAbove 67 = .ok (.iload 8, 2) := by decide +kernel
theorem dX6_loadAbove_69 : decode cX6_loadAbove 69 = .ok (.iaload, 1) := by decide +kernel
theorem dX6_loadAbove_70 : decode cX6_loadAbove 70 = .ok (.i2l, 1) := by decide +kernel
theorem dX6_loadAbove_71 : decode cX6_loadAbove 71 = .ok (.lconst 0, 1) := by decide +kernel
theorem dX6_loadAbove_72 : decode cX6_loadAbove 72 = .ok (.lload_n 2, 1) := by decide +kernel
theorem dX6_loadAbove_73 : decode cX6_loadAbove 73 = .ok (.aload_n 0, 1) := by decide +kernel
theorem dX6_loadAbove_74 : decode cX6_loadAbove 74 = .ok (.getfield 18, 3) := by decide +kernel
theorem dX6_loadAbove_77 : decode cX6_loadAbove 77 = .ok (.iload 8, 2) := by decide +kernel
theorem dX6_loadAbove_79 : decode cX6_loadAbove 79 = .ok (.iaload, 1) := by decide +kernel
theorem dX6_loadAbove_80 : decode cX6_loadAbove 80 = .ok (.i2l, 1) := by decide +kernel
theorem dX6_loadAbove_81 : decode cX6_loadAbove 81 = .ok (.lload 4, 2) := by decide +kernel
theorem dX6_loadAbove_83 : decode cX6_loadAbove 83 = .ok (.lmul, 1) := by decide +kernel
theorem dX6_loadAbove_84 : decode cX6_loadAbove 84 = .ok (.lsub, 1) := by decide +kernel
theorem dX6_loadAbove_85 : decode cX6_loadAbove 85 = .ok (.invokestatic 63, 3) := by decide +kernel
theorem dX6_loadAbove_88 : decode cX6_loadAbove 88 = .ok (.lmul, 1) := by decide +kernel
theorem dX6_loadAbove_89 : decode cX6_loadAbove 89 = .ok (.ladd, 1) := by decide +kernel
theorem dX6_loadAbove_90 : decode cX6_loadAbove 90 = .ok (.lstore 6, 2) := by decide +kernel
theorem dX6_loadAbove_92 : decode cX6_loadAbove 92 = .ok (.iinc 8 (-1), 3) := by decide +kernel
theorem dX6_loadAbove_95 : decode cX6_loadAbove 95 = .ok (.goto (-67), 3) := by decide +kernel
theorem dX6_loadAbove_98 : decode cX6_loadAbove 98 = .ok (.lload 6, 2) := by decide +kernel
theorem dX6_loadAbove_100 : decode cX6_loadAbove 100 = .ok (.lreturn, 1) := by decide +kernel
theorem dX6_holding_0 : decode cX6_holding 0 = .ok (.iconst 0, 1) := by decide +kernel
theorem dX6_holding_1 : decode cX6_holding 1 = .ok (.istore_n 2, 1) := by decide +kernel
theorem dX6_holding_2 : decode cX6_holding 2 = .ok (.iload_n 2, 1) := by decide +kernel
theorem dX6_holding_3 : decode cX6_holding 3 = .ok (.aload_n 0, 1) := by decide +kernel
theorem dX6_holding_4 : decode cX6_holding 4 = .ok (.getfield 24, 3) := by decide +kernel
theorem dX6_holding_7 : decode cX6_holding 7 = .ok (.if_icmp .ge 35, 3) := by decide +kernel
theorem dX6_holding_10 : decode cX6_holding 10 = .ok (.aload_n 0, 1) := by decide +kernel
theorem dX6_holding_11 : decode cX6_holding 11 = .ok (.iload_n 2, 1) := by decide +kernel
theorem dX6_holding_12 : decode cX6_holding 12 = .ok (.invokevirtual 53, 3) := by decide +kernel
theorem dX6_holding_15 : decode cX6_holding 15 = .ok (.iload_n 1, 1) := by decide +kernel
theorem dX6_holding_16 : decode cX6_holding 16 = .ok (.i2l, 1) := by decide +kernel
theorem dX6_holding_17 : decode cX6_holding 17 = .ok (.aload_n 0, 1) := by decide +kernel
theorem dX6_holding_18 : decode cX6_holding 18 = .ok (.getfield 15, 3) := by decide +kernel
theorem dX6_holding_21 : decode cX6_holding 21 = .ok (.iload_n 2, 1) := by decide +kernel
theorem dX6_holding_22 : decode cX6_holding 22 = .ok (.iaload, 1) := by decide +kernel
theorem dX6_holding_23 : decode cX6_holding 23 = .ok (.i2l, 1) := by decide +kernel
theorem dX6_holding_24 : decode cX6_holding 24 = .ok (.lmul, 1) := by decide +kernel
theorem dX6_holding_25 : decode cX6_holding 25 = .ok (.lcmp, 1) := by decide +kernel
theorem dX6_holding_26 : decode cX6_holding 26 = .ok (.ifCond .lt 10, 3) := by decide +kernel
theorem dX6_holding_29 : decode cX6_holding 29 = .ok (.aload_n 0, 1) := by decide +kernel
theorem dX6_holding_30 : decode cX6_holding 30 = .ok (.getfield 24, 3) := by decide +kernel
theorem dX6_holding_33 : decode cX6_holding 33 = .ok (.iload_n 2, 1) := by decide +kernel
theorem dX6_holding_34 : decode cX6_holding 34 = .ok (.isub, 1) := by decide +kernel
theorem dX6_holding_35 : decode cX6_holding 35 = .ok (.ireturn, 1) := by decide +kernel
theorem dX6_holding_36 : decode cX6_holding 36 = .ok (.iinc 2 1, 3) := by decide +kernel
theorem dX6_holding_39 : decode cX6_holding 39 = .ok (.goto (-37), 3) := by decide +kernel
theorem dX6_holding_42 : decode cX6_holding 42 = .ok (.iconst 0, 1) := by decide +kernel
theorem dX6_holding_43 : decode cX6_holding 43 = .ok (.ireturn, 1) := by decide +kernel
theorem dX7_init_0 : decode cX7_init 0 = .ok (.aload_n 0, 1) := by decide +kernel
theorem dX7_init_1 : decode cX7_init 1 = .ok (.invokespecial 3, 3) := by decide +kernel
theorem dX7_init_4 : decode cX7_init 4 = .ok (.aload_n 0, 1) := by decide +kernel
theorem dX7_init_5 : decode cX7_init 5 = .ok (.iconst 0, 1) := by decide +kernel
theorem dX7_init_6 : decode cX7_init 6 = .ok (.putfield 9, 3) := by decide +kernel
theorem dX7_init_9 : decode cX7_init 9 = .ok (.aload_n 0, 1) := by decide +kernel
theorem dX7_init_10 : decode cX7_init 10 = .ok (.iconst (-1), 1) := by decide +kernel
theorem dX7_init_11 : decode cX7_init 11 = .ok (.putfield 15, 3) := by decide +kernel
theorem dX7_init_14 : decode cX7_init 14 = .ok (.aload_n 0, 1) := by decide +kernel
theorem dX7_init_15 : decode cX7_init 15 = .ok (.aload_n 1, 1) := by decide +kernel
theorem dX7_init_16 : decode cX7_init 16 = .ok (.putfield 18, 3) := by decide +kernel
theorem dX7_init_19 : decode cX7_init 19 = .ok (.aload_n 0, 1) := by decide +kernel
theorem dX7_init_20 : decode cX7_init 20 = .ok (.aload_n 2, 1) := by decide +kernel
theorem dX7_init_21 : decode cX7_init 21 = .ok (.putfield 22, 3) := by decide +kernel
theorem dX7_init_24 : decode cX7_init 24 = .ok (.return_, 1) := by decide +kernel
theorem dX7_read_0 : decode cX7_read 0 = .ok (.aload_n 0, 1) := by decide +kernel
theorem dX7_read_1 : decode cX7_read 1 = .ok (.aload_n 1, 1) := by decide +kernel
theorem dX7_read_2 : decode cX7_read 2 = .ok (.putfield 22, 3) := by decide +kernel
theorem dX7_read_5 : decode cX7_read 5 = .ok (.aload_n 0, 1) := by decide +kernel
theorem dX7_read_6 : decode cX7_read 6 = .ok (.getfield 22, 3) := by decide +kernel
theorem dX7_read_9 : decode cX7_read 9 = .ok (.invokevirtual 26, 3) := by decide +kernel
theorem dX7_read_12 : decode cX7_read 12 = .ok (.aload_n 0, 1) := by decide +kernel
theorem dX7_read_13 : decode cX7_read 13 = .ok (.iconst 0, 1) := by decide +kernel
theorem dX7_read_14 : decode cX7_read 14 = .ok (.putfield 9, 3) := by decide +kernel
theorem dX7_read_17 : decode cX7_read 17 = .ok (.aload_n 0, 1) := by decide +kernel
theorem dX7_read_18 : decode cX7_read 18 = .ok (.iconst (-1), 1) := by decide +kernel
theorem dX7_read_19 : decode cX7_read 19 = .ok (.putfield 15, 3) := by decide +kernel
theorem dX7_read_22 : decode cX7_read 22 = .ok (.aload_n 0, 1) := by decide +kernel
theorem dX7_read_23 : decode cX7_read 23 = .ok (.iconst 3, 1) := by decide +kernel
theorem dX7_read_24 : decode cX7_read 24 = .ok (.putfield 31, 3) := by decide +kernel
theorem dX7_read_27 : decode cX7_read 27 = .ok (.aload_n 0, 1) := by decide +kernel
theorem dX7_read_28 : decode cX7_read 28 = .ok (.iconst 0, 1) := by decide +kernel
theorem dX7_read_29 : decode cX7_read 29 = .ok (.putfield 34, 3) := by decide +kernel
theorem dX7_read_32 : decode cX7_read 32 = .ok (.aload_n 0, 1) := by decide +kernel
theorem dX7_read_33 : decode cX7_read 33 = .ok (.invokevirtual 37, 3) := by decide +kernel
theorem dX7_read_36 : decode cX7_read 36 = .ok (.iconst 0, 1) := by decide +kernel
theorem dX7_read_37 : decode cX7_read 37 = .ok (.istore_n 2, 1) := by decide +kernel
theorem dX7_read_38 : decode cX7_read 38 = .ok (.iload_n 2, 1) := by decide +kernel
theorem dX7_read_39 : decode cX7_read 39 = .ok (.bipush 24, 2) := by decide +kernel
theorem dX7_read_41 : decode cX7_read 41 = .ok (.if_icmp .gt 89, 3) := by decide +kernel
theorem dX7_read_44 : decode cX7_read 44 = .ok (.aload_n 0, 1) := by decide +kernel
theorem dX7_read_45 : decode cX7_read 45 = .ok (.getfield 9, 3) := by decide +kernel
theorem dX7_read_48 : decode cX7_read 48 = .ok (.ifCond .ne 82, 3) := by decide +kernel
theorem dX7_read_51 : decode cX7_read 51 = .ok (.aload_n 0, 1) := by decide +kernel
theorem dX7_read_52 : decode cX7_read 52 = .ok (.getfield 31, 3) := by decide +kernel
theorem dX7_read_55 : decode cX7_read 55 = .ok (.ifCond .eq 75, 3) := by decide +kernel
theorem dX7_read_58 : decode cX7_read 58 = .ok (.iload_n 2, 1) := by decide +kernel
theorem dX7_read_59 : decode cX7_read 59 = .ok (.bipush 24, 2) := by decide +kernel
theorem dX7_read_61 : decode cX7_read 61 = .ok (.if_icmp .ne 15, 3) := by decide +kernel
theorem dX7_read_64 : decode cX7_read 64 = .ok (.aload_n 0, 1) := by decide +kernel
theorem dX7_read_65 : decode cX7_read 65 = .ok (.iconst 5, 1) := by decide +kernel
theorem dX7_read_66 : decode cX7_read 66 = .ok (.aload_n 0, 1) := by decide +kernel
theorem dX7_read_67 : decode cX7_read 67 = .ok (.getfield 40, 3) := by decide +kernel
theorem dX7_read_70 : decode cX7_read 70 = .ok (.invokevirtual 43, 3) := by decide +kernel
theorem dX7_read_73 : decode cX7_read 73 = .ok (.goto 51, 3) := by decide +kernel
theorem dX7_read_76 : decode cX7_read 76 = .ok (.aload_n 0, 1) := by decide +kernel
theorem dX7_read_77 : decode cX7_read 77 = .ok (.iconst 0, 1) := by decide +kernel
theorem dX7_read_78 : decode cX7_read 78 = .ok (.invokevirtual 47, 3) := by decide +kernel
theorem dX7_read_81 : decode cX7_read 81 = .ok (.ifCond .eq 10, 3) := by decide +kernel
theorem dX7_read_84 : decode cX7_read 84 = .ok (.aload_n 0, 1) := by decide +kernel
theorem dX7_read_85 : decode cX7_read 85 = .ok (.invokevirtual 51, 3) := by decide +kernel
theorem dX7_read_88 : decode cX7_read 88 = .ok (.goto 36, 3) := by decide +kernel
theorem dX7_read_91 : decode cX7_read 91 = .ok (.aload_n 0, 1) := by decide +kernel
theorem dX7_read_92 : decode cX7_read 92 = .ok (.iconst 5, 1) := by decide +kernel
theorem dX7_read_93 : decode cX7_read 93 = .ok (.invokevirtual 47, 3) := by decide +kernel
theorem dX7_read_96 : decode cX7_read 96 = .ok (.ifCond .ne 12, 3) := by decide +kernel
theorem dX7_read_99 : decode cX7_read 99 = .ok (.aload_n 0, 1) := by decide +kernel
theorem dX7_read_100 : decode cX7_read 100 = .ok (.bipush 17, 2) := by decide +kernel
theorem dX7_read_102 : decode cX7_read 102 = .ok (.invokevirtual 47, 3) := by decide +kernel
theorem dX7_read_105 : decode cX7_read 105 = .ok (.ifCond .eq 10, 3) := by decide +kernel
theorem dX7_read_108 : decode cX7_read 108 = .ok (.aload_n 0, 1) := by decide +kernel
theorem dX7_read_109 : decode cX7_read 109 = .ok (.invokevirtual 54, 3) := by decide +kernel
theorem dX7_read_112 : decode cX7_read 112 = .ok (.goto 12, 3) := by decide +kernel
theorem dX7_read_115 : decode cX7_read 115 = .ok (.aload_n 0, 1) := by decide +kernel
theorem dX7_read_116 : decode cX7_read 116 = .ok (.iconst 1, 1) := by decide +kernel
theorem dX7_read_117 : decode cX7_read 117 = .ok (.aload_n 0, 1) := by decide +kernel
theorem dX7_read_118 : decode cX7_read 118 = .ok (.getfield 40, 3) := by decide +kernel
theorem dX7_read_121 : decode cX7_read 121 = .ok (.invokevirtual 43, 3) := by decide +kernel
theorem dX7_read_124 : decode cX7_read 124 = .ok (.iinc 2 1, 3) := by decide +kernel
theorem dX7_read_127 : decode cX7_read 127 = .ok (.goto (-89), 3) := by decide +kernel
theorem dX7_read_130 : decode cX7_read 130 = .ok (.return_, 1) := by decide +kernel
theorem dX7_readKind_0 : decode cX7_readKind 0 = .ok (.aload_n 0, 1) := by decide +kernel
theorem dX7_readKind_1 : decode cX7_readKind 1 = .ok (.getfield 22, 3) := by decide +kernel
theorem dX7_readKind_4 : decode cX7_readKind 4 = .ok (.getfield 57, 3) := by decide +kernel
theorem dX7_readKind_7 : decode cX7_readKind 7 = .ok (.istore_n 1, 1) := by decide +kernel
theorem dX7_readKind_8 : decode cX7_readKind 8 = .ok (.iload_n 1, 1) := by decide +kernel
theorem dX7_readKind_9 : decode cX7_readKind 9 = .ok (.bipush 8, 2) := by decide +kernel
theorem dX7_readKind_11 : decode cX7_readKind 11 = .ok (.if_icmp .lt 13, 3) := by decide +kernel
theorem dX7_readKind_14 : decode cX7_readKind 14 = .ok (.aload_n 0, 1) := by decide +kernel
theorem dX7_readKind_15 : decode cX7_readKind 15 = .ok (.iconst 5, 1) := by decide +kernel
theorem dX7_readKind_16 : decode cX7_readKind 16 = .ok (.aload_n 0, 1) := by decide +kernel
theorem dX7_readKind_17 : decode cX7_readKind 17 = .ok (.getfield 40, 3) := by decide +kernel
theorem dX7_readKind_20 : decode cX7_readKind 20 = .ok (.invokevirtual 43, 3) := by decide +kernel
theorem dX7_readKind_23 : decode cX7_readKind 23 = .ok (.return_, 1) := by decide +kernel
theorem dX7_readKind_24 : decode cX7_readKind 24 = .ok (.aload_n 0, 1) := by decide +kernel
theorem dX7_readKind_25 : decode cX7_readKind 25 = .ok (.invokevirtual 37, 3) := by decide +kernel
theorem dX7_readKind_28 : decode cX7_readKind 28 = .ok (.aload_n 0, 1) := by decide +kernel
theorem dX7_readKind_29 : decode cX7_readKind 29 = .ok (.invokevirtual 60, 3) := by decide +kernel
theorem dX7_readKind_32 : decode cX7_readKind 32 = .ok (.lstore_n 2, 1) := by decide +kernel
theorem dX7_readKind_33 : decode cX7_readKind 33 = .ok (.aload_n 0, 1) := by decide +kernel
theorem dX7_readKind_34 : decode cX7_readKind 34 = .ok (.getfield 9, 3) := by decide +kernel
theorem dX7_readKind_37 : decode cX7_readKind 37 = .ok (.ifCond .ne 24, 3) := by decide +kernel
theorem dX7_readKind_40 : decode cX7_readKind 40 = .ok (.aload_n 0, 1) := by decide +kernel
theorem dX7_readKind_41 : decode cX7_readKind 41 = .ok (.getfield 22, 3) := by decide +kernel
theorem dX7_readKind_44 : decode cX7_readKind 44 = .ok (.lload_n 2, 1) := by decide +kernel
theorem dX7_readKind_45 : decode cX7_readKind 45 = .ok (.invokevirtual 64, 3) := by decide +kernel
theorem dX7_readKind_48 : decode cX7_readKind 48 = .ok (.iconst (-1), 1) := by decide +kernel
theorem dX7_readKind_49 : decode cX7_readKind 49 = .ok (.if_icmp .eq 12, 3) := by decide +kernel
theorem dX7_readKind_52 : decode cX7_readKind 52 = .ok (.aload_n 0, 1) := by decide +kernel
theorem dX7_readKind_53 : decode cX7_readKind 53 = .ok (.iconst 3, 1) := by decide +kernel
theorem dX7_readKind_54 : decode cX7_readKind 54 = .ok (.aload_n 0, 1) := by decide +kernel
theorem dX7_readKind_55 : decode cX7_readKind 55 = .ok (.getfield 40, 3) := by decide +kernel
theorem dX7_readKind_58 : decode cX7_readKind 58 = .ok (.invokevirtual 43, 3) := by decide +kernel
theorem dX7_readKind_61 : decode cX7_readKind 61 = .ok (.aload_n 0, 1) := by decide +kernel
theorem dX7_readKind_62 : decode cX7_readKind 62 = .ok (.invokevirtual 37, 3) := by decide +kernel
theorem dX7_readKind_65 : decode cX7_readKind 65 = .ok (.iconst 0, 1) := by decide +kernel
theorem dX7_readKind_66 : decode cX7_readKind 66 = .ok (.istore 4, 2) := by decide +kernel
theorem dX7_readKind_68 : decode cX7_readKind 68 = .ok (.iload 4, 2) := by decide +kernel
theorem dX7_readKind_70 : decode cX7_readKind 70 = .ok (.iconst 4, 1) := by decide +kernel
theorem dX7_readKind_71 : decode cX7_readKind 71 = .ok (.if_icmp .ge 41, 3) := by decide +kernel
theorem dX7_readKind_74 : decode cX7_readKind 74 = .ok (.aload_n 0, 1) := by decide +kernel
theorem dX7_readKind_75 : decode cX7_readKind 75 = .ok (.iconst 1, 1) := by decide +kernel
theorem dX7_readKind_76 : decode cX7_readKind 76 = .ok (.iload 4, 2) := by decide +kernel
theorem dX7_readKind_78 : decode cX7_readKind 78 = .ok (.iadd, 1) := by decide +kernel
theorem dX7_readKind_79 : decode cX7_readKind 79 = .ok (.invokevirtual 68, 3) := by decide +kernel
theorem dX7_readKind_82 : decode cX7_readKind 82 = .ok (.aload_n 0, 1) := by decide +kernel
theorem dX7_readKind_83 : decode cX7_readKind 83 = .ok (.getfield 22, 3) := by decide +kernel
theorem dX7_readKind_86 : decode cX7_readKind 86 = .ok (.getfield 72, 3) := by decide +kernel
theorem dX7_readKind_89 : decode cX7_readKind 89 = .ok (.iload_n 1, 1) := by decide +kernel
theorem dX7_readKind_90 : decode cX7_readKind 90 = .ok (.iconst 4, 1) := by decide +kernel
theorem dX7_readKind_91 : decode cX7_readKind 91 = .ok (.imul, 1) := by decide +kernel
theorem dX7_readKind_92 : decode cX7_readKind 92 = .ok (.iload 4, 2) := by decide +kernel
theorem dX7_readKind_94 : decode cX7_readKind 94 = .ok (.iadd, 1) := by decide +kernel
theorem dX7_readKind_95 : decode cX7_readKind 95 = .ok (.aload_n 0, 1) := by decide +kernel
theorem dX7_readKind_96 : decode cX7_readKind 96 = .ok (.iload 4, 2) := by decide +kernel
theorem dX7_readKind_98 : decode cX7_readKind 98 = .ok (.invokevirtual 76, 3) := by decide +kernel
theorem dX7_readKind_101 : decode cX7_readKind 101 = .ok (.iastore, 1) := by decide +kernel
theorem dX7_readKind_102 : decode cX7_readKind 102 = .ok (.aload_n 0, 1) := by decide +kernel
theorem dX7_readKind_103 : decode cX7_readKind 103 = .ok (.invokevirtual 37, 3) := by decide +kernel
theorem dX7_readKind_106 : decode cX7_readKind 106 = .ok (.iinc 4 1, 3) := by decide +kernel
theorem dX7_readKind_109 : decode cX7_readKind 109 = .ok (.goto (-41), 3) := by decide +kernel
theorem dX7_readKind_112 : decode cX7_readKind 112 = .ok (.aload_n 0, 1) := by decide +kernel
theorem dX7_readKind_113 : decode cX7_readKind 113 = .ok (.getfield 22, 3) := by decide +kernel
theorem dX7_readKind_116 : decode cX7_readKind 116 = .ok (.getfield 80, 3) := by decide +kernel
theorem dX7_readKind_119 : decode cX7_readKind 119 = .ok (.iload_n 1, 1) := by decide +kernel
theorem dX7_readKind_120 : decode cX7_readKind 120 = .ok (.lload_n 2, 1) := by decide +kernel
theorem dX7_readKind_121 : decode cX7_readKind 121 = .ok (.lastore, 1) := by decide +kernel
theorem dX7_readKind_122 : decode cX7_readKind 122 = .ok (.aload_n 0, 1) := by decide +kernel
theorem dX7_readKind_123 : decode cX7_readKind 123 = .ok (.getfield 22, 3) := by decide +kernel
theorem dX7_readKind_126 : decode cX7_readKind 126 = .ok (.dup, 1) := by decide +kernel
theorem dX7_readKind_127 : decode cX7_readKind 127 = .ok (.getfield 57, 3) := by decide +kernel
theorem dX7_readKind_130 : decode cX7_readKind 130 = .ok (.iconst 1, 1) := by decide +kernel
theorem dX7_readKind_131 : decode cX7_readKind 131 = .ok (.iadd, 1) := by decide +kernel
theorem dX7_readKind_132 : decode cX7_readKind 132 = .ok (.putfield 57, 3) := by decide +kernel
theorem dX7_readKind_135 : decode cX7_readKind 135 = .ok (.aload_n 0, 1) := by decide +kernel
theorem dX7_readKind_136 : decode cX7_readKind 136 = .ok (.invokevirtual 84, 3) := by decide +kernel
theorem dX7_readKind_139 : decode cX7_readKind 139 = .ok (.return_, 1) := by decide +kernel
theorem dX7_readRule_0 : decode cX7_readRule 0 = .ok (.aload_n 0, 1) := by decide +kernel
theorem dX7_readRule_1 : decode cX7_readRule 1 = .ok (.getfield 22, 3) := by decide +kernel
theorem dX7_readRule_4 : decode cX7_readRule 4 = .ok (.getfield 87, 3) := by decide +kernel
theorem dX7_readRule_7 : decode cX7_readRule 7 = .ok (.istore_n 1, 1) := by decide +kernel
theorem dX7_readRule_8 : decode cX7_readRule 8 = .ok (.iload_n 1, 1) := by decide +kernel
theorem dX7_readRule_9 : decode cX7_readRule 9 = .ok (.bipush 24, 2) := by decide +kernel
theorem dX7_readRule_11 : decode cX7_readRule 11 = .ok (.if_icmp .lt 13, 3) := by decide +kernel
theorem dX7_readRule_14 : decode cX7_readRule 14 = .ok (.aload_n 0, 1) := by decide +kernel
theorem dX7_readRule_15 : decode cX7_readRule 15 = .ok (.iconst 5, 1) := by decide +kernel
theorem dX7_readRule_16 : decode cX7_readRule 16 = .ok (.aload_n 0, 1) := by decide +kernel
theorem dX7_readRule_17 : decode cX7_readRule 17 = .ok (.getfield 40, 3) := by decide +kernel
theorem dX7_readRule_20 : decode cX7_readRule 20 = .ok (.invokevirtual 43, 3) := by decide +kernel
theorem dX7_readRule_23 : decode cX7_readRule 23 = .ok (.return_, 1) := by decide +kernel
theorem dX7_readRule_24 : decode cX7_readRule 24 = .ok (.aload_n 0, 1) := by decide +kernel
theorem dX7_readRule_25 : decode cX7_readRule 25 = .ok (.getfield 22, 3) := by decide +kernel
theorem dX7_readRule_28 : decode cX7_readRule 28 = .ok (.getfield 90, 3) := by decide +kernel
theorem dX7_readRule_31 : decode cX7_readRule 31 = .ok (.iload_n 1, 1) := by decide +kernel
theorem dX7_readRule_32 : decode cX7_readRule 32 = .ok (.aload_n 0, 1) := by decide +kernel
theorem dX7_readRule_33 : decode cX7_readRule 33 = .ok (.getfield 93, 3) := by decide +kernel
theorem dX7_readRule_36 : decode cX7_readRule 36 = .ok (.iastore, 1) := by decide +kernel
theorem dX7_readRule_37 : decode cX7_readRule 37 = .ok (.aload_n 0, 1) := by decide +kernel
theorem dX7_readRule_38 : decode cX7_readRule 38 = .ok (.getfield 22, 3) := by decide +kernel
theorem dX7_readRule_41 : decode cX7_readRule 41 = .ok (.getfield 96, 3) := by decide +kernel
theorem dX7_readRule_44 : decode cX7_readRule 44 = .ok (.iload_n 1, 1) := by decide +kernel
theorem dX7_readRule_45 : decode cX7_readRule 45 = .ok (.aload_n 0, 1) := by decide +kernel
theorem dX7_readRule_46 : decode cX7_readRule 46 = .ok (.getfield 22, 3) := by decide +kernel
theorem dX7_readRule_49 : decode cX7_readRule 49 = .ok (.getfield 99, 3) := by decide +kernel
theorem dX7_readRule_52 : decode cX7_readRule 52 = .ok (.iastore, 1) := by decide +kernel
theorem dX7_readRule_53 : decode cX7_readRule 53 = .ok (.aload_n 0, 1) := by decide +kernel
theorem dX7_readRule_54 : decode cX7_readRule 54 = .ok (.invokevirtual 37, 3) := by decide +kernel
theorem dX7_readRule_57 : decode cX7_readRule 57 = .ok (.aload_n 0, 1) := by decide +kernel
theorem dX7_readRule_58 : decode cX7_readRule 58 = .ok (.iconst 0, 1) := by decide +kernel
theorem dX7_readRule_59 : decode cX7_readRule 59 = .ok (.invokevirtual 102, 3) := by decide +kernel
theorem dX7_readRule_62 : decode cX7_readRule 62 = .ok (.aload_n 0, 1) := by decide +kernel
theorem dX7_readRule_63 : decode cX7_readRule 63 = .ok (.bipush 6, 2) := by decide +kernel
theorem dX7_readRule_65 : decode cX7_readRule 65 = .ok (.invokevirtual 68, 3) := by decide +kernel
theorem dX7_readRule_68 : decode cX7_readRule 68 = .ok (.aload_n 0, 1) := by decide +kernel
theorem dX7_readRule_69 : decode cX7_readRule 69 = .ok (.getfield 22, 3) := by decide +kernel
theorem dX7_readRule_72 : decode cX7_readRule 72 = .ok (.getfield 105, 3) := by decide +kernel
theorem dX7_readRule_75 : decode cX7_readRule 75 = .ok (.iload_n 1, 1) := by decide +kernel
theorem dX7_readRule_76 : decode cX7_readRule 76 = .ok (.aload_n 0, 1) := by decide +kernel
theorem dX7_readRule_77 : decode cX7_readRule 77 = .ok (.getfield 22, 3) := by decide +kernel
theorem dX7_readRule_80 : decode cX7_readRule 80 = .ok (.getfield 99, 3) := by decide +kernel
theorem dX7_readRule_83 : decode cX7_readRule 83 = .ok (.iastore, 1) := by decide +kernel
theorem dX7_readRule_84 : decode cX7_readRule 84 = .ok (.aload_n 0, 1) := by decide +kernel
theorem dX7_readRule_85 : decode cX7_readRule 85 = .ok (.iconst 0, 1) := by decide +kernel
theorem dX7_readRule_86 : decode cX7_readRule 86 = .ok (.invokevirtual 108, 3) := by decide +kernel
theorem dX7_readRule_89 : decode cX7_readRule 89 = .ok (.aload_n 0, 1) := by decide +kernel
theorem dX7_readRule_90 : decode cX7_readRule 90 = .ok (.getfield 22, 3) := by decide +kernel
theorem dX7_readRule_93 : decode cX7_readRule 93 = .ok (.getfield 111, 3) := by decide +kernel
theorem dX7_readRule_96 : decode cX7_readRule 96 = .ok (.iload_n 1, 1) := by decide +kernel
theorem dX7_readRule_97 : decode cX7_readRule 97 = .ok (.aload_n 0, 1) := by decide +kernel
theorem dX7_readRule_98 : decode cX7_readRule 98 = .ok (.getfield 22, 3) := by decide +kernel
theorem dX7_readRule_101 : decode cX7_readRule 101 = .ok (.getfield 99, 3) := by decide +kernel
theorem dX7_readRule_104 : decode cX7_readRule 104 = .ok (.iastore, 1) := by decide +kernel
theorem dX7_readRule_105 : decode cX7_readRule 105 = .ok (.aload_n 0, 1) := by decide +kernel
theorem dX7_readRule_106 : decode cX7_readRule 106 = .ok (.getfield 22, 3) := by decide +kernel
theorem dX7_readRule_109 : decode cX7_readRule 109 = .ok (.dup, 1) := by decide +kernel
theorem dX7_readRule_110 : decode cX7_readRule 110 = .ok (.getfield 87, 3) := by decide +kernel
theorem dX7_readRule_113 : decode cX7_readRule 113 = .ok (.iconst 1, 1) := by decide +kernel
theorem dX7_readRule_114 : decode cX7_readRule 114 = .ok (.iadd, 1) := by decide +kernel
theorem dX7_readRule_115 : decode cX7_readRule 115 = .ok (.putfield 87, 3) := by decide +kernel
theorem dX7_readRule_118 : decode cX7_readRule 118 = .ok (.aload_n 0, 1) := by decide +kernel
theorem dX7_readRule_119 : decode cX7_readRule 119 = .ok (.invokevirtual 84, 3) := by decide +kernel
theorem dX7_readRule_122 : decode cX7_readRule 122 = .ok (.return_, 1) := by decide +kernel
theorem dX7_takeEnd_0 : decode cX7_takeEnd 0 = .ok (.aload_n 0, 1) := by decide +kernel
theorem dX7_takeEnd_1 : decode cX7_takeEnd 1 = .ok (.bipush 59, 2) := by decide +kernel
theorem dX7_takeEnd_3 : decode cX7_takeEnd 3 = .ok (.invokevirtual 114, 3) := by decide +kernel
theorem dX7_takeEnd_6 : decode cX7_takeEnd 6 = .ok (.aload_n 0, 1) := by decide +kernel
theorem dX7_takeEnd_7 : decode cX7_takeEnd 7 = .ok (.getfield 22, 3) := by decide +kernel
theorem dX7_takeEnd_10 : decode cX7_takeEnd 10 = .ok (.dup, 1) := by decide +kernel
theorem dX7_takeEnd_11 : decode cX7_takeEnd 11 = .ok (.getfield 118, 3) := by decide +kernel
theorem dX7_takeEnd_14 : decode cX7_takeEnd 14 = .ok (.iconst 1, 1) := by decide +kernel
theorem dX7_takeEnd_15 : decode cX7_takeEnd 15 = .ok (.iadd, 1) := by decide +kernel
theorem dX7_takeEnd_16 : decode cX7_takeEnd 16 = .ok (.putfield 118, 3) := by decide +kernel
theorem dX7_takeEnd_19 : decode cX7_takeEnd 19 = .ok (.return_, 1) := by decide +kernel
theorem dX7_readTest_0 : decode cX7_readTest 0 = .ok (.iconst 0, 1) := by decide +kernel
theorem dX7_readTest_1 : decode cX7_readTest 1 = .ok (.istore_n 2, 1) := by decide +kernel
theorem dX7_readTest_2 : decode cX7_readTest 2 = .ok (.aload_n 0, 1) := by decide +kernel
theorem dX7_readTest_3 : decode cX7_readTest 3 = .ok (.iload_n 1, 1) := by decide +kernel
theorem dX7_readTest_4 : decode cX7_readTest 4 = .ok (.invokevirtual 121, 3) := by decide +kernel
theorem dX7_readTest_7 : decode cX7_readTest 7 = .ok (.iconst 0, 1) := by decide +kernel
theorem dX7_readTest_8 : decode cX7_readTest 8 = .ok (.istore_n 3, 1) := by decide +kernel
theorem dX7_readTest_9 : decode cX7_readTest 9 = .ok (.iload_n 3, 1) := by decide +kernel
theorem dX7_readTest_10 : decode cX7_readTest 10 = .ok (.sipush 700, 3) := by decide +kernel
theorem dX7_readTest_13 : decode cX7_readTest 13 = .ok (.if_icmp .ge 83, 3) := by decide +kernel
theorem dX7_readTest_16 : decode cX7_readTest 16 = .ok (.aload_n 0, 1) := by decide +kernel
theorem dX7_readTest_17 : decode cX7_readTest 17 = .ok (.bipush 7, 2) := by decide +kernel
theorem dX7_readTest_19 : decode cX7_readTest 19 = .ok (.invokevirtual 47, 3) := by decide +kernel
theorem dX7_readTest_22 : decode cX7_readTest 22 = .ok (.ifCond .ne 12, 3) := by decide +kernel
theorem dX7_readTest_25 : decode cX7_readTest 25 = .ok (.aload_n 0, 1) := by decide +kernel
theorem dX7_readTest_26 : decode cX7_readTest 26 = .ok (.bipush 8, 2) := by decide +kernel
theorem dX7_readTest_28 : decode cX7_readTest 28 = .ok (.invokevirtual 47, 3) := by decide +kernel
theorem dX7_readTest_31 : decode cX7_readTest 31 = .ok (.ifCond .eq 65, 3) := by decide +kernel
theorem dX7_readTest_34 : decode cX7_readTest 34 = .ok (.aload_n 0, 1) := by decide +kernel
theorem dX7_readTest_35 : decode cX7_readTest 35 = .ok (.bipush 8, 2) := by decide +kernel
theorem dX7_readTest_37 : decode cX7_readTest 37 = .ok (.invokevirtual 47, 3) := by decide +kernel
theorem dX7_readTest_40 : decode cX7_readTest 40 = .ok (.istore 4, 2) := by decide +kernel
theorem dX7_readTest_42 : decode cX7_readTest 42 = .ok (.iload 4, 2) := by decide +kernel
theorem dX7_readTest_44 : decode cX7_readTest 44 = .ok (.ifCond .ne 17, 3) := by decide +kernel
theorem dX7_readTest_47 : decode cX7_readTest 47 = .ok (.iload_n 2, 1) := by decide +kernel
theorem dX7_readTest_48 : decode cX7_readTest 48 = .ok (.ifCond .eq 13, 3) := by decide +kernel
theorem dX7_readTest_51 : decode cX7_readTest 51 = .ok (.aload_n 0, 1) := by decide +kernel
theorem dX7_readTest_52 : decode cX7_readTest 52 = .ok (.getfield 22, 3) := by decide +kernel
theorem dX7_readTest_55 : decode cX7_readTest 55 = .ok (.bipush 14, 2) := by decide +kernel
theorem dX7_readTest_57 : decode cX7_readTest 57 = .ok (.iconst 0, 1) := by decide +kernel
theorem dX7_readTest_58 : decode cX7_readTest 58 = .ok (.invokevirtual 126, 3) := by decide +kernel
theorem dX7_readTest_61 : decode cX7_readTest 61 = .ok (.aload_n 0, 1) := by decide +kernel
theorem dX7_readTest_62 : decode cX7_readTest 62 = .ok (.invokevirtual 37, 3) := by decide +kernel
theorem dX7_readTest_65 : decode cX7_readTest 65 = .ok (.aload_n 0, 1) := by decide +kernel
theorem dX7_readTest_66 : decode cX7_readTest 66 = .ok (.iload_n 1, 1) := by decide +kernel
theorem dX7_readTest_67 : decode cX7_readTest 67 = .ok (.invokevirtual 121, 3) := by decide +kernel
theorem dX7_readTest_70 : decode cX7_readTest 70 = .ok (.iload 4, 2) := by decide +kernel
theorem dX7_readTest_72 : decode cX7_readTest 72 = .ok (.ifCond .eq 16, 3) := by decide +kernel
theorem dX7_readTest_75 : decode cX7_readTest 75 = .ok (.aload_n 0, 1) := by decide +kernel
theorem dX7_readTest_76 : decode cX7_readTest 76 = .ok (.getfield 22, 3) := by decide +kernel
theorem dX7_readTest_79 : decode cX7_readTest 79 = .ok (.bipush 13, 2) := by decide +kernel
theorem dX7_readTest_81 : decode cX7_readTest 81 = .ok (.iconst 0, 1) := by decide +kernel
theorem dX7_readTest_82 : decode cX7_readTest 82 = .ok (.invokevirtual 126, 3) := by decide +kernel
theorem dX7_readTest_85 : decode cX7_readTest 85 = .ok (.goto 5, 3) := by decide +kernel
theorem dX7_readTest_88 : decode cX7_readTest 88 = .ok (.iconst 1, 1) := by decide +kernel
theorem dX7_readTest_89 : decode cX7_readTest 89 = .ok (.istore_n 2, 1) := by decide +kernel
theorem dX7_readTest_90 : decode cX7_readTest 90 = .ok (.iinc 3 1, 3) := by decide +kernel
theorem dX7_readTest_93 : decode cX7_readTest 93 = .ok (.goto (-84), 3) := by decide +kernel
theorem dX7_readTest_96 : decode cX7_readTest 96 = .ok (.iload_n 2, 1) := by decide +kernel
theorem dX7_readTest_97 : decode cX7_readTest 97 = .ok (.ifCond .eq 13, 3) := by decide +kernel
theorem dX7_readTest_100 : decode cX7_readTest 100 = .ok (.aload_n 0, 1) := by decide +kernel
theorem dX7_readTest_101 : decode cX7_readTest 101 = .ok (.getfield 22, 3) := by decide +kernel
theorem dX7_readTest_104 : decode cX7_readTest 104 = .ok (.bipush 14, 2) := by decide +kernel
theorem dX7_readTest_106 : decode cX7_readTest 106 = .ok (.iconst 0, 1) := by decide +kernel
theorem dX7_readTest_107 : decode cX7_readTest 107 = .ok (.invokevirtual 126, 3) := by decide +kernel
theorem dX7_readTest_110 : decode cX7_readTest 110 = .ok (.return_, 1) := by decide +kernel
theorem dX7_readFact_0 : decode cX7_readFact 0 = .ok (.aload_n 0, 1) := by decide +kernel
theorem dX7_readFact_1 : decode cX7_readFact 1 = .ok (.bipush 9, 2) := by decide +kernel
theorem dX7_readFact_3 : decode cX7_readFact 3 = .ok (.invokevirtual 47, 3) := by decide +kernel
theorem dX7_readFact_6 : decode cX7_readFact 6 = .ok (.ifCond .eq 34, 3) := by decide +kernel
theorem dX7_readFact_9 : decode cX7_readFact 9 = .ok (.aload_n 0, 1) := by decide +kernel
theorem dX7_readFact_10 : decode cX7_readFact 10 = .ok (.iload_n 1, 1) := by decide +kernel
theorem dX7_readFact_11 : decode cX7_readFact 11 = .ok (.invokevirtual 129, 3) := by decide +kernel
theorem dX7_readFact_14 : decode cX7_readFact 14 = .ok (.ifCond .eq 136, 3) := by decide +kernel
theorem dX7_readFact_17 : decode cX7_readFact 17 = .ok (.aload_n 0, 1) := by decide +kernel
theorem dX7_readFact_18 : decode cX7_readFact 18 = .ok (.invokevirtual 37, 3) := by decide +kernel
theorem dX7_readFact_21 : decode cX7_readFact 21 = .ok (.aload_n 0, 1) := by decide +kernel
theorem dX7_readFact_22 : decode cX7_readFact 22 = .ok (.iload_n 1, 1) := by decide +kernel
theorem dX7_readFact_23 : decode cX7_readFact 23 = .ok (.iconst 1, 1) := by decide +kernel
theorem dX7_readFact_24 : decode cX7_readFact 24 = .ok (.iadd, 1) := by decide +kernel
theorem dX7_readFact_25 : decode cX7_readFact 25 = .ok (.invokevirtual 121, 3) := by decide +kernel
theorem dX7_readFact_28 : decode cX7_readFact 28 = .ok (.aload_n 0, 1) := by decide +kernel
theorem dX7_readFact_29 : decode cX7_readFact 29 = .ok (.getfield 22, 3) := by decide +kernel
theorem dX7_readFact_32 : decode cX7_readFact 32 = .ok (.iconst 3, 1) := by decide +kernel
theorem dX7_readFact_33 : decode cX7_readFact 33 = .ok (.iconst 0, 1) := by decide +kernel
theorem dX7_readFact_34 : decode cX7_readFact 34 = .ok (.invokevirtual 126, 3) := by decide +kernel
theorem dX7_readFact_37 : decode cX7_readFact 37 = .ok (.goto 113, 3) := by decide +kernel
theorem dX7_readFact_40 : decode cX7_readFact 40 = .ok (.aload_n 0, 1) := by decide +kernel
theorem dX7_readFact_41 : decode cX7_readFact 41 = .ok (.bipush 91, 2) := by decide +kernel
theorem dX7_readFact_43 : decode cX7_readFact 43 = .ok (.invokevirtual 132, 3) := by decide +kernel
theorem dX7_readFact_46 : decode cX7_readFact 46 = .ok (.ifCond .eq 31, 3) := by decide +kernel
theorem dX7_readFact_49 : decode cX7_readFact 49 = .ok (.aload_n 0, 1) := by decide +kernel
theorem dX7_readFact_50 : decode cX7_readFact 50 = .ok (.iload_n 1, 1) := by decide +kernel
theorem dX7_readFact_51 : decode cX7_readFact 51 = .ok (.invokevirtual 129, 3) := by decide +kernel
theorem dX7_readFact_54 : decode cX7_readFact 54 = .ok (.ifCond .eq 96, 3) := by decide +kernel
theorem dX7_readFact_57 : decode cX7_readFact 57 = .ok (.aload_n 0, 1) := by decide +kernel
theorem dX7_readFact_58 : decode cX7_readFact 58 = .ok (.invokevirtual 37, 3) := by decide +kernel
theorem dX7_readFact_61 : decode cX7_readFact 61 = .ok (.aload_n 0, 1) := by decide +kernel
theorem dX7_readFact_62 : decode cX7_readFact 62 = .ok (.iload_n 1, 1) := by decide +kernel
theorem dX7_readFact_63 : decode cX7_readFact 63 = .ok (.iconst 1, 1) := by decide +kernel
theorem dX7_readFact_64 : decode cX7_readFact 64 = .ok (.iadd, 1) := by decide +kernel
theorem dX7_readFact_65 : decode cX7_readFact 65 = .ok (.invokevirtual 108, 3) := by decide +kernel
theorem dX7_readFact_68 : decode cX7_readFact 68 = .ok (.aload_n 0, 1) := by decide +kernel
theorem dX7_readFact_69 : decode cX7_readFact 69 = .ok (.bipush 93, 2) := by decide +kernel
theorem dX7_readFact_71 : decode cX7_readFact 71 = .ok (.invokevirtual 114, 3) := by decide +kernel
theorem dX7_readFact_74 : decode cX7_readFact 74 = .ok (.goto 76, 3) := by decide +kernel
theorem dX7_readFact_77 : decode cX7_readFact 77 = .ok (.aload_n 0, 1) := by decide +kernel
theorem dX7_readFact_78 : decode cX7_readFact 78 = .ok (.bipush 10, 2) := by decide +kernel
theorem dX7_readFact_80 : decode cX7_readFact 80 = .ok (.invokevirtual 47, 3) := by decide +kernel
theorem dX7_readFact_83 : decode cX7_readFact 83 = .ok (.ifCond .eq 19, 3) := by decide +kernel
theorem dX7_readFact_86 : decode cX7_readFact 86 = .ok (.aload_n 0, 1) := by decide +kernel
theorem dX7_readFact_87 : decode cX7_readFact 87 = .ok (.getfield 22, 3) := by decide +kernel
theorem dX7_readFact_90 : decode cX7_readFact 90 = .ok (.iconst 0, 1) := by decide +kernel
theorem dX7_readFact_91 : decode cX7_readFact 91 = .ok (.iconst 1, 1) := by decide +kernel
theorem dX7_readFact_92 : decode cX7_readFact 92 = .ok (.invokevirtual 126, 3) := by decide +kernel
theorem dX7_readFact_95 : decode cX7_readFact 95 = .ok (.aload_n 0, 1) := by decide +kernel
theorem dX7_readFact_96 : decode cX7_readFact 96 = .ok (.invokevirtual 37, 3) := by decide +kernel
theorem dX7_readFact_99 : decode cX7_readFact 99 = .ok (.goto 51, 3) := by decide +kernel
theorem dX7_readFact_102 : decode cX7_readFact 102 = .ok (.aload_n 0, 1) := by decide +kernel
theorem dX7_readFact_103 : decode cX7_readFact 103 = .ok (.bipush 11, 2) := by decide +kernel
theorem dX7_readFact_105 : decode cX7_readFact 105 = .ok (.invokevirtual 47, 3) := by decide +kernel
theorem dX7_readFact_108 : decode cX7_readFact 108 = .ok (.ifCond .eq 14, 3) := by decide +kernel
theorem dX7_readFact_111 : decode cX7_readFact 111 = .ok (.aload_n 0, 1) := by decide +kernel
theorem dX7_readFact_112 : decode cX7_readFact 112 = .ok (.invokevirtual 37, 3) := by decide +kernel
theorem dX7_readFact_115 : decode cX7_readFact 115 = .ok (.aload_n 0, 1) := by decide +kernel
theorem dX7_readFact_116 : decode cX7_readFact 116 = .ok (.invokevirtual 136, 3) := by decide +kernel
theorem dX7_readFact_119 : decode cX7_readFact 119 = .ok (.goto 31, 3) := by decide +kernel
theorem dX7_readFact_122 : decode cX7_readFact 122 = .ok (.aload_n 0, 1) := by decide +kernel
theorem dX7_readFact_123 : decode cX7_readFact 123 = .ok (.iload_n 1, 1) := by decide +kernel
theorem dX7_readFact_124 : decode cX7_readFact 124 = .ok (.invokevirtual 102, 3) := by decide +kernel
theorem dX7_readFact_127 : decode cX7_readFact 127 = .ok (.aload_n 0, 1) := by decide +kernel
theorem dX7_readFact_128 : decode cX7_readFact 128 = .ok (.invokevirtual 139, 3) := by decide +kernel
theorem dX7_readFact_131 : decode cX7_readFact 131 = .ok (.istore_n 2, 1) := by decide +kernel
theorem dX7_readFact_132 : decode cX7_readFact 132 = .ok (.aload_n 0, 1) := by decide +kernel
theorem dX7_readFact_133 : decode cX7_readFact 133 = .ok (.invokevirtual 37, 3) := by decide +kernel
theorem dX7_readFact_136 : decode cX7_readFact 136 = .ok (.aload_n 0, 1) := by decide +kernel
theorem dX7_readFact_137 : decode cX7_readFact 137 = .ok (.iload_n 1, 1) := by decide +kernel
theorem dX7_readFact_138 : decode cX7_readFact 138 = .ok (.invokevirtual 102, 3) := by decide +kernel
theorem dX7_readFact_141 : decode cX7_readFact 141 = .ok (.aload_n 0, 1) := by decide +kernel
theorem dX7_readFact_142 : decode cX7_readFact 142 = .ok (.getfield 22, 3) := by decide +kernel
theorem dX7_readFact_145 : decode cX7_readFact 145 = .ok (.iload_n 2, 1) := by decide +kernel
theorem dX7_readFact_146 : decode cX7_readFact 146 = .ok (.iconst 0, 1) := by decide +kernel
theorem dX7_readFact_147 : decode cX7_readFact 147 = .ok (.invokevirtual 126, 3) := by decide +kernel
theorem dX7_readFact_150 : decode cX7_readFact 150 = .ok (.return_, 1) := by decide +kernel
theorem dX7_readIs_0 : decode cX7_readIs 0 = .ok (.aload_n 0, 1) := by decide +kernel
theorem dX7_readIs_1 : decode cX7_readIs 1 = .ok (.getfield 22, 3) := by decide +kernel
theorem dX7_readIs_4 : decode cX7_readIs 4 = .ok (.aload_n 0, 1) := by decide +kernel
theorem dX7_readIs_5 : decode cX7_readIs 5 = .ok (.invokevirtual 60, 3) := by decide +kernel
theorem dX7_readIs_8 : decode cX7_readIs 8 = .ok (.invokevirtual 64, 3) := by decide +kernel
theorem dX7_readIs_11 : decode cX7_readIs 11 = .ok (.istore_n 1, 1) := by decide +kernel
theorem dX7_readIs_12 : decode cX7_readIs 12 = .ok (.iload_n 1, 1) := by decide +kernel
theorem dX7_readIs_13 : decode cX7_readIs 13 = .ok (.iconst (-1), 1) := by decide +kernel
theorem dX7_readIs_14 : decode cX7_readIs 14 = .ok (.if_icmp .ne 13, 3) := by decide +kernel
theorem dX7_readIs_17 : decode cX7_readIs 17 = .ok (.aload_n 0, 1) := by decide +kernel
theorem dX7_readIs_18 : decode cX7_readIs 18 = .ok (.iconst 3, 1) := by decide +kernel
theorem dX7_readIs_19 : decode cX7_readIs 19 = .ok (.aload_n 0, 1) := by decide +kernel
theorem dX7_readIs_20 : decode cX7_readIs 20 = .ok (.getfield 40, 3) := by decide +kernel
theorem dX7_readIs_23 : decode cX7_readIs 23 = .ok (.invokevirtual 43, 3) := by decide +kernel
theorem dX7_readIs_26 : decode cX7_readIs 26 = .ok (.return_, 1) := by decide +kernel
theorem dX7_readIs_27 : decode cX7_readIs 27 = .ok (.aload_n 0, 1) := by decide +kernel
theorem dX7_readIs_28 : decode cX7_readIs 28 = .ok (.getfield 22, 3) := by decide +kernel
theorem dX7_readIs_31 : decode cX7_readIs 31 = .ok (.iconst 2, 1) := by decide +kernel
theorem dX7_readIs_32 : decode cX7_readIs 32 = .ok (.iload_n 1, 1) := by decide +kernel
theorem dX7_readIs_33 : decode cX7_readIs 33 = .ok (.invokevirtual 126, 3) := by decide +kernel
theorem dX7_readIs_36 : decode cX7_readIs 36 = .ok (.aload_n 0, 1) := by decide +kernel
theorem dX7_readIs_37 : decode cX7_readIs 37 = .ok (.invokevirtual 37, 3) := by decide +kernel
theorem dX7_readIs_40 : decode cX7_readIs 40 = .ok (.return_, 1) := by decide +kernel
theorem dX7_comparisonHere_0 : decode cX7_comparisonHere 0 = .ok (.aload_n 0, 1) := by decide +kernel
theorem dX7_comparisonHere_1 : decode cX7_comparisonHere 1 = .ok (.bipush 60, 2) := by decide +kernel
theorem dX7_comparisonHere_3 : decode cX7_comparisonHere 3 = .ok (.invokevirtual 132, 3) := by decide +kernel
theorem dX7_comparisonHere_6 : decode cX7_comparisonHere 6 = .ok (.ifCond .eq 6, 3) := by decide +kernel
theorem dX7_comparisonHere_9 : decode cX7_comparisonHere 9 = .ok (.bipush 10, 2) := by decide +kernel
theorem dX7_comparisonHere_11 : decode cX7_comparisonHere 11 = .ok (.ireturn, 1) := by decide +kernel
theorem dX7_comparisonHere_12 : decode cX7_comparisonHere 12 = .ok (.aload_n 0, 1) := by decide +kernel
theorem dX7_comparisonHere_13 : decode cX7_comparisonHere 13 = .ok (.bipush 62, 2) := by decide +kernel
theorem dX7_comparisonHere_15 : decode cX7_comparisonHere 15 = .ok (.invokevirtual 132, 3) := by decide +kernel
theorem dX7_comparisonHere_18 : decode cX7_comparisonHere 18 = .ok (.ifCond .eq 6, 3) := by decide +kernel
theorem dX7_comparisonHere_21 : decode cX7_comparisonHere 21 = .ok (.bipush 11, 2) := by decide +kernel
theorem dX7_comparisonHere_23 : decode cX7_comparisonHere 23 = .ok (.ireturn, 1) := by decide +kernel
theorem dX7_comparisonHere_24 : decode cX7_comparisonHere 24 = .ok (.aload_n 0, 1) := by decide +kernel
theorem dX7_comparisonHere_25 : decode cX7_comparisonHere 25 = .ok (.bipush 61, 2) := by decide +kernel
theorem dX7_comparisonHere_27 : decode cX7_comparisonHere 27 = .ok (.invokevirtual 132, 3) := by decide +kernel
theorem dX7_comparisonHere_30 : decode cX7_comparisonHere 30 = .ok (.ifCond .ne 12, 3) := by decide +kernel
theorem dX7_comparisonHere_33 : decode cX7_comparisonHere 33 = .ok (.aload_n 0, 1) := by decide +kernel
theorem dX7_comparisonHere_34 : decode cX7_comparisonHere 34 = .ok (.iconst 1, 1) := by decide +kernel
theorem dX7_comparisonHere_35 : decode cX7_comparisonHere 35 = .ok (.aload_n 0, 1) := by decide +kernel
theorem dX7_comparisonHere_36 : decode cX7_comparisonHere 36 = .ok (.getfield 40, 3) := by decide +kernel
theorem dX7_comparisonHere_39 : decode cX7_comparisonHere 39 = .ok (.invokevirtual 43, 3) := by decide +kernel
theorem dX7_comparisonHere_42 : decode cX7_comparisonHere 42 = .ok (.bipush 12, 2) := by decide +kernel
theorem dX7_comparisonHere_44 : decode cX7_comparisonHere 44 = .ok (.ireturn, 1) := by decide +kernel
theorem dX7_readSum_0 : decode cX7_readSum 0 = .ok (.iconst (-1), 1) := by decide +kernel
theorem dX7_readSum_1 : decode cX7_readSum 1 = .ok (.istore_n 2, 1) := by decide +kernel
theorem dX7_readSum_2 : decode cX7_readSum 2 = .ok (.aload_n 0, 1) := by decide +kernel
theorem dX7_readSum_3 : decode cX7_readSum 3 = .ok (.iload_n 1, 1) := by decide +kernel
theorem dX7_readSum_4 : decode cX7_readSum 4 = .ok (.invokevirtual 143, 3) := by decide +kernel
theorem dX7_readSum_7 : decode cX7_readSum 7 = .ok (.iconst 0, 1) := by decide +kernel
theorem dX7_readSum_8 : decode cX7_readSum 8 = .ok (.istore_n 3, 1) := by decide +kernel
theorem dX7_readSum_9 : decode cX7_readSum 9 = .ok (.iload_n 3, 1) := by decide +kernel
theorem dX7_readSum_10 : decode cX7_readSum 10 = .ok (.sipush 700, 3) := by decide +kernel
theorem dX7_readSum_13 : decode cX7_readSum 13 = .ok (.if_icmp .ge 93, 3) := by decide +kernel
theorem dX7_readSum_16 : decode cX7_readSum 16 = .ok (.aload_n 0, 1) := by decide +kernel
theorem dX7_readSum_17 : decode cX7_readSum 17 = .ok (.invokevirtual 146, 3) := by decide +kernel
theorem dX7_readSum_20 : decode cX7_readSum 20 = .ok (.iconst (-1), 1) := by decide +kernel
theorem dX7_readSum_21 : decode cX7_readSum 21 = .ok (.if_icmp .eq 85, 3) := by decide +kernel
theorem dX7_readSum_24 : decode cX7_readSum 24 = .ok (.aload_n 0, 1) := by decide +kernel
theorem dX7_readSum_25 : decode cX7_readSum 25 = .ok (.invokevirtual 146, 3) := by decide +kernel
theorem dX7_readSum_28 : decode cX7_readSum 28 = .ok (.istore 4, 2) := by decide +kernel
theorem dX7_readSum_30 : decode cX7_readSum 30 = .ok (.iload 4, 2) := by decide +kernel
theorem dX7_readSum_32 : decode cX7_readSum 32 = .ok (.bipush 6, 2) := by decide +kernel
theorem dX7_readSum_34 : decode cX7_readSum 34 = .ok (.if_icmp .eq 10, 3) := by decide +kernel
theorem dX7_readSum_37 : decode cX7_readSum 37 = .ok (.iload 4, 2) := by decide +kernel
theorem dX7_readSum_39 : decode cX7_readSum 39 = .ok (.bipush 7, 2) := by decide +kernel
theorem dX7_readSum_41 : decode cX7_readSum 41 = .ok (.if_icmp .ne 7, 3) := by decide +kernel
theorem dX7_readSum_44 : decode cX7_readSum 44 = .ok (.iconst 1, 1) := by decide +kernel
theorem dX7_readSum_45 : decode cX7_readSum 45 = .ok (.goto 4, 3) := by decide +kernel
theorem dX7_readSum_48 : decode cX7_readSum 48 = .ok (.iconst 0, 1) := by decide +kernel
theorem dX7_readSum_49 : decode cX7_readSum 49 = .ok (.istore 5, 2) := by decide +kernel
theorem dX7_readSum_51 : decode cX7_readSum 51 = .ok (.iload 5, 2) := by decide +kernel
theorem dX7_readSum_53 : decode cX7_readSum 53 = .ok (.ifCond .ne 17, 3) := by decide +kernel
theorem dX7_readSum_56 : decode cX7_readSum 56 = .ok (.iload_n 2, 1) := by decide +kernel
theorem dX7_readSum_57 : decode cX7_readSum 57 = .ok (.iconst (-1), 1) := by decide +kernel
theorem dX7_readSum_58 : decode cX7_readSum 58 = .ok (.if_icmp .eq 12, 3) := by decide +kernel
theorem dX7_readSum_61 : decode cX7_readSum 61 = .ok (.aload_n 0, 1) := by decide +kernel
theorem dX7_readSum_62 : decode cX7_readSum 62 = .ok (.getfield 22, 3) := by decide +kernel
theorem dX7_readSum_65 : decode cX7_readSum 65 = .ok (.iload_n 2, 1) := by decide +kernel
theorem dX7_readSum_66 : decode cX7_readSum 66 = .ok (.iconst 0, 1) := by decide +kernel
theorem dX7_readSum_67 : decode cX7_readSum 67 = .ok (.invokevirtual 126, 3) := by decide +kernel
theorem dX7_readSum_70 : decode cX7_readSum 70 = .ok (.aload_n 0, 1) := by decide +kernel
theorem dX7_readSum_71 : decode cX7_readSum 71 = .ok (.invokevirtual 37, 3) := by decide +kernel
theorem dX7_readSum_74 : decode cX7_readSum 74 = .ok (.aload_n 0, 1) := by decide +kernel
theorem dX7_readSum_75 : decode cX7_readSum 75 = .ok (.iload_n 1, 1) := by decide +kernel
theorem dX7_readSum_76 : decode cX7_readSum 76 = .ok (.invokevirtual 143, 3) := by decide +kernel
theorem dX7_readSum_79 : decode cX7_readSum 79 = .ok (.iload 5, 2) := by decide +kernel
theorem dX7_readSum_81 : decode cX7_readSum 81 = .ok (.ifCond .eq 16, 3) := by decide +kernel
theorem dX7_readSum_84 : decode cX7_readSum 84 = .ok (.aload_n 0, 1) := by decide +kernel
theorem dX7_readSum_85 : decode cX7_readSum 85 = .ok (.getfield 22, 3) := by decide +kernel
theorem dX7_readSum_88 : decode cX7_readSum 88 = .ok (.iload 4, 2) := by decide +kernel
theorem dX7_readSum_90 : decode cX7_readSum 90 = .ok (.iconst 0, 1) := by decide +kernel
theorem dX7_readSum_91 : decode cX7_readSum 91 = .ok (.invokevirtual 126, 3) := by decide +kernel
theorem dX7_readSum_94 : decode cX7_readSum 94 = .ok (.goto 6, 3) := by decide +kernel
theorem dX7_readSum_97 : decode cX7_readSum 97 = .ok (.iload 4, 2) := by decide +kernel
theorem dX7_readSum_99 : decode cX7_readSum 99 = .ok (.istore_n 2, 1) := by decide +kernel
theorem dX7_readSum_100 : decode cX7_readSum 100 = .ok (.iinc 3 1, 3) := by decide +kernel
theorem dX7_readSum_103 : decode cX7_readSum 103 = .ok (.goto (-94), 3) := by decide +kernel
theorem dX7_readSum_106 : decode cX7_readSum 106 = .ok (.iload_n 2, 1) := by decide +kernel
theorem dX7_readSum_107 : decode cX7_readSum 107 = .ok (.iconst (-1), 1) := by decide +kernel
theorem dX7_readSum_108 : decode cX7_readSum 108 = .ok (.if_icmp .eq 12, 3) := by decide +kernel
theorem dX7_readSum_111 : decode cX7_readSum 111 = .ok (.aload_n 0, 1) := by decide +kernel
theorem dX7_readSum_112 : decode cX7_readSum 112 = .ok (.getfield 22, 3) := by decide +kernel
theorem dX7_readSum_115 : decode cX7_readSum 115 = .ok (.iload_n 2, 1) := by decide +kernel
theorem dX7_readSum_116 : decode cX7_readSum 116 = .ok (.iconst 0, 1) := by decide +kernel
theorem dX7_readSum_117 : decode cX7_readSum 117 = .ok (.invokevirtual 126, 3) := by decide +kernel
theorem dX7_readSum_120 : decode cX7_readSum 120 = .ok (.return_, 1) := by decide +kernel
theorem dX7_operationHere_0 : decode cX7_operationHere 0 = .ok (.aload_n 0, 1) := by decide +kernel
theorem dX7_operationHere_1 : decode cX7_operationHere 1 = .ok (.getfield 31, 3) := by decide +kernel
theorem dX7_operationHere_4 : decode cX7_operationHere 4 = .ok (.iconst 3, 1) := by decide +kernel
theorem dX7_operationHere_5 : decode cX7_operationHere 5 = .ok (.if_icmp .eq 5, 3) := by decide +kernel
theorem dX7_operationHere_8 : decode cX7_operationHere 8 = .ok (.iconst (-1), 1) := by decide +kernel
theorem dX7_operationHere_9 : decode cX7_operationHere 9 = .ok (.ireturn, 1) := by decide +kernel
theorem dX7_operationHere_10 : decode cX7_operationHere 10 = .ok (.aload_n 0, 1) := by decide +kernel
theorem dX7_operationHere_11 : decode cX7_operationHere 11 = .ok (.getfield 93, 3) := by decide +kernel
theorem dX7_operationHere_14 : decode cX7_operationHere 14 = .ok (.tableswitch 48 42 47 #[42, 38, 48, 40, 48, 45], 38) := by decide +kernel
theorem dX7_operationHere_52 : decode cX7_operationHere 52 = .ok (.iconst 4, 1) := by decide +kernel
theorem dX7_operationHere_53 : decode cX7_operationHere 53 = .ok (.ireturn, 1) := by decide +kernel
theorem dX7_operationHere_54 : decode cX7_operationHere 54 = .ok (.iconst 5, 1) := by decide +kernel
theorem dX7_operationHere_55 : decode cX7_operationHere 55 = .ok (.ireturn, 1) := by decide +kernel
theorem dX7_operationHere_56 : decode cX7_operationHere 56 = .ok (.bipush 6, 2) := by decide +kernel
theorem dX7_operationHere_58 : decode cX7_operationHere 58 = .ok (.ireturn, 1) := by decide +kernel
theorem dX7_operationHere_59 : decode cX7_operationHere 59 = .ok (.bipush 7, 2) := by decide +kernel
theorem dX7_operationHere_61 : decode cX7_operationHere 61 = .ok (.ireturn, 1) := by decide +kernel
theorem dX7_operationHere_62 : decode cX7_operationHere 62 = .ok (.iconst (-1), 1) := by decide +kernel
theorem dX7_operationHere_63 : decode cX7_operationHere 63 = .ok (.ireturn, 1) := by decide +kernel
theorem dX7_readPart_0 : decode cX7_readPart 0 = .ok (.aload_n 0, 1) := by decide +kernel
theorem dX7_readPart_1 : decode cX7_readPart 1 = .ok (.getfield 31, 3) := by decide +kernel
theorem dX7_readPart_4 : decode cX7_readPart 4 = .ok (.iconst 2, 1) := by decide +kernel
theorem dX7_readPart_5 : decode cX7_readPart 5 = .ok (.if_icmp .ne 22, 3) := by decide +kernel
theorem dX7_readPart_8 : decode cX7_readPart 8 = .ok (.aload_n 0, 1) := by decide +kernel
theorem dX7_readPart_9 : decode cX7_readPart 9 = .ok (.getfield 22, 3) := by decide +kernel
theorem dX7_readPart_12 : decode cX7_readPart 12 = .ok (.iconst 0, 1) := by decide +kernel
theorem dX7_readPart_13 : decode cX7_readPart 13 = .ok (.aload_n 0, 1) := by decide +kernel
theorem dX7_readPart_14 : decode cX7_readPart 14 = .ok (.invokevirtual 149, 3) := by decide +kernel
theorem dX7_readPart_17 : decode cX7_readPart 17 = .ok (.invokevirtual 126, 3) := by decide +kernel
theorem dX7_readPart_20 : decode cX7_readPart 20 = .ok (.aload_n 0, 1) := by decide +kernel
theorem dX7_readPart_21 : decode cX7_readPart 21 = .ok (.invokevirtual 37, 3) := by decide +kernel
theorem dX7_readPart_24 : decode cX7_readPart 24 = .ok (.goto 136, 3) := by decide +kernel
theorem dX7_readPart_27 : decode cX7_readPart 27 = .ok (.aload_n 0, 1) := by decide +kernel
theorem dX7_readPart_28 : decode cX7_readPart 28 = .ok (.getfield 31, 3) := by decide +kernel
theorem dX7_readPart_31 : decode cX7_readPart 31 = .ok (.iconst 1, 1) := by decide +kernel
theorem dX7_readPart_32 : decode cX7_readPart 32 = .ok (.if_icmp .ne 34, 3) := by decide +kernel
theorem dX7_readPart_35 : decode cX7_readPart 35 = .ok (.aload_n 0, 1) := by decide +kernel
theorem dX7_readPart_36 : decode cX7_readPart 36 = .ok (.getfield 93, 3) := by decide +kernel
theorem dX7_readPart_39 : decode cX7_readPart 39 = .ok (.bipush 14, 2) := by decide +kernel
theorem dX7_readPart_41 : decode cX7_readPart 41 = .ok (.if_icmp .lt 25, 3) := by decide +kernel
theorem dX7_readPart_44 : decode cX7_readPart 44 = .ok (.aload_n 0, 1) := by decide +kernel
theorem dX7_readPart_45 : decode cX7_readPart 45 = .ok (.getfield 22, 3) := by decide +kernel
theorem dX7_readPart_48 : decode cX7_readPart 48 = .ok (.iconst 1, 1) := by decide +kernel
theorem dX7_readPart_49 : decode cX7_readPart 49 = .ok (.aload_n 0, 1) := by decide +kernel
theorem dX7_readPart_50 : decode cX7_readPart 50 = .ok (.getfield 93, 3) := by decide +kernel
theorem dX7_readPart_53 : decode cX7_readPart 53 = .ok (.bipush 14, 2) := by decide +kernel
theorem dX7_readPart_55 : decode cX7_readPart 55 = .ok (.isub, 1) := by decide +kernel
theorem dX7_readPart_56 : decode cX7_readPart 56 = .ok (.invokevirtual 126, 3) := by decide +kernel
theorem dX7_readPart_59 : decode cX7_readPart 59 = .ok (.aload_n 0, 1) := by decide +kernel
theorem dX7_readPart_60 : decode cX7_readPart 60 = .ok (.invokevirtual 37, 3) := by decide +kernel
theorem dX7_readPart_63 : decode cX7_readPart 63 = .ok (.goto 97, 3) := by decide +kernel
theorem dX7_readPart_66 : decode cX7_readPart 66 = .ok (.aload_n 0, 1) := by decide +kernel
theorem dX7_readPart_67 : decode cX7_readPart 67 = .ok (.bipush 40, 2) := by decide +kernel
theorem dX7_readPart_69 : decode cX7_readPart 69 = .ok (.invokevirtual 132, 3) := by decide +kernel
theorem dX7_readPart_72 : decode cX7_readPart 72 = .ok (.ifCond .eq 31, 3) := by decide +kernel
theorem dX7_readPart_75 : decode cX7_readPart 75 = .ok (.aload_n 0, 1) := by decide +kernel
theorem dX7_readPart_76 : decode cX7_readPart 76 = .ok (.iload_n 1, 1) := by decide +kernel
theorem dX7_readPart_77 : decode cX7_readPart 77 = .ok (.invokevirtual 129, 3) := by decide +kernel
theorem dX7_readPart_80 : decode cX7_readPart 80 = .ok (.ifCond .eq 80, 3) := by decide +kernel
theorem dX7_readPart_83 : decode cX7_readPart 83 = .ok (.aload_n 0, 1) := by decide +kernel
theorem dX7_readPart_84 : decode cX7_readPart 84 = .ok (.invokevirtual 37, 3) := by decide +kernel
theorem dX7_readPart_87 : decode cX7_readPart 87 = .ok (.aload_n 0, 1) := by decide +kernel
theorem dX7_readPart_88 : decode cX7_readPart 88 = .ok (.iload_n 1, 1) := by decide +kernel
theorem dX7_readPart_89 : decode cX7_readPart 89 = .ok (.iconst 1, 1) := by decide +kernel
theorem dX7_readPart_90 : decode cX7_readPart 90 = .ok (.iadd, 1) := by decide +kernel
theorem dX7_readPart_91 : decode cX7_readPart 91 = .ok (.invokevirtual 102, 3) := by decide +kernel
theorem dX7_readPart_94 : decode cX7_readPart 94 = .ok (.aload_n 0, 1) := by decide +kernel
theorem dX7_readPart_95 : decode cX7_readPart 95 = .ok (.bipush 41, 2) := by decide +kernel
theorem dX7_readPart_97 : decode cX7_readPart 97 = .ok (.invokevirtual 114, 3) := by decide +kernel
theorem dX7_readPart_100 : decode cX7_readPart 100 = .ok (.goto 60, 3) := by decide +kernel
theorem dX7_readPart_103 : decode cX7_readPart 103 = .ok (.aload_n 0, 1) := by decide +kernel
theorem dX7_readPart_104 : decode cX7_readPart 104 = .ok (.bipush 12, 2) := by decide +kernel
theorem dX7_readPart_106 : decode cX7_readPart 106 = .ok (.invokevirtual 47, 3) := by decide +kernel
theorem dX7_readPart_109 : decode cX7_readPart 109 = .ok (.ifCond .ne 12, 3) := by decide +kernel
theorem dX7_readPart_112 : decode cX7_readPart 112 = .ok (.aload_n 0, 1) := by decide +kernel
theorem dX7_readPart_113 : decode cX7_readPart 113 = .ok (.bipush 13, 2) := by decide +kernel
theorem dX7_readPart_115 : decode cX7_readPart 115 = .ok (.invokevirtual 47, 3) := by decide +kernel
theorem dX7_readPart_118 : decode cX7_readPart 118 = .ok (.ifCond .eq 33, 3) := by decide +kernel
theorem dX7_readPart_121 : decode cX7_readPart 121 = .ok (.aload_n 0, 1) := by decide +kernel
theorem dX7_readPart_122 : decode cX7_readPart 122 = .ok (.bipush 12, 2) := by decide +kernel
theorem dX7_readPart_124 : decode cX7_readPart 124 = .ok (.invokevirtual 47, 3) := by decide +kernel
theorem dX7_readPart_127 : decode cX7_readPart 127 = .ok (.ifCond .eq 8, 3) := by decide +kernel
theorem dX7_readPart_130 : decode cX7_readPart 130 = .ok (.bipush 8, 2) := by decide +kernel
theorem dX7_readPart_132 : decode cX7_readPart 132 = .ok (.goto 5, 3) := by decide +kernel
theorem dX7_readPart_135 : decode cX7_readPart 135 = .ok (.bipush 9, 2) := by decide +kernel
theorem dX7_readPart_137 : decode cX7_readPart 137 = .ok (.istore_n 2, 1) := by decide +kernel
theorem dX7_readPart_138 : decode cX7_readPart 138 = .ok (.aload_n 0, 1) := by decide +kernel
theorem dX7_readPart_139 : decode cX7_readPart 139 = .ok (.invokevirtual 37, 3) := by decide +kernel
theorem dX7_readPart_142 : decode cX7_readPart 142 = .ok (.aload_n 0, 1) := by decide +kernel
theorem dX7_readPart_143 : decode cX7_readPart 143 = .ok (.iload_n 1, 1) := by decide +kernel
theorem dX7_readPart_144 : decode cX7_readPart 144 = .ok (.iload_n 2, 1) := by decide +kernel
theorem dX7_readPart_145 : decode cX7_readPart 145 = .ok (.invokevirtual 152, 3) := by decide +kernel
theorem dX7_readPart_148 : decode cX7_readPart 148 = .ok (.goto 12, 3) := by decide +kernel
theorem dX7_readPart_151 : decode cX7_readPart 151 = .ok (.aload_n 0, 1) := by decide +kernel
theorem dX7_readPart_152 : decode cX7_readPart 152 = .ok (.iconst 1, 1) := by decide +kernel
theorem dX7_readPart_153 : decode cX7_readPart 153 = .ok (.aload_n 0, 1) := by decide +kernel
theorem dX7_readPart_154 : decode cX7_readPart 154 = .ok (.getfield 40, 3) := by decide +kernel
theorem dX7_readPart_157 : decode cX7_readPart 157 = .ok (.invokevirtual 43, 3) := by decide +kernel
theorem dX7_readPart_160 : decode cX7_readPart 160 = .ok (.return_, 1) := by decide +kernel
theorem dX7_readPair_0 : decode cX7_readPair 0 = .ok (.aload_n 0, 1) := by decide +kernel
theorem dX7_readPair_1 : decode cX7_readPair 1 = .ok (.bipush 40, 2) := by decide +kernel
theorem dX7_readPair_3 : decode cX7_readPair 3 = .ok (.invokevirtual 132, 3) := by decide +kernel
theorem dX7_readPair_6 : decode cX7_readPair 6 = .ok (.ifCond .ne 15, 3) := by decide +kernel
theorem dX7_readPair_9 : decode cX7_readPair 9 = .ok (.aload_n 0, 1) := by decide +kernel
theorem dX7_readPair_10 : decode cX7_readPair 10 = .ok (.iconst 1, 1) := by decide +kernel
theorem dX7_readPair_11 : decode cX7_readPair 11 = .ok (.aload_n 0, 1) := by decide +kernel
theorem dX7_readPair_12 : decode cX7_readPair 12 = .ok (.getfield 40, 3) := by decide +kernel
theorem dX7_readPair_15 : decode cX7_readPair 15 = .ok (.invokevirtual 43, 3) := by decide +kernel
theorem dX7_readPair_18 : decode cX7_readPair 18 = .ok (.goto 50, 3) := by decide +kernel
theorem dX7_readPair_21 : decode cX7_readPair 21 = .ok (.aload_n 0, 1) := by decide +kernel
theorem dX7_readPair_22 : decode cX7_readPair 22 = .ok (.iload_n 1, 1) := by decide +kernel
theorem dX7_readPair_23 : decode cX7_readPair 23 = .ok (.invokevirtual 129, 3) := by decide +kernel
theorem dX7_readPair_26 : decode cX7_readPair 26 = .ok (.ifCond .eq 42, 3) := by decide +kernel
theorem dX7_readPair_29 : decode cX7_readPair 29 = .ok (.aload_n 0, 1) := by decide +kernel
theorem dX7_readPair_30 : decode cX7_readPair 30 = .ok (.invokevirtual 37, 3) := by decide +kernel
theorem dX7_readPair_33 : decode cX7_readPair 33 = .ok (.aload_n 0, 1) := by decide +kernel
theorem dX7_readPair_34 : decode cX7_readPair 34 = .ok (.iload_n 1, 1) := by decide +kernel
theorem dX7_readPair_35 : decode cX7_readPair 35 = .ok (.iconst 1, 1) := by decide +kernel
theorem dX7_readPair_36 : decode cX7_readPair 36 = .ok (.iadd, 1) := by decide +kernel
theorem dX7_readPair_37 : decode cX7_readPair 37 = .ok (.invokevirtual 102, 3) := by decide +kernel
theorem dX7_readPair_40 : decode cX7_readPair 40 = .ok (.aload_n 0, 1) := by decide +kernel
theorem dX7_readPair_41 : decode cX7_readPair 41 = .ok (.bipush 44, 2) := by decide +kernel
theorem dX7_readPair_43 : decode cX7_readPair 43 = .ok (.invokevirtual 114, 3) := by decide +kernel
theorem dX7_readPair_46 : decode cX7_readPair 46 = .ok (.aload_n 0, 1) := by decide +kernel
theorem dX7_readPair_47 : decode cX7_readPair 47 = .ok (.iload_n 1, 1) := by decide +kernel
theorem dX7_readPair_48 : decode cX7_readPair 48 = .ok (.iconst 1, 1) := by decide +kernel
theorem dX7_readPair_49 : decode cX7_readPair 49 = .ok (.iadd, 1) := by decide +kernel
theorem dX7_readPair_50 : decode cX7_readPair 50 = .ok (.invokevirtual 102, 3) := by decide +kernel
theorem dX7_readPair_53 : decode cX7_readPair 53 = .ok (.aload_n 0, 1) := by decide +kernel
theorem dX7_readPair_54 : decode cX7_readPair 54 = .ok (.bipush 41, 2) := by decide +kernel
theorem dX7_readPair_56 : decode cX7_readPair 56 = .ok (.invokevirtual 114, 3) := by decide +kernel
theorem dX7_readPair_59 : decode cX7_readPair 59 = .ok (.aload_n 0, 1) := by decide +kernel
theorem dX7_readPair_60 : decode cX7_readPair 60 = .ok (.getfield 22, 3) := by decide +kernel
theorem dX7_readPair_63 : decode cX7_readPair 63 = .ok (.iload_n 2, 1) := by decide +kernel
theorem dX7_readPair_64 : decode cX7_readPair 64 = .ok (.iconst 0, 1) := by decide +kernel
theorem dX7_readPair_65 : decode cX7_readPair 65 = .ok (.invokevirtual 126, 3) := by decide +kernel
theorem dX7_readPair_68 : decode cX7_readPair 68 = .ok (.return_, 1) := by decide +kernel
theorem dX7_mayOpen_0 : decode cX7_mayOpen 0 = .ok (.iload_n 1, 1) := by decide +kernel
theorem dX7_mayOpen_1 : decode cX7_mayOpen 1 = .ok (.bipush 6, 2) := by decide +kernel
theorem dX7_mayOpen_3 : decode cX7_mayOpen 3 = .ok (.if_icmp .lt 14, 3) := by decide +kernel
theorem dX7_mayOpen_6 : decode cX7_mayOpen 6 = .ok (.aload_n 0, 1) := by decide +kernel
theorem dX7_mayOpen_7 : decode cX7_mayOpen 7 = .ok (.iconst 4, 1) := by decide +kernel
theorem dX7_mayOpen_8 : decode cX7_mayOpen 8 = .ok (.aload_n 0, 1) := by decide +kernel
theorem dX7_mayOpen_9 : decode cX7_mayOpen 9 = .ok (.getfield 40, 3) := by decide +kernel
theorem dX7_mayOpen_12 : decode cX7_mayOpen 12 = .ok (.invokevirtual 43, 3) := by decide +kernel
theorem dX7_mayOpen_15 : decode cX7_mayOpen 15 = .ok (.iconst 0, 1) := by decide +kernel
theorem dX7_mayOpen_16 : decode cX7_mayOpen 16 = .ok (.ireturn, 1) := by decide +kernel
theorem dX7_mayOpen_17 : decode cX7_mayOpen 17 = .ok (.iconst 1, 1) := by decide +kernel
