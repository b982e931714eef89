theorem dX11_takes__15 : decode cX11_takes_ 15 = .ok (.aload_n 0, 1) := by decide +kernel
theorem dX11_takes__16 : decode cX11_takes_ 16 = .ok (.getfield 178, 3) := by decide +kernel
theorem dX11_takes__19 : decode cX11_takes_ 19 = .ok (.iload_n 1, 1) := by decide +kernel
theorem dX11_takes__20 : decode cX11_takes_ 20 = .ok (.baload, 1) := by decide +kernel
theorem dX11_takes__21 : decode cX11_takes_ 21 = .ok (.ifCond .ne 6, 3) := by decide +kernel
theorem dX11_takes__24 : decode cX11_takes_ 24 = .ok (.goto 75, 3) := by decide +kernel
theorem dX11_takes__27 : decode cX11_takes_ 27 = .ok (.aload_n 0, 1) := by decide +kernel
theorem dX11_takes__28 : decode cX11_takes_ 28 = .ok (.getfield 182, 3) := by decide +kernel
theorem dX11_takes__31 : decode cX11_takes_ 31 = .ok (.aload_n 0, 1) := by decide +kernel
theorem dX11_takes__32 : decode cX11_takes_ 32 = .ok (.getfield 525, 3) := by decide +kernel
theorem dX11_takes__35 : decode cX11_takes_ 35 = .ok (.iload_n 1, 1) := by decide +kernel
theorem dX11_takes__36 : decode cX11_takes_ 36 = .ok (.iastore, 1) := by decide +kernel
theorem dX11_takes__37 : decode cX11_takes_ 37 = .ok (.aload_n 0, 1) := by decide +kernel
theorem dX11_takes__38 : decode cX11_takes_ 38 = .ok (.getfield 185, 3) := by decide +kernel
theorem dX11_takes__41 : decode cX11_takes_ 41 = .ok (.aload_n 0, 1) := by decide +kernel
theorem dX11_takes__42 : decode cX11_takes_ 42 = .ok (.getfield 525, 3) := by decide +kernel
theorem dX11_takes__45 : decode cX11_takes_ 45 = .ok (.aload_n 0, 1) := by decide +kernel
theorem dX11_takes__46 : decode cX11_takes_ 46 = .ok (.iload_n 1, 1) := by decide +kernel
theorem dX11_takes__47 : decode cX11_takes_ 47 = .ok (.invokevirtual 475, 3) := by decide +kernel
theorem dX11_takes__50 : decode cX11_takes_ 50 = .ok (.iastore, 1) := by decide +kernel
theorem dX11_takes__51 : decode cX11_takes_ 51 = .ok (.aload_n 0, 1) := by decide +kernel
theorem dX11_takes__52 : decode cX11_takes_ 52 = .ok (.getfield 188, 3) := by decide +kernel
theorem dX11_takes__55 : decode cX11_takes_ 55 = .ok (.aload_n 0, 1) := by decide +kernel
theorem dX11_takes__56 : decode cX11_takes_ 56 = .ok (.getfield 525, 3) := by decide +kernel
theorem dX11_takes__59 : decode cX11_takes_ 59 = .ok (.aload_n 0, 1) := by decide +kernel
theorem dX11_takes__60 : decode cX11_takes_ 60 = .ok (.getfield 154, 3) := by decide +kernel
theorem dX11_takes__63 : decode cX11_takes_ 63 = .ok (.iload_n 1, 1) := by decide +kernel
theorem dX11_takes__64 : decode cX11_takes_ 64 = .ok (.iaload, 1) := by decide +kernel
theorem dX11_takes__65 : decode cX11_takes_ 65 = .ok (.iastore, 1) := by decide +kernel
theorem dX11_takes__66 : decode cX11_takes_ 66 = .ok (.aload_n 0, 1) := by decide +kernel
theorem dX11_takes__67 : decode cX11_takes_ 67 = .ok (.getfield 191, 3) := by decide +kernel
theorem dX11_takes__70 : decode cX11_takes_ 70 = .ok (.aload_n 0, 1) := by decide +kernel
theorem dX11_takes__71 : decode cX11_takes_ 71 = .ok (.getfield 525, 3) := by decide +kernel
theorem dX11_takes__74 : decode cX11_takes_ 74 = .ok (.aload_n 0, 1) := by decide +kernel
theorem dX11_takes__75 : decode cX11_takes_ 75 = .ok (.getfield 91, 3) := by decide +kernel
theorem dX11_takes__78 : decode cX11_takes_ 78 = .ok (.bipush 8, 2) := by decide +kernel
theorem dX11_takes__80 : decode cX11_takes_ 80 = .ok (.aload_n 0, 1) := by decide +kernel
theorem dX11_takes__81 : decode cX11_takes_ 81 = .ok (.getfield 151, 3) := by decide +kernel
theorem dX11_takes__84 : decode cX11_takes_ 84 = .ok (.iload_n 1, 1) := by decide +kernel
theorem dX11_takes__85 : decode cX11_takes_ 85 = .ok (.iaload, 1) := by decide +kernel
theorem dX11_takes__86 : decode cX11_takes_ 86 = .ok (.iadd, 1) := by decide +kernel
theorem dX11_takes__87 : decode cX11_takes_ 87 = .ok (.iaload, 1) := by decide +kernel
theorem dX11_takes__88 : decode cX11_takes_ 88 = .ok (.iastore, 1) := by decide +kernel
theorem dX11_takes__89 : decode cX11_takes_ 89 = .ok (.aload_n 0, 1) := by decide +kernel
theorem dX11_takes__90 : decode cX11_takes_ 90 = .ok (.dup, 1) := by decide +kernel
theorem dX11_takes__91 : decode cX11_takes_ 91 = .ok (.getfield 525, 3) := by decide +kernel
theorem dX11_takes__94 : decode cX11_takes_ 94 = .ok (.iconst 1, 1) := by decide +kernel
theorem dX11_takes__95 : decode cX11_takes_ 95 = .ok (.iadd, 1) := by decide +kernel
theorem dX11_takes__96 : decode cX11_takes_ 96 = .ok (.putfield 525, 3) := by decide +kernel
theorem dX11_takes__99 : decode cX11_takes_ 99 = .ok (.iinc 1 1, 3) := by decide +kernel
theorem dX11_takes__102 : decode cX11_takes_ 102 = .ok (.goto (-95), 3) := by decide +kernel
theorem dX11_takes__105 : decode cX11_takes_ 105 = .ok (.return_, 1) := by decide +kernel
theorem dX11_above_0 : decode cX11_above 0 = .ok (.aload_n 0, 1) := by decide +kernel
theorem dX11_above_1 : decode cX11_above 1 = .ok (.getfield 188, 3) := by decide +kernel
theorem dX11_above_4 : decode cX11_above 4 = .ok (.iload_n 1, 1) := by decide +kernel
theorem dX11_above_5 : decode cX11_above 5 = .ok (.iaload, 1) := by decide +kernel
theorem dX11_above_6 : decode cX11_above 6 = .ok (.i2l, 1) := by decide +kernel
theorem dX11_above_7 : decode cX11_above 7 = .ok (.aload_n 0, 1) := by decide +kernel
theorem dX11_above_8 : decode cX11_above 8 = .ok (.getfield 185, 3) := by decide +kernel
theorem dX11_above_11 : decode cX11_above 11 = .ok (.iload_n 1, 1) := by decide +kernel
theorem dX11_above_12 : decode cX11_above 12 = .ok (.iaload, 1) := by decide +kernel
theorem dX11_above_13 : decode cX11_above 13 = .ok (.i2l, 1) := by decide +kernel
theorem dX11_above_14 : decode cX11_above 14 = .ok (.lmul, 1) := by decide +kernel
theorem dX11_above_15 : decode cX11_above 15 = .ok (.aload_n 0, 1) := by decide +kernel
theorem dX11_above_16 : decode cX11_above 16 = .ok (.getfield 191, 3) := by decide +kernel
theorem dX11_above_19 : decode cX11_above 19 = .ok (.iload_n 1, 1) := by decide +kernel
theorem dX11_above_20 : decode cX11_above 20 = .ok (.iaload, 1) := by decide +kernel
theorem dX11_above_21 : decode cX11_above 21 = .ok (.i2l, 1) := by decide +kernel
theorem dX11_above_22 : decode cX11_above 22 = .ok (.ladd, 1) := by decide +kernel
theorem dX11_above_23 : decode cX11_above 23 = .ok (.lreturn, 1) := by decide +kernel
theorem dX11_isBefore_0 : decode cX11_isBefore 0 = .ok (.aload_n 0, 1) := by decide +kernel
theorem dX11_isBefore_1 : decode cX11_isBefore 1 = .ok (.iload_n 1, 1) := by decide +kernel
theorem dX11_isBefore_2 : decode cX11_isBefore 2 = .ok (.invokevirtual 528, 3) := by decide +kernel
theorem dX11_isBefore_5 : decode cX11_isBefore 5 = .ok (.aload_n 0, 1) := by decide +kernel
theorem dX11_isBefore_6 : decode cX11_isBefore 6 = .ok (.getfield 185, 3) := by decide +kernel
theorem dX11_isBefore_9 : decode cX11_isBefore 9 = .ok (.iload_n 2, 1) := by decide +kernel
theorem dX11_isBefore_10 : decode cX11_isBefore 10 = .ok (.iaload, 1) := by decide +kernel
theorem dX11_isBefore_11 : decode cX11_isBefore 11 = .ok (.i2l, 1) := by decide +kernel
theorem dX11_isBefore_12 : decode cX11_isBefore 12 = .ok (.lmul, 1) := by decide +kernel
theorem dX11_isBefore_13 : decode cX11_isBefore 13 = .ok (.aload_n 0, 1) := by decide +kernel
theorem dX11_isBefore_14 : decode cX11_isBefore 14 = .ok (.iload_n 2, 1) := by decide +kernel
theorem dX11_isBefore_15 : decode cX11_isBefore 15 = .ok (.invokevirtual 528, 3) := by decide +kernel
theorem dX11_isBefore_18 : decode cX11_isBefore 18 = .ok (.aload_n 0, 1) := by decide +kernel
theorem dX11_isBefore_19 : decode cX11_isBefore 19 = .ok (.getfield 185, 3) := by decide +kernel
theorem dX11_isBefore_22 : decode cX11_isBefore 22 = .ok (.iload_n 1, 1) := by decide +kernel
theorem dX11_isBefore_23 : decode cX11_isBefore 23 = .ok (.iaload, 1) := by decide +kernel
theorem dX11_isBefore_24 : decode cX11_isBefore 24 = .ok (.i2l, 1) := by decide +kernel
theorem dX11_isBefore_25 : decode cX11_isBefore 25 = .ok (.lmul, 1) := by decide +kernel
theorem dX11_isBefore_26 : decode cX11_isBefore 26 = .ok (.lcmp, 1) := by decide +kernel
theorem dX11_isBefore_27 : decode cX11_isBefore 27 = .ok (.ifCond .ge 7, 3) := by decide +kernel
theorem dX11_isBefore_30 : decode cX11_isBefore 30 = .ok (.iconst 1, 1) := by decide +kernel
theorem dX11_isBefore_31 : decode cX11_isBefore 31 = .ok (.goto 4, 3) := by decide +kernel
theorem dX11_isBefore_34 : decode cX11_isBefore 34 = .ok (.iconst 0, 1) := by decide +kernel
theorem dX11_isBefore_35 : decode cX11_isBefore 35 = .ok (.ireturn, 1) := by decide +kernel
theorem dX11_pulls_0 : decode cX11_pulls 0 = .ok (.iconst 0, 1) := by decide +kernel
theorem dX11_pulls_1 : decode cX11_pulls 1 = .ok (.istore_n 1, 1) := by decide +kernel
theorem dX11_pulls_2 : decode cX11_pulls 2 = .ok (.iload_n 1, 1) := by decide +kernel
theorem dX11_pulls_3 : decode cX11_pulls 3 = .ok (.aload_n 0, 1) := by decide +kernel
theorem dX11_pulls_4 : decode cX11_pulls 4 = .ok (.getfield 525, 3) := by decide +kernel
theorem dX11_pulls_7 : decode cX11_pulls 7 = .ok (.if_icmp .ge 58, 3) := by decide +kernel
theorem dX11_pulls_10 : decode cX11_pulls 10 = .ok (.iload_n 1, 1) := by decide +kernel
theorem dX11_pulls_11 : decode cX11_pulls 11 = .ok (.istore_n 2, 1) := by decide +kernel
theorem dX11_pulls_12 : decode cX11_pulls 12 = .ok (.iload_n 2, 1) := by decide +kernel
theorem dX11_pulls_13 : decode cX11_pulls 13 = .ok (.ifCond .le 39, 3) := by decide +kernel
theorem dX11_pulls_16 : decode cX11_pulls 16 = .ok (.aload_n 0, 1) := by decide +kernel
theorem dX11_pulls_17 : decode cX11_pulls 17 = .ok (.iload_n 1, 1) := by decide +kernel
theorem dX11_pulls_18 : decode cX11_pulls 18 = .ok (.aload_n 0, 1) := by decide +kernel
theorem dX11_pulls_19 : decode cX11_pulls 19 = .ok (.getfield 194, 3) := by decide +kernel
theorem dX11_pulls_22 : decode cX11_pulls 22 = .ok (.iload_n 2, 1) := by decide +kernel
theorem dX11_pulls_23 : decode cX11_pulls 23 = .ok (.iconst 1, 1) := by decide +kernel
theorem dX11_pulls_24 : decode cX11_pulls 24 = .ok (.isub, 1) := by decide +kernel
theorem dX11_pulls_25 : decode cX11_pulls 25 = .ok (.iaload, 1) := by decide +kernel
theorem dX11_pulls_26 : decode cX11_pulls 26 = .ok (.invokevirtual 531, 3) := by decide +kernel
theorem dX11_pulls_29 : decode cX11_pulls 29 = .ok (.ifCond .eq 23, 3) := by decide +kernel
theorem dX11_pulls_32 : decode cX11_pulls 32 = .ok (.aload_n 0, 1) := by decide +kernel
theorem dX11_pulls_33 : decode cX11_pulls 33 = .ok (.getfield 194, 3) := by decide +kernel
theorem dX11_pulls_36 : decode cX11_pulls 36 = .ok (.iload_n 2, 1) := by decide +kernel
theorem dX11_pulls_37 : decode cX11_pulls 37 = .ok (.aload_n 0, 1) := by decide +kernel
theorem dX11_pulls_38 : decode cX11_pulls 38 = .ok (.getfield 194, 3) := by decide +kernel
theorem dX11_pulls_41 : decode cX11_pulls 41 = .ok (.iload_n 2, 1) := by decide +kernel
theorem dX11_pulls_42 : decode cX11_pulls 42 = .ok (.iconst 1, 1) := by decide +kernel
theorem dX11_pulls_43 : decode cX11_pulls 43 = .ok (.isub, 1) := by decide +kernel
theorem dX11_pulls_44 : decode cX11_pulls 44 = .ok (.iaload, 1) := by decide +kernel
theorem dX11_pulls_45 : decode cX11_pulls 45 = .ok (.iastore, 1) := by decide +kernel
theorem dX11_pulls_46 : decode cX11_pulls 46 = .ok (.iinc 2 (-1), 3) := by decide +kernel
theorem dX11_pulls_49 : decode cX11_pulls 49 = .ok (.goto (-37), 3) := by decide +kernel
theorem dX11_pulls_52 : decode cX11_pulls 52 = .ok (.aload_n 0, 1) := by decide +kernel
theorem dX11_pulls_53 : decode cX11_pulls 53 = .ok (.getfield 194, 3) := by decide +kernel
theorem dX11_pulls_56 : decode cX11_pulls 56 = .ok (.iload_n 2, 1) := by decide +kernel
theorem dX11_pulls_57 : decode cX11_pulls 57 = .ok (.iload_n 1, 1) := by decide +kernel
theorem dX11_pulls_58 : decode cX11_pulls 58 = .ok (.iastore, 1) := by decide +kernel
theorem dX11_pulls_59 : decode cX11_pulls 59 = .ok (.iinc 1 1, 3) := by decide +kernel
theorem dX11_pulls_62 : decode cX11_pulls 62 = .ok (.goto (-60), 3) := by decide +kernel
theorem dX11_pulls_65 : decode cX11_pulls 65 = .ok (.return_, 1) := by decide +kernel
theorem dX11_loadAt_0 : decode cX11_loadAt 0 = .ok (.aload_n 0, 1) := by decide +kernel
theorem dX11_loadAt_1 : decode cX11_loadAt 1 = .ok (.getfield 194, 3) := by decide +kernel
theorem dX11_loadAt_4 : decode cX11_loadAt 4 = .ok (.iload_n 1, 1) := by decide +kernel
theorem dX11_loadAt_5 : decode cX11_loadAt 5 = .ok (.iaload, 1) := by decide +kernel
theorem dX11_loadAt_6 : decode cX11_loadAt 6 = .ok (.istore_n 2, 1) := by decide +kernel
theorem dX11_loadAt_7 : decode cX11_loadAt 7 = .ok (.lconst 0, 1) := by decide +kernel
theorem dX11_loadAt_8 : decode cX11_loadAt 8 = .ok (.lstore_n 3, 1) := by decide +kernel
theorem dX11_loadAt_9 : decode cX11_loadAt 9 = .ok (.iconst 0, 1) := by decide +kernel
theorem dX11_loadAt_10 : decode cX11_loadAt 10 = .ok (.istore 5, 2) := by decide +kernel
theorem dX11_loadAt_12 : decode cX11_loadAt 12 = .ok (.iload 5, 2) := by decide +kernel
theorem dX11_loadAt_14 : decode cX11_loadAt 14 = .ok (.aload_n 0, 1) := by decide +kernel
theorem dX11_loadAt_15 : decode cX11_loadAt 15 = .ok (.getfield 525, 3) := by decide +kernel
theorem dX11_loadAt_18 : decode cX11_loadAt 18 = .ok (.if_icmp .ge 67, 3) := by decide +kernel
theorem dX11_loadAt_21 : decode cX11_loadAt 21 = .ok (.aload_n 0, 1) := by decide +kernel
theorem dX11_loadAt_22 : decode cX11_loadAt 22 = .ok (.iload 5, 2) := by decide +kernel
theorem dX11_loadAt_24 : decode cX11_loadAt 24 = .ok (.iload_n 2, 1) := by decide +kernel
theorem dX11_loadAt_25 : decode cX11_loadAt 25 = .ok (.invokevirtual 531, 3) := by decide +kernel
theorem dX11_loadAt_28 : decode cX11_loadAt 28 = .ok (.ifCond .eq 6, 3) := by decide +kernel
theorem dX11_loadAt_31 : decode cX11_loadAt 31 = .ok (.goto 48, 3) := by decide +kernel
theorem dX11_loadAt_34 : decode cX11_loadAt 34 = .ok (.aload_n 0, 1) := by decide +kernel
theorem dX11_loadAt_35 : decode cX11_loadAt 35 = .ok (.iload_n 2, 1) := by decide +kernel
theorem dX11_loadAt_36 : decode cX11_loadAt 36 = .ok (.invokevirtual 528, 3) := by decide +kernel
theorem dX11_loadAt_39 : decode cX11_loadAt 39 = .ok (.aload_n 0, 1) := by decide +kernel
theorem dX11_loadAt_40 : decode cX11_loadAt 40 = .ok (.getfield 188, 3) := by decide +kernel
theorem dX11_loadAt_43 : decode cX11_loadAt 43 = .ok (.iload 5, 2) := by decide +kernel
theorem dX11_loadAt_45 : decode cX11_loadAt 45 = .ok (.iaload, 1) := by decide +kernel
theorem dX11_loadAt_46 : decode cX11_loadAt 46 = .ok (.i2l, 1) := by decide +kernel
theorem dX11_loadAt_47 : decode cX11_loadAt 47 = .ok (.aload_n 0, 1) := by decide +kernel
theorem dX11_loadAt_48 : decode cX11_loadAt 48 = .ok (.getfield 185, 3) := by decide +kernel
theorem dX11_loadAt_51 : decode cX11_loadAt 51 = .ok (.iload_n 2, 1) := by decide +kernel
theorem dX11_loadAt_52 : decode cX11_loadAt 52 = .ok (.iaload, 1) := by decide +kernel
theorem dX11_loadAt_53 : decode cX11_loadAt 53 = .ok (.i2l, 1) := by decide +kernel
theorem dX11_loadAt_54 : decode cX11_loadAt 54 = .ok (.lmul, 1) := by decide +kernel
theorem dX11_loadAt_55 : decode cX11_loadAt 55 = .ok (.lsub, 1) := by decide +kernel
theorem dX11_loadAt_56 : decode cX11_loadAt 56 = .ok (.lstore 6, 2) := by decide +kernel
theorem dX11_loadAt_58 : decode cX11_loadAt 58 = .ok (.lload 6, 2) := by decide +kernel
theorem dX11_loadAt_60 : decode cX11_loadAt 60 = .ok (.lconst 0, 1) := by decide +kernel
theorem dX11_loadAt_61 : decode cX11_loadAt 61 = .ok (.lcmp, 1) := by decide +kernel
theorem dX11_loadAt_62 : decode cX11_loadAt 62 = .ok (.ifCond .le 17, 3) := by decide +kernel
theorem dX11_loadAt_65 : decode cX11_loadAt 65 = .ok (.lload_n 3, 1) := by decide +kernel
theorem dX11_loadAt_66 : decode cX11_loadAt 66 = .ok (.aload_n 0, 1) := by decide +kernel
theorem dX11_loadAt_67 : decode cX11_loadAt 67 = .ok (.getfield 185, 3) := by decide +kernel
theorem dX11_loadAt_70 : decode cX11_loadAt 70 = .ok (.iload 5, 2) := by decide +kernel
theorem dX11_loadAt_72 : decode cX11_loadAt 72 = .ok (.iaload, 1) := by decide +kernel
theorem dX11_loadAt_73 : decode cX11_loadAt 73 = .ok (.i2l, 1) := by decide +kernel
theorem dX11_loadAt_74 : decode cX11_loadAt 74 = .ok (.lload 6, 2) := by decide +kernel
theorem dX11_loadAt_76 : decode cX11_loadAt 76 = .ok (.lmul, 1) := by decide +kernel
theorem dX11_loadAt_77 : decode cX11_loadAt 77 = .ok (.ladd, 1) := by decide +kernel
theorem dX11_loadAt_78 : decode cX11_loadAt 78 = .ok (.lstore_n 3, 1) := by decide +kernel
theorem dX11_loadAt_79 : decode cX11_loadAt 79 = .ok (.iinc 5 1, 3) := by decide +kernel
theorem dX11_loadAt_82 : decode cX11_loadAt 82 = .ok (.goto (-70), 3) := by decide +kernel
theorem dX11_loadAt_85 : decode cX11_loadAt 85 = .ok (.lload_n 3, 1) := by decide +kernel
theorem dX11_loadAt_86 : decode cX11_loadAt 86 = .ok (.lreturn, 1) := by decide +kernel
theorem dX11_greatestStep_0 : decode cX11_greatestStep 0 = .ok (.lconst 0, 1) := by decide +kernel
theorem dX11_greatestStep_1 : decode cX11_greatestStep 1 = .ok (.lstore_n 1, 1) := by decide +kernel
theorem dX11_greatestStep_2 : decode cX11_greatestStep 2 = .ok (.iconst 0, 1) := by decide +kernel
theorem dX11_greatestStep_3 : decode cX11_greatestStep 3 = .ok (.istore_n 3, 1) := by decide +kernel
theorem dX11_greatestStep_4 : decode cX11_greatestStep 4 = .ok (.iload_n 3, 1) := by decide +kernel
theorem dX11_greatestStep_5 : decode cX11_greatestStep 5 = .ok (.aload_n 0, 1) := by decide +kernel
theorem dX11_greatestStep_6 : decode cX11_greatestStep 6 = .ok (.getfield 525, 3) := by decide +kernel
theorem dX11_greatestStep_9 : decode cX11_greatestStep 9 = .ok (.if_icmp .ge 39, 3) := by decide +kernel
theorem dX11_greatestStep_12 : decode cX11_greatestStep 12 = .ok (.aload_n 0, 1) := by decide +kernel
theorem dX11_greatestStep_13 : decode cX11_greatestStep 13 = .ok (.iload_n 3, 1) := by decide +kernel
theorem dX11_greatestStep_14 : decode cX11_greatestStep 14 = .ok (.invokevirtual 534, 3) := by decide +kernel
theorem dX11_greatestStep_17 : decode cX11_greatestStep 17 = .ok (.aload_n 0, 1) := by decide +kernel
theorem dX11_greatestStep_18 : decode cX11_greatestStep 18 = .ok (.getfield 185, 3) := by decide +kernel
theorem dX11_greatestStep_21 : decode cX11_greatestStep 21 = .ok (.aload_n 0, 1) := by decide +kernel
theorem dX11_greatestStep_22 : decode cX11_greatestStep 22 = .ok (.getfield 194, 3) := by decide +kernel
theorem dX11_greatestStep_25 : decode cX11_greatestStep 25 = .ok (.iload_n 3, 1) := by decide +kernel
theorem dX11_greatestStep_26 : decode cX11_greatestStep 26 = .ok (.iaload, 1) := by decide +kernel
theorem dX11_greatestStep_27 : decode cX11_greatestStep 27 = .ok (.iaload, 1) := by decide +kernel
theorem dX11_greatestStep_28 : decode cX11_greatestStep 28 = .ok (.i2l, 1) := by decide +kernel
theorem dX11_greatestStep_29 : decode cX11_greatestStep 29 = .ok (.ldiv, 1) := by decide +kernel
theorem dX11_greatestStep_30 : decode cX11_greatestStep 30 = .ok (.lstore 4, 2) := by decide +kernel
theorem dX11_greatestStep_32 : decode cX11_greatestStep 32 = .ok (.lload 4, 2) := by decide +kernel
theorem dX11_greatestStep_34 : decode cX11_greatestStep 34 = .ok (.lload_n 1, 1) := by decide +kernel
theorem dX11_greatestStep_35 : decode cX11_greatestStep 35 = .ok (.lcmp, 1) := by decide +kernel
theorem dX11_greatestStep_36 : decode cX11_greatestStep 36 = .ok (.ifCond .le 6, 3) := by decide +kernel
theorem dX11_greatestStep_39 : decode cX11_greatestStep 39 = .ok (.lload 4, 2) := by decide +kernel
theorem dX11_greatestStep_41 : decode cX11_greatestStep 41 = .ok (.lstore_n 1, 1) := by decide +kernel
theorem dX11_greatestStep_42 : decode cX11_greatestStep 42 = .ok (.iinc 3 1, 3) := by decide +kernel
theorem dX11_greatestStep_45 : decode cX11_greatestStep 45 = .ok (.goto (-41), 3) := by decide +kernel
theorem dX11_greatestStep_48 : decode cX11_greatestStep 48 = .ok (.lload_n 1, 1) := by decide +kernel
theorem dX11_greatestStep_49 : decode cX11_greatestStep 49 = .ok (.lreturn, 1) := by decide +kernel
theorem dX11_draw_0 : decode cX11_draw 0 = .ok (.iload_n 1, 1) := by decide +kernel
theorem dX11_draw_1 : decode cX11_draw 1 = .ok (.iload_n 2, 1) := by decide +kernel
theorem dX11_draw_2 : decode cX11_draw 2 = .ok (.invokestatic 435, 3) := by decide +kernel
theorem dX11_draw_5 : decode cX11_draw 5 = .ok (.ifCond .eq 7, 3) := by decide +kernel
theorem dX11_draw_8 : decode cX11_draw 8 = .ok (.iload_n 3, 1) := by decide +kernel
theorem dX11_draw_9 : decode cX11_draw 9 = .ok (.ifCond .ge 5, 3) := by decide +kernel
theorem dX11_draw_12 : decode cX11_draw 12 = .ok (.iconst (-1), 1) := by decide +kernel
theorem dX11_draw_13 : decode cX11_draw 13 = .ok (.ireturn, 1) := by decide +kernel
theorem dX11_draw_14 : decode cX11_draw 14 = .ok (.aload_n 0, 1) := by decide +kernel
theorem dX11_draw_15 : decode cX11_draw 15 = .ok (.invokevirtual 472, 3) := by decide +kernel
theorem dX11_draw_18 : decode cX11_draw 18 = .ok (.aload_n 0, 1) := by decide +kernel
theorem dX11_draw_19 : decode cX11_draw 19 = .ok (.iload_n 1, 1) := by decide +kernel
theorem dX11_draw_20 : decode cX11_draw 20 = .ok (.iload_n 2, 1) := by decide +kernel
theorem dX11_draw_21 : decode cX11_draw 21 = .ok (.iload_n 3, 1) := by decide +kernel
theorem dX11_draw_22 : decode cX11_draw 22 = .ok (.i2l, 1) := by decide +kernel
theorem dX11_draw_23 : decode cX11_draw 23 = .ok (.invokevirtual 457, 3) := by decide +kernel
theorem dX11_draw_26 : decode cX11_draw 26 = .ok (.pop2, 1) := by decide +kernel
theorem dX11_draw_27 : decode cX11_draw 27 = .ok (.aload_n 0, 1) := by decide +kernel
theorem dX11_draw_28 : decode cX11_draw 28 = .ok (.invokevirtual 460, 3) := by decide +kernel
theorem dX11_draw_31 : decode cX11_draw 31 = .ok (.aload_n 0, 1) := by decide +kernel
theorem dX11_draw_32 : decode cX11_draw 32 = .ok (.iconst 1, 1) := by decide +kernel
theorem dX11_draw_33 : decode cX11_draw 33 = .ok (.putfield 415, 3) := by decide +kernel
theorem dX11_draw_36 : decode cX11_draw 36 = .ok (.aload_n 0, 1) := by decide +kernel
theorem dX11_draw_37 : decode cX11_draw 37 = .ok (.aload_n 0, 1) := by decide +kernel
theorem dX11_draw_38 : decode cX11_draw 38 = .ok (.getfield 121, 3) := by decide +kernel
theorem dX11_draw_41 : decode cX11_draw 41 = .ok (.putfield 537, 3) := by decide +kernel
theorem dX11_draw_44 : decode cX11_draw 44 = .ok (.aload_n 0, 1) := by decide +kernel
theorem dX11_draw_45 : decode cX11_draw 45 = .ok (.aload_n 0, 1) := by decide +kernel
theorem dX11_draw_46 : decode cX11_draw 46 = .ok (.getfield 124, 3) := by decide +kernel
theorem dX11_draw_49 : decode cX11_draw 49 = .ok (.putfield 540, 3) := by decide +kernel
theorem dX11_draw_52 : decode cX11_draw 52 = .ok (.iconst 0, 1) := by decide +kernel
theorem dX11_draw_53 : decode cX11_draw 53 = .ok (.istore 4, 2) := by decide +kernel
theorem dX11_draw_55 : decode cX11_draw 55 = .ok (.iload 4, 2) := by decide +kernel
theorem dX11_draw_57 : decode cX11_draw 57 = .ok (.bipush 64, 2) := by decide +kernel
theorem dX11_draw_59 : decode cX11_draw 59 = .ok (.if_icmp .ge 55, 3) := by decide +kernel
theorem dX11_draw_62 : decode cX11_draw 62 = .ok (.aload_n 0, 1) := by decide +kernel
theorem dX11_draw_63 : decode cX11_draw 63 = .ok (.getfield 197, 3) := by decide +kernel
theorem dX11_draw_66 : decode cX11_draw 66 = .ok (.iload 4, 2) := by decide +kernel
theorem dX11_draw_68 : decode cX11_draw 68 = .ok (.iload 4, 2) := by decide +kernel
theorem dX11_draw_70 : decode cX11_draw 70 = .ok (.aload_n 0, 1) := by decide +kernel
theorem dX11_draw_71 : decode cX11_draw 71 = .ok (.invokevirtual 419, 3) := by decide +kernel
theorem dX11_draw_74 : decode cX11_draw 74 = .ok (.if_icmp .ge 14, 3) := by decide +kernel
theorem dX11_draw_77 : decode cX11_draw 77 = .ok (.aload_n 0, 1) := by decide +kernel
theorem dX11_draw_78 : decode cX11_draw 78 = .ok (.getfield 151, 3) := by decide +kernel
theorem dX11_draw_81 : decode cX11_draw 81 = .ok (.iload 4, 2) := by decide +kernel
theorem dX11_draw_83 : decode cX11_draw 83 = .ok (.iaload, 1) := by decide +kernel
theorem dX11_draw_84 : decode cX11_draw 84 = .ok (.iconst (-1), 1) := by decide +kernel
theorem dX11_draw_85 : decode cX11_draw 85 = .ok (.if_icmp .ne 7, 3) := by decide +kernel
theorem dX11_draw_88 : decode cX11_draw 88 = .ok (.iconst (-1), 1) := by decide +kernel
theorem dX11_draw_89 : decode cX11_draw 89 = .ok (.goto 18, 3) := by decide +kernel
theorem dX11_draw_92 : decode cX11_draw 92 = .ok (.aload_n 0, 1) := by decide +kernel
theorem dX11_draw_93 : decode cX11_draw 93 = .ok (.getfield 178, 3) := by decide +kernel
theorem dX11_draw_96 : decode cX11_draw 96 = .ok (.iload 4, 2) := by decide +kernel
theorem dX11_draw_98 : decode cX11_draw 98 = .ok (.baload, 1) := by decide +kernel
theorem dX11_draw_99 : decode cX11_draw 99 = .ok (.ifCond .eq 7, 3) := by decide +kernel
theorem dX11_draw_102 : decode cX11_draw 102 = .ok (.iconst 1, 1) := by decide +kernel
theorem dX11_draw_103 : decode cX11_draw 103 = .ok (.goto 4, 3) := by decide +kernel
theorem dX11_draw_106 : decode cX11_draw 106 = .ok (.iconst 0, 1) := by decide +kernel
theorem dX11_draw_107 : decode cX11_draw 107 = .ok (.iastore, 1) := by decide +kernel
theorem dX11_draw_108 : decode cX11_draw 108 = .ok (.iinc 4 1, 3) := by decide +kernel
theorem dX11_draw_111 : decode cX11_draw 111 = .ok (.goto (-56), 3) := by decide +kernel
theorem dX11_draw_114 : decode cX11_draw 114 = .ok (.aload_n 0, 1) := by decide +kernel
theorem dX11_draw_115 : decode cX11_draw 115 = .ok (.aload_n 0, 1) := by decide +kernel
theorem dX11_draw_116 : decode cX11_draw 116 = .ok (.getfield 525, 3) := by decide +kernel
theorem dX11_draw_119 : decode cX11_draw 119 = .ok (.putfield 543, 3) := by decide +kernel
theorem dX11_draw_122 : decode cX11_draw 122 = .ok (.iconst 0, 1) := by decide +kernel
theorem dX11_draw_123 : decode cX11_draw 123 = .ok (.istore 4, 2) := by decide +kernel
theorem dX11_draw_125 : decode cX11_draw 125 = .ok (.iload 4, 2) := by decide +kernel
theorem dX11_draw_127 : decode cX11_draw 127 = .ok (.aload_n 0, 1) := by decide +kernel
theorem dX11_draw_128 : decode cX11_draw 128 = .ok (.getfield 525, 3) := by decide +kernel
theorem dX11_draw_131 : decode cX11_draw 131 = .ok (.if_icmp .ge 65, 3) := by decide +kernel
theorem dX11_draw_134 : decode cX11_draw 134 = .ok (.aload_n 0, 1) := by decide +kernel
theorem dX11_draw_135 : decode cX11_draw 135 = .ok (.getfield 200, 3) := by decide +kernel
theorem dX11_draw_138 : decode cX11_draw 138 = .ok (.iload 4, 2) := by decide +kernel
theorem dX11_draw_140 : decode cX11_draw 140 = .ok (.aload_n 0, 1) := by decide +kernel
theorem dX11_draw_141 : decode cX11_draw 141 = .ok (.getfield 182, 3) := by decide +kernel
theorem dX11_draw_144 : decode cX11_draw 144 = .ok (.iload 4, 2) := by decide +kernel
theorem dX11_draw_146 : decode cX11_draw 146 = .ok (.iaload, 1) := by decide +kernel
theorem dX11_draw_147 : decode cX11_draw 147 = .ok (.iastore, 1) := by decide +kernel
theorem dX11_draw_148 : decode cX11_draw 148 = .ok (.aload_n 0, 1) := by decide +kernel
theorem dX11_draw_149 : decode cX11_draw 149 = .ok (.getfield 203, 3) := by decide +kernel
theorem dX11_draw_152 : decode cX11_draw 152 = .ok (.iload 4, 2) := by decide +kernel
theorem dX11_draw_154 : decode cX11_draw 154 = .ok (.aload_n 0, 1) := by decide +kernel
theorem dX11_draw_155 : decode cX11_draw 155 = .ok (.getfield 185, 3) := by decide +kernel
theorem dX11_draw_158 : decode cX11_draw 158 = .ok (.iload 4, 2) := by decide +kernel
theorem dX11_draw_160 : decode cX11_draw 160 = .ok (.iaload, 1) := by decide +kernel
theorem dX11_draw_161 : decode cX11_draw 161 = .ok (.iastore, 1) := by decide +kernel
theorem dX11_draw_162 : decode cX11_draw 162 = .ok (.aload_n 0, 1) := by decide +kernel
theorem dX11_draw_163 : decode cX11_draw 163 = .ok (.getfield 206, 3) := by decide +kernel
theorem dX11_draw_166 : decode cX11_draw 166 = .ok (.iload 4, 2) := by decide +kernel
theorem dX11_draw_168 : decode cX11_draw 168 = .ok (.aload_n 0, 1) := by decide +kernel
theorem dX11_draw_169 : decode cX11_draw 169 = .ok (.getfield 188, 3) := by decide +kernel
theorem dX11_draw_172 : decode cX11_draw 172 = .ok (.iload 4, 2) := by decide +kernel
theorem dX11_draw_174 : decode cX11_draw 174 = .ok (.iaload, 1) := by decide +kernel
theorem dX11_draw_175 : decode cX11_draw 175 = .ok (.iastore, 1) := by decide +kernel
theorem dX11_draw_176 : decode cX11_draw 176 = .ok (.aload_n 0, 1) := by decide +kernel
theorem dX11_draw_177 : decode cX11_draw 177 = .ok (.getfield 209, 3) := by decide +kernel
theorem dX11_draw_180 : decode cX11_draw 180 = .ok (.iload 4, 2) := by decide +kernel
theorem dX11_draw_182 : decode cX11_draw 182 = .ok (.aload_n 0, 1) := by decide +kernel
theorem dX11_draw_183 : decode cX11_draw 183 = .ok (.getfield 191, 3) := by decide +kernel
theorem dX11_draw_186 : decode cX11_draw 186 = .ok (.iload 4, 2) := by decide +kernel
theorem dX11_draw_188 : decode cX11_draw 188 = .ok (.iaload, 1) := by decide +kernel
theorem dX11_draw_189 : decode cX11_draw 189 = .ok (.iastore, 1) := by decide +kernel
theorem dX11_draw_190 : decode cX11_draw 190 = .ok (.iinc 4 1, 3) := by decide +kernel
theorem dX11_draw_193 : decode cX11_draw 193 = .ok (.goto (-68), 3) := by decide +kernel
theorem dX11_draw_196 : decode cX11_draw 196 = .ok (.aload_n 0, 1) := by decide +kernel
theorem dX11_draw_197 : decode cX11_draw 197 = .ok (.getfield 543, 3) := by decide +kernel
theorem dX11_draw_200 : decode cX11_draw 200 = .ok (.ireturn, 1) := by decide +kernel
theorem dX11_caught_0 : decode cX11_caught 0 = .ok (.aload_n 0, 1) := by decide +kernel
theorem dX11_caught_1 : decode cX11_caught 1 = .ok (.getfield 415, 3) := by decide +kernel
theorem dX11_caught_4 : decode cX11_caught 4 = .ok (.ifCond .eq 33, 3) := by decide +kernel
theorem dX11_caught_7 : decode cX11_caught 7 = .ok (.iload_n 1, 1) := by decide +kernel
theorem dX11_caught_8 : decode cX11_caught 8 = .ok (.i2l, 1) := by decide +kernel
theorem dX11_caught_9 : decode cX11_caught 9 = .ok (.lconst 0, 1) := by decide +kernel
theorem dX11_caught_10 : decode cX11_caught 10 = .ok (.aload_n 0, 1) := by decide +kernel
theorem dX11_caught_11 : decode cX11_caught 11 = .ok (.getfield 537, 3) := by decide +kernel
theorem dX11_caught_14 : decode cX11_caught 14 = .ok (.aload_n 0, 1) := by decide +kernel
theorem dX11_caught_15 : decode cX11_caught 15 = .ok (.getfield 540, 3) := by decide +kernel
theorem dX11_caught_18 : decode cX11_caught 18 = .ok (.imul, 1) := by decide +kernel
theorem dX11_caught_19 : decode cX11_caught 19 = .ok (.iconst 1, 1) := by decide +kernel
theorem dX11_caught_20 : decode cX11_caught 20 = .ok (.isub, 1) := by decide +kernel
theorem dX11_caught_21 : decode cX11_caught 21 = .ok (.i2l, 1) := by decide +kernel
theorem dX11_caught_22 : decode cX11_caught 22 = .ok (.invokestatic 300, 3) := by decide +kernel
theorem dX11_caught_25 : decode cX11_caught 25 = .ok (.ifCond .eq 12, 3) := by decide +kernel
theorem dX11_caught_28 : decode cX11_caught 28 = .ok (.aload_n 0, 1) := by decide +kernel
theorem dX11_caught_29 : decode cX11_caught 29 = .ok (.getfield 197, 3) := by decide +kernel
theorem dX11_caught_32 : decode cX11_caught 32 = .ok (.iload_n 1, 1) := by decide +kernel
theorem dX11_caught_33 : decode cX11_caught 33 = .ok (.iaload, 1) := by decide +kernel
theorem dX11_caught_34 : decode cX11_caught 34 = .ok (.goto 4, 3) := by decide +kernel
theorem dX11_caught_37 : decode cX11_caught 37 = .ok (.iconst (-1), 1) := by decide +kernel
theorem dX11_caught_38 : decode cX11_caught 38 = .ok (.ireturn, 1) := by decide +kernel
theorem dX11_pull_0 : decode cX11_pull 0 = .ok (.aload_n 0, 1) := by decide +kernel
theorem dX11_pull_1 : decode cX11_pull 1 = .ok (.getfield 415, 3) := by decide +kernel
theorem dX11_pull_4 : decode cX11_pull 4 = .ok (.ifCond .ne 5, 3) := by decide +kernel
theorem dX11_pull_7 : decode cX11_pull 7 = .ok (.iconst (-1), 1) := by decide +kernel
theorem dX11_pull_8 : decode cX11_pull 8 = .ok (.ireturn, 1) := by decide +kernel
theorem dX11_pull_9 : decode cX11_pull 9 = .ok (.aload_n 0, 1) := by decide +kernel
theorem dX11_pull_10 : decode cX11_pull 10 = .ok (.aload_n 0, 1) := by decide +kernel
theorem dX11_pull_11 : decode cX11_pull 11 = .ok (.getfield 543, 3) := by decide +kernel
theorem dX11_pull_14 : decode cX11_pull 14 = .ok (.putfield 525, 3) := by decide +kernel
theorem dX11_pull_17 : decode cX11_pull 17 = .ok (.iconst 0, 1) := by decide +kernel
theorem dX11_pull_18 : decode cX11_pull 18 = .ok (.istore_n 1, 1) := by decide +kernel
theorem dX11_pull_19 : decode cX11_pull 19 = .ok (.iload_n 1, 1) := by decide +kernel
theorem dX11_pull_20 : decode cX11_pull 20 = .ok (.aload_n 0, 1) := by decide +kernel
theorem dX11_pull_21 : decode cX11_pull 21 = .ok (.getfield 543, 3) := by decide +kernel
theorem dX11_pull_24 : decode cX11_pull 24 = .ok (.if_icmp .ge 57, 3) := by decide +kernel
theorem dX11_pull_27 : decode cX11_pull 27 = .ok (.aload_n 0, 1) := by decide +kernel
theorem dX11_pull_28 : decode cX11_pull 28 = .ok (.getfield 182, 3) := by decide +kernel
theorem dX11_pull_31 : decode cX11_pull 31 = .ok (.iload_n 1, 1) := by decide +kernel
theorem dX11_pull_32 : decode cX11_pull 32 = .ok (.aload_n 0, 1) := by decide +kernel
theorem dX11_pull_33 : decode cX11_pull 33 = .ok (.getfield 200, 3) := by decide +kernel
theorem dX11_pull_36 : decode cX11_pull 36 = .ok (.iload_n 1, 1) := by decide +kernel
theorem dX11_pull_37 : decode cX11_pull 37 = .ok (.iaload, 1) := by decide +kernel
theorem dX11_pull_38 : decode cX11_pull 38 = .ok (.iastore, 1) := by decide +kernel
theorem dX11_pull_39 : decode cX11_pull 39 = .ok (.aload_n 0, 1) := by decide +kernel
theorem dX11_pull_40 : decode cX11_pull 40 = .ok (.getfield 185, 3) := by decide +kernel
theorem dX11_pull_43 : decode cX11_pull 43 = .ok (.iload_n 1, 1) := by decide +kernel
theorem dX11_pull_44 : decode cX11_pull 44 = .ok (.aload_n 0, 1) := by decide +kernel
theorem dX11_pull_45 : decode cX11_pull 45 = .ok (.getfield 203, 3) := by decide +kernel
theorem dX11_pull_48 : decode cX11_pull 48 = .ok (.iload_n 1, 1) := by decide +kernel
theorem dX11_pull_49 : decode cX11_pull 49 = .ok (.iaload, 1) := by decide +kernel
theorem dX11_pull_50 : decode cX11_pull 50 = .ok (.iastore, 1) := by decide +kernel
theorem dX11_pull_51 : decode cX11_pull 51 = .ok (.aload_n 0, 1) := by decide +kernel
theorem dX11_pull_52 : decode cX11_pull 52 = .ok (.getfield 188, 3) := by decide +kernel
theorem dX11_pull_55 : decode cX11_pull 55 = .ok (.iload_n 1, 1) := by decide +kernel
theorem dX11_pull_56 : decode cX11_pull 56 = .ok (.aload_n 0, 1) := by decide +kernel
theorem dX11_pull_57 : decode cX11_pull 57 = .ok (.getfield 206, 3) := by decide +kernel
theorem dX11_pull_60 : decode cX11_pull 60 = .ok (.iload_n 1, 1) := by decide +kernel
theorem dX11_pull_61 : decode cX11_pull 61 = .ok (.iaload, 1) := by decide +kernel
theorem dX11_pull_62 : decode cX11_pull 62 = .ok (.iastore, 1) := by decide +kernel
theorem dX11_pull_63 : decode cX11_pull 63 = .ok (.aload_n 0, 1) := by decide +kernel
theorem dX11_pull_64 : decode cX11_pull 64 = .ok (.getfield 191, 3) := by decide +kernel
theorem dX11_pull_67 : decode cX11_pull 67 = .ok (.iload_n 1, 1) := by decide +kernel
theorem dX11_pull_68 : decode cX11_pull 68 = .ok (.aload_n 0, 1) := by decide +kernel
theorem dX11_pull_69 : decode cX11_pull 69 = .ok (.getfield 209, 3) := by decide +kernel
theorem dX11_pull_72 : decode cX11_pull 72 = .ok (.iload_n 1, 1) := by decide +kernel
theorem dX11_pull_73 : decode cX11_pull 73 = .ok (.iaload, 1) := by decide +kernel
theorem dX11_pull_74 : decode cX11_pull 74 = .ok (.iastore, 1) := by decide +kernel
theorem dX11_pull_75 : decode cX11_pull 75 = .ok (.iinc 1 1, 3) := by decide +kernel
theorem dX11_pull_78 : decode cX11_pull 78 = .ok (.goto (-59), 3) := by decide +kernel
theorem dX11_pull_81 : decode cX11_pull 81 = .ok (.aload_n 0, 1) := by decide +kernel
theorem dX11_pull_82 : decode cX11_pull 82 = .ok (.invokevirtual 462, 3) := by decide +kernel
theorem dX11_pull_85 : decode cX11_pull 85 = .ok (.aload_n 0, 1) := by decide +kernel
theorem dX11_pull_86 : decode cX11_pull 86 = .ok (.aload_n 0, 1) := by decide +kernel
theorem dX11_pull_87 : decode cX11_pull 87 = .ok (.getfield 543, 3) := by decide +kernel
theorem dX11_pull_90 : decode cX11_pull 90 = .ok (.putfield 212, 3) := by decide +kernel
theorem dX11_pull_93 : decode cX11_pull 93 = .ok (.iconst 0, 1) := by decide +kernel
theorem dX11_pull_94 : decode cX11_pull 94 = .ok (.istore_n 1, 1) := by decide +kernel
theorem dX11_pull_95 : decode cX11_pull 95 = .ok (.iload_n 1, 1) := by decide +kernel
theorem dX11_pull_96 : decode cX11_pull 96 = .ok (.aload_n 0, 1) := by decide +kernel
theorem dX11_pull_97 : decode cX11_pull 97 = .ok (.getfield 212, 3) := by decide +kernel
theorem dX11_pull_100 : decode cX11_pull 100 = .ok (.if_icmp .ge 101, 3) := by decide +kernel
theorem dX11_pull_103 : decode cX11_pull 103 = .ok (.aload_n 0, 1) := by decide +kernel
theorem dX11_pull_104 : decode cX11_pull 104 = .ok (.getfield 215, 3) := by decide +kernel
theorem dX11_pull_107 : decode cX11_pull 107 = .ok (.iload_n 1, 1) := by decide +kernel
theorem dX11_pull_108 : decode cX11_pull 108 = .ok (.aload_n 0, 1) := by decide +kernel
theorem dX11_pull_109 : decode cX11_pull 109 = .ok (.getfield 182, 3) := by decide +kernel
theorem dX11_pull_112 : decode cX11_pull 112 = .ok (.aload_n 0, 1) := by decide +kernel
theorem dX11_pull_113 : decode cX11_pull 113 = .ok (.getfield 194, 3) := by decide +kernel
theorem dX11_pull_116 : decode cX11_pull 116 = .ok (.iload_n 1, 1) := by decide +kernel
theorem dX11_pull_117 : decode cX11_pull 117 = .ok (.iaload, 1) := by decide +kernel
theorem dX11_pull_118 : decode cX11_pull 118 = .ok (.iaload, 1) := by decide +kernel
theorem dX11_pull_119 : decode cX11_pull 119 = .ok (.iastore, 1) := by decide +kernel
theorem dX11_pull_120 : decode cX11_pull 120 = .ok (.aload_n 0, 1) := by decide +kernel
theorem dX11_pull_121 : decode cX11_pull 121 = .ok (.getfield 218, 3) := by decide +kernel
theorem dX11_pull_124 : decode cX11_pull 124 = .ok (.iload_n 1, 1) := by decide +kernel
theorem dX11_pull_125 : decode cX11_pull 125 = .ok (.aload_n 0, 1) := by decide +kernel
theorem dX11_pull_126 : decode cX11_pull 126 = .ok (.iload_n 1, 1) := by decide +kernel
theorem dX11_pull_127 : decode cX11_pull 127 = .ok (.invokevirtual 534, 3) := by decide +kernel
theorem dX11_pull_130 : decode cX11_pull 130 = .ok (.lastore, 1) := by decide +kernel
theorem dX11_pull_131 : decode cX11_pull 131 = .ok (.aload_n 0, 1) := by decide +kernel
theorem dX11_pull_132 : decode cX11_pull 132 = .ok (.getfield 221, 3) := by decide +kernel
theorem dX11_pull_135 : decode cX11_pull 135 = .ok (.iload_n 1, 1) := by decide +kernel
theorem dX11_pull_136 : decode cX11_pull 136 = .ok (.aload_n 0, 1) := by decide +kernel
theorem dX11_pull_137 : decode cX11_pull 137 = .ok (.getfield 185, 3) := by decide +kernel
theorem dX11_pull_140 : decode cX11_pull 140 = .ok (.aload_n 0, 1) := by decide +kernel
theorem dX11_pull_141 : decode cX11_pull 141 = .ok (.getfield 194, 3) := by decide +kernel
theorem dX11_pull_144 : decode cX11_pull 144 = .ok (.iload_n 1, 1) := by decide +kernel
theorem dX11_pull_145 : decode cX11_pull 145 = .ok (.iaload, 1) := by decide +kernel
theorem dX11_pull_146 : decode cX11_pull 146 = .ok (.iaload, 1) := by decide +kernel
theorem dX11_pull_147 : decode cX11_pull 147 = .ok (.iastore, 1) := by decide +kernel
theorem dX11_pull_148 : decode cX11_pull 148 = .ok (.aload_n 0, 1) := by decide +kernel
theorem dX11_pull_149 : decode cX11_pull 149 = .ok (.getfield 224, 3) := by decide +kernel
theorem dX11_pull_152 : decode cX11_pull 152 = .ok (.iload_n 1, 1) := by decide +kernel
theorem dX11_pull_153 : decode cX11_pull 153 = .ok (.iconst 0, 1) := by decide +kernel
theorem dX11_pull_154 : decode cX11_pull 154 = .ok (.iastore, 1) := by decide +kernel
theorem dX11_pull_155 : decode cX11_pull 155 = .ok (.iconst 0, 1) := by decide +kernel
theorem dX11_pull_156 : decode cX11_pull 156 = .ok (.istore_n 2, 1) := by decide +kernel
theorem dX11_pull_157 : decode cX11_pull 157 = .ok (.iload_n 2, 1) := by decide +kernel
theorem dX11_pull_158 : decode cX11_pull 158 = .ok (.aload_n 0, 1) := by decide +kernel
theorem dX11_pull_159 : decode cX11_pull 159 = .ok (.getfield 525, 3) := by decide +kernel
theorem dX11_pull_162 : decode cX11_pull 162 = .ok (.if_icmp .ge 33, 3) := by decide +kernel
theorem dX11_pull_165 : decode cX11_pull 165 = .ok (.aload_n 0, 1) := by decide +kernel
theorem dX11_pull_166 : decode cX11_pull 166 = .ok (.iload_n 2, 1) := by decide +kernel
theorem dX11_pull_167 : decode cX11_pull 167 = .ok (.aload_n 0, 1) := by decide +kernel
theorem dX11_pull_168 : decode cX11_pull 168 = .ok (.getfield 194, 3) := by decide +kernel
theorem dX11_pull_171 : decode cX11_pull 171 = .ok (.iload_n 1, 1) := by decide +kernel
theorem dX11_pull_172 : decode cX11_pull 172 = .ok (.iaload, 1) := by decide +kernel
theorem dX11_pull_173 : decode cX11_pull 173 = .ok (.invokevirtual 531, 3) := by decide +kernel
theorem dX11_pull_176 : decode cX11_pull 176 = .ok (.ifCond .ne 13, 3) := by decide +kernel
theorem dX11_pull_179 : decode cX11_pull 179 = .ok (.aload_n 0, 1) := by decide +kernel
theorem dX11_pull_180 : decode cX11_pull 180 = .ok (.getfield 224, 3) := by decide +kernel
theorem dX11_pull_183 : decode cX11_pull 183 = .ok (.iload_n 1, 1) := by decide +kernel
theorem dX11_pull_184 : decode cX11_pull 184 = .ok (.dup2, 1) := by decide +kernel
theorem dX11_pull_185 : decode cX11_pull 185 = .ok (.iaload, 1) := by decide +kernel
theorem dX11_pull_186 : decode cX11_pull 186 = .ok (.iconst 1, 1) := by decide +kernel
theorem dX11_pull_187 : decode cX11_pull 187 = .ok (.iadd, 1) := by decide +kernel
theorem dX11_pull_188 : decode cX11_pull 188 = .ok (.iastore, 1) := by decide +kernel
theorem dX11_pull_189 : decode cX11_pull 189 = .ok (.iinc 2 1, 3) := by decide +kernel
theorem dX11_pull_192 : decode cX11_pull 192 = .ok (.goto (-35), 3) := by decide +kernel
theorem dX11_pull_195 : decode cX11_pull 195 = .ok (.iinc 1 1, 3) := by decide +kernel
theorem dX11_pull_198 : decode cX11_pull 198 = .ok (.goto (-103), 3) := by decide +kernel
theorem dX11_pull_201 : decode cX11_pull 201 = .ok (.aload_n 0, 1) := by decide +kernel
theorem dX11_pull_202 : decode cX11_pull 202 = .ok (.getfield 212, 3) := by decide +kernel
theorem dX11_pull_205 : decode cX11_pull 205 = .ok (.ireturn, 1) := by decide +kernel
theorem dX11_step_0 : decode cX11_step 0 = .ok (.iload_n 1, 1) := by decide +kernel
theorem dX11_step_1 : decode cX11_step 1 = .ok (.ifCond .lt 20, 3) := by decide +kernel
theorem dX11_step_4 : decode cX11_step 4 = .ok (.iload_n 1, 1) := by decide +kernel
theorem dX11_step_5 : decode cX11_step 5 = .ok (.aload_n 0, 1) := by decide +kernel
theorem dX11_step_6 : decode cX11_step 6 = .ok (.getfield 212, 3) := by decide +kernel
theorem dX11_step_9 : decode cX11_step 9 = .ok (.if_icmp .ge 12, 3) := by decide +kernel
theorem dX11_step_12 : decode cX11_step 12 = .ok (.aload_n 0, 1) := by decide +kernel
theorem dX11_step_13 : decode cX11_step 13 = .ok (.getfield 215, 3) := by decide +kernel
theorem dX11_step_16 : decode cX11_step 16 = .ok (.iload_n 1, 1) := by decide +kernel
theorem dX11_step_17 : decode cX11_step 17 = .ok (.iaload, 1) := by decide +kernel
theorem dX11_step_18 : decode cX11_step 18 = .ok (.goto 4, 3) := by decide +kernel
theorem dX11_step_21 : decode cX11_step 21 = .ok (.iconst (-1), 1) := by decide +kernel
theorem dX11_step_22 : decode cX11_step 22 = .ok (.ireturn, 1) := by decide +kernel
theorem dX11_load_0 : decode cX11_load 0 = .ok (.iload_n 1, 1) := by decide +kernel
theorem dX11_load_1 : decode cX11_load 1 = .ok (.ifCond .lt 34, 3) := by decide +kernel
theorem dX11_load_4 : decode cX11_load 4 = .ok (.iload_n 1, 1) := by decide +kernel
theorem dX11_load_5 : decode cX11_load 5 = .ok (.aload_n 0, 1) := by decide +kernel
theorem dX11_load_6 : decode cX11_load 6 = .ok (.getfield 212, 3) := by decide +kernel
theorem dX11_load_9 : decode cX11_load 9 = .ok (.if_icmp .ge 26, 3) := by decide +kernel
theorem dX11_load_12 : decode cX11_load 12 = .ok (.iload_n 2, 1) := by decide +kernel
theorem dX11_load_13 : decode cX11_load 13 = .ok (.ifCond .eq 12, 3) := by decide +kernel
theorem dX11_load_16 : decode cX11_load 16 = .ok (.aload_n 0, 1) := by decide +kernel
theorem dX11_load_17 : decode cX11_load 17 = .ok (.getfield 218, 3) := by decide +kernel
theorem dX11_load_20 : decode cX11_load 20 = .ok (.iload_n 1, 1) := by decide +kernel
theorem dX11_load_21 : decode cX11_load 21 = .ok (.laload, 1) := by decide +kernel
theorem dX11_load_22 : decode cX11_load 22 = .ok (.goto 16, 3) := by decide +kernel
theorem dX11_load_25 : decode cX11_load 25 = .ok (.aload_n 0, 1) := by decide +kernel
theorem dX11_load_26 : decode cX11_load 26 = .ok (.getfield 221, 3) := by decide +kernel
theorem dX11_load_29 : decode cX11_load 29 = .ok (.iload_n 1, 1) := by decide +kernel
theorem dX11_load_30 : decode cX11_load 30 = .ok (.iaload, 1) := by decide +kernel
theorem dX11_load_31 : decode cX11_load 31 = .ok (.i2l, 1) := by decide +kernel
theorem dX11_load_32 : decode cX11_load 32 = .ok (.goto 6, 3) := by decide +kernel
theorem dX11_load_35 : decode cX11_load 35 = .ok (.ldc2_w 439, 3) := by decide +kernel
theorem dX11_load_38 : decode cX11_load 38 = .ok (.lreturn, 1) := by decide +kernel
theorem dX11_greatest_0 : decode cX11_greatest 0 = .ok (.aload_n 0, 1) := by decide +kernel
theorem dX11_greatest_1 : decode cX11_greatest 1 = .ok (.getfield 212, 3) := by decide +kernel
theorem dX11_greatest_4 : decode cX11_greatest 4 = .ok (.iconst (-1), 1) := by decide +kernel
theorem dX11_greatest_5 : decode cX11_greatest 5 = .ok (.if_icmp .ne 7, 3) := by decide +kernel
theorem dX11_greatest_8 : decode cX11_greatest 8 = .ok (.ldc2_w 439, 3) := by decide +kernel
theorem dX11_greatest_11 : decode cX11_greatest 11 = .ok (.lreturn, 1) := by decide +kernel
theorem dX11_greatest_12 : decode cX11_greatest 12 = .ok (.lconst 0, 1) := by decide +kernel
theorem dX11_greatest_13 : decode cX11_greatest 13 = .ok (.lstore_n 1, 1) := by decide +kernel
theorem dX11_greatest_14 : decode cX11_greatest 14 = .ok (.iconst 0, 1) := by decide +kernel
theorem dX11_greatest_15 : decode cX11_greatest 15 = .ok (.istore_n 3, 1) := by decide +kernel
theorem dX11_greatest_16 : decode cX11_greatest 16 = .ok (.iload_n 3, 1) := by decide +kernel
theorem dX11_greatest_17 : decode cX11_greatest 17 = .ok (.aload_n 0, 1) := by decide +kernel
theorem dX11_greatest_18 : decode cX11_greatest 18 = .ok (.getfield 212, 3) := by decide +kernel
theorem dX11_greatest_21 : decode cX11_greatest 21 = .ok (.if_icmp .ge 43, 3) := by decide +kernel
theorem dX11_greatest_24 : decode cX11_greatest 24 = .ok (.aload_n 0, 1) := by decide +kernel
theorem dX11_greatest_25 : decode cX11_greatest 25 = .ok (.getfield 218, 3) := by decide +kernel
theorem dX11_greatest_28 : decode cX11_greatest 28 = .ok (.iload_n 3, 1) := by decide +kernel
theorem dX11_greatest_29 : decode cX11_greatest 29 = .ok (.laload, 1) := by decide +kernel
theorem dX11_greatest_30 : decode cX11_greatest 30 = .ok (.aload_n 0, 1) := by decide +kernel
theorem dX11_greatest_31 : decode cX11_greatest 31 = .ok (.getfield 221, 3) := by decide +kernel
theorem dX11_greatest_34 : decode cX11_greatest 34 = .ok (.iload_n 3, 1) := by decide +kernel
theorem dX11_greatest_35 : decode cX11_greatest 35 = .ok (.iaload, 1) := by decide +kernel
theorem dX11_greatest_36 : decode cX11_greatest 36 = .ok (.i2l, 1) := by decide +kernel
theorem dX11_greatest_37 : decode cX11_greatest 37 = .ok (.ldiv, 1) := by decide +kernel
theorem dX11_greatest_38 : decode cX11_greatest 38 = .ok (.lload_n 1, 1) := by decide +kernel
theorem dX11_greatest_39 : decode cX11_greatest 39 = .ok (.lcmp, 1) := by decide +kernel
theorem dX11_greatest_40 : decode cX11_greatest 40 = .ok (.ifCond .le 18, 3) := by decide +kernel
theorem dX11_greatest_43 : decode cX11_greatest 43 = .ok (.aload_n 0, 1) := by decide +kernel
theorem dX11_greatest_44 : decode cX11_greatest 44 = .ok (.getfield 218, 3) := by decide +kernel
theorem dX11_greatest_47 : decode cX11_greatest 47 = .ok (.iload_n 3, 1) := by decide +kernel
theorem dX11_greatest_48 : decode cX11_greatest 48 = .ok (.laload, 1) := by decide +kernel
theorem dX11_greatest_49 : decode cX11_greatest 49 = .ok (.aload_n 0, 1) := by decide +kernel
theorem dX11_greatest_50 : decode cX11_greatest 50 = .ok (.getfield 221, 3) := by decide +kernel
theorem dX11_greatest_53 : decode cX11_greatest 53 = .ok (.iload_n 3, 1) := by decide +kernel
theorem dX11_greatest_54 : decode cX11_greatest 54 = .ok (.iaload, 1) := by decide +kernel
theorem dX11_greatest_55 : decode cX11_greatest 55 = .ok (.i2l, 1) := by decide +kernel
theorem dX11_greatest_56 : decode cX11_greatest 56 = .ok (.ldiv, 1) := by decide +kernel
theorem dX11_greatest_57 : decode cX11_greatest 57 = .ok (.lstore_n 1, 1) := by decide +kernel
theorem dX11_greatest_58 : decode cX11_greatest 58 = .ok (.iinc 3 1, 3) := by decide +kernel
theorem dX11_greatest_61 : decode cX11_greatest 61 = .ok (.goto (-45), 3) := by decide +kernel
theorem dX11_greatest_64 : decode cX11_greatest 64 = .ok (.lload_n 1, 1) := by decide +kernel
theorem dX11_greatest_65 : decode cX11_greatest 65 = .ok (.lreturn, 1) := by decide +kernel
theorem dX11_hung_0 : decode cX11_hung 0 = .ok (.aload_n 0, 1) := by decide +kernel
theorem dX11_hung_1 : decode cX11_hung 1 = .ok (.getfield 212, 3) := by decide +kernel
theorem dX11_hung_4 : decode cX11_hung 4 = .ok (.iconst (-1), 1) := by decide +kernel
theorem dX11_hung_5 : decode cX11_hung 5 = .ok (.if_icmp .eq 15, 3) := by decide +kernel
theorem dX11_hung_8 : decode cX11_hung 8 = .ok (.iload_n 1, 1) := by decide +kernel
theorem dX11_hung_9 : decode cX11_hung 9 = .ok (.i2l, 1) := by decide +kernel
theorem dX11_hung_10 : decode cX11_hung 10 = .ok (.lconst 0, 1) := by decide +kernel
theorem dX11_hung_11 : decode cX11_hung 11 = .ok (.ldc2_w 546, 3) := by decide +kernel
theorem dX11_hung_14 : decode cX11_hung 14 = .ok (.invokestatic 300, 3) := by decide +kernel
theorem dX11_hung_17 : decode cX11_hung 17 = .ok (.ifCond .ne 5, 3) := by decide +kernel
theorem dX11_hung_20 : decode cX11_hung 20 = .ok (.iconst (-1), 1) := by decide +kernel
theorem dX11_hung_21 : decode cX11_hung 21 = .ok (.ireturn, 1) := by decide +kernel
theorem dX11_hung_22 : decode cX11_hung 22 = .ok (.iconst 0, 1) := by decide +kernel
theorem dX11_hung_23 : decode cX11_hung 23 = .ok (.istore_n 2, 1) := by decide +kernel
theorem dX11_hung_24 : decode cX11_hung 24 = .ok (.iload_n 2, 1) := by decide +kernel
theorem dX11_hung_25 : decode cX11_hung 25 = .ok (.aload_n 0, 1) := by decide +kernel
theorem dX11_hung_26 : decode cX11_hung 26 = .ok (.getfield 212, 3) := by decide +kernel
theorem dX11_hung_29 : decode cX11_hung 29 = .ok (.if_icmp .ge 36, 3) := by decide +kernel
theorem dX11_hung_32 : decode cX11_hung 32 = .ok (.aload_n 0, 1) := by decide +kernel
theorem dX11_hung_33 : decode cX11_hung 33 = .ok (.getfield 218, 3) := by decide +kernel
theorem dX11_hung_36 : decode cX11_hung 36 = .ok (.iload_n 2, 1) := by decide +kernel
theorem dX11_hung_37 : decode cX11_hung 37 = .ok (.laload, 1) := by decide +kernel
theorem dX11_hung_38 : decode cX11_hung 38 = .ok (.iload_n 1, 1) := by decide +kernel
theorem dX11_hung_39 : decode cX11_hung 39 = .ok (.i2l, 1) := by decide +kernel
theorem dX11_hung_40 : decode cX11_hung 40 = .ok (.aload_n 0, 1) := by decide +kernel
theorem dX11_hung_41 : decode cX11_hung 41 = .ok (.getfield 221, 3) := by decide +kernel
theorem dX11_hung_44 : decode cX11_hung 44 = .ok (.iload_n 2, 1) := by decide +kernel
theorem dX11_hung_45 : decode cX11_hung 45 = .ok (.iaload, 1) := by decide +kernel
theorem dX11_hung_46 : decode cX11_hung 46 = .ok (.i2l, 1) := by decide +kernel
theorem dX11_hung_47 : decode cX11_hung 47 = .ok (.lmul, 1) := by decide +kernel
theorem dX11_hung_48 : decode cX11_hung 48 = .ok (.lcmp, 1) := by decide +kernel
theorem dX11_hung_49 : decode cX11_hung 49 = .ok (.ifCond .lt 10, 3) := by decide +kernel
theorem dX11_hung_52 : decode cX11_hung 52 = .ok (.aload_n 0, 1) := by decide +kernel
theorem dX11_hung_53 : decode cX11_hung 53 = .ok (.getfield 224, 3) := by decide +kernel
theorem dX11_hung_56 : decode cX11_hung 56 = .ok (.iload_n 2, 1) := by decide +kernel
theorem dX11_hung_57 : decode cX11_hung 57 = .ok (.iaload, 1) := by decide +kernel
theorem dX11_hung_58 : decode cX11_hung 58 = .ok (.ireturn, 1) := by decide +kernel
theorem dX11_hung_59 : decode cX11_hung 59 = .ok (.iinc 2 1, 3) := by decide +kernel
theorem dX11_hung_62 : decode cX11_hung 62 = .ok (.goto (-38), 3) := by decide +kernel
theorem dX11_hung_65 : decode cX11_hung 65 = .ok (.iconst 0, 1) := by decide +kernel
theorem dX11_hung_66 : decode cX11_hung 66 = .ok (.ireturn, 1) := by decide +kernel
theorem dX11_holdOf_0 : decode cX11_holdOf 0 = .ok (.iconst 0, 1) := by decide +kernel
theorem dX11_holdOf_1 : decode cX11_holdOf 1 = .ok (.istore_n 2, 1) := by decide +kernel
theorem dX11_holdOf_2 : decode cX11_holdOf 2 = .ok (.iconst 0, 1) := by decide +kernel
theorem dX11_holdOf_3 : decode cX11_holdOf 3 = .ok (.istore_n 3, 1) := by decide +kernel
theorem dX11_holdOf_4 : decode cX11_holdOf 4 = .ok (.iload_n 3, 1) := by decide +kernel
theorem dX11_holdOf_5 : decode cX11_holdOf 5 = .ok (.aload_n 0, 1) := by decide +kernel
theorem dX11_holdOf_6 : decode cX11_holdOf 6 = .ok (.getfield 543, 3) := by decide +kernel
theorem dX11_holdOf_9 : decode cX11_holdOf 9 = .ok (.if_icmp .ge 33, 3) := by decide +kernel
theorem dX11_holdOf_12 : decode cX11_holdOf 12 = .ok (.aload_n 0, 1) := by decide +kernel
theorem dX11_holdOf_13 : decode cX11_holdOf 13 = .ok (.getfield 200, 3) := by decide +kernel
theorem dX11_holdOf_16 : decode cX11_holdOf 16 = .ok (.iload_n 3, 1) := by decide +kernel
theorem dX11_holdOf_17 : decode cX11_holdOf 17 = .ok (.iaload, 1) := by decide +kernel
theorem dX11_holdOf_18 : decode cX11_holdOf 18 = .ok (.aload_n 0, 1) := by decide +kernel
theorem dX11_holdOf_19 : decode cX11_holdOf 19 = .ok (.getfield 537, 3) := by decide +kernel
theorem dX11_holdOf_22 : decode cX11_holdOf 22 = .ok (.idiv, 1) := by decide +kernel
theorem dX11_holdOf_23 : decode cX11_holdOf 23 = .ok (.iload_n 1, 1) := by decide +kernel
theorem dX11_holdOf_24 : decode cX11_holdOf 24 = .ok (.if_icmp .ne 12, 3) := by decide +kernel
theorem dX11_holdOf_27 : decode cX11_holdOf 27 = .ok (.iload_n 2, 1) := by decide +kernel
theorem dX11_holdOf_28 : decode cX11_holdOf 28 = .ok (.aload_n 0, 1) := by decide +kernel
theorem dX11_holdOf_29 : decode cX11_holdOf 29 = .ok (.getfield 209, 3) := by decide +kernel
theorem dX11_holdOf_32 : decode cX11_holdOf 32 = .ok (.iload_n 3, 1) := by decide +kernel
theorem dX11_holdOf_33 : decode cX11_holdOf 33 = .ok (.iaload, 1) := by decide +kernel
theorem dX11_holdOf_34 : decode cX11_holdOf 34 = .ok (.iadd, 1) := by decide +kernel
theorem dX11_holdOf_35 : decode cX11_holdOf 35 = .ok (.istore_n 2, 1) := by decide +kernel
theorem dX11_holdOf_36 : decode cX11_holdOf 36 = .ok (.iinc 3 1, 3) := by decide +kernel
theorem dX11_holdOf_39 : decode cX11_holdOf 39 = .ok (.goto (-35), 3) := by decide +kernel
theorem dX11_holdOf_42 : decode cX11_holdOf 42 = .ok (.iload_n 2, 1) := by decide +kernel
theorem dX11_holdOf_43 : decode cX11_holdOf 43 = .ok (.ireturn, 1) := by decide +kernel
theorem dX11_peel_0 : decode cX11_peel 0 = .ok (.aload_n 0, 1) := by decide +kernel
theorem dX11_peel_1 : decode cX11_peel 1 = .ok (.getfield 415, 3) := by decide +kernel
theorem dX11_peel_4 : decode cX11_peel 4 = .ok (.ifCond .eq 14, 3) := by decide +kernel
theorem dX11_peel_7 : decode cX11_peel 7 = .ok (.iload_n 2, 1) := by decide +kernel
theorem dX11_peel_8 : decode cX11_peel 8 = .ok (.ifCond .lt 10, 3) := by decide +kernel
theorem dX11_peel_11 : decode cX11_peel 11 = .ok (.iload_n 2, 1) := by decide +kernel
theorem dX11_peel_12 : decode cX11_peel 12 = .ok (.ldc_w 548, 3) := by decide +kernel
theorem dX11_peel_15 : decode cX11_peel 15 = .ok (.if_icmp .le 5, 3) := by decide +kernel
theorem dX11_peel_18 : decode cX11_peel 18 = .ok (.iconst (-1), 1) := by decide +kernel
theorem dX11_peel_19 : decode cX11_peel 19 = .ok (.ireturn, 1) := by decide +kernel
theorem dX11_peel_20 : decode cX11_peel 20 = .ok (.iconst 0, 1) := by decide +kernel
theorem dX11_peel_21 : decode cX11_peel 21 = .ok (.istore_n 3, 1) := by decide +kernel
theorem dX11_peel_22 : decode cX11_peel 22 = .ok (.iload_n 3, 1) := by decide +kernel
theorem dX11_peel_23 : decode cX11_peel 23 = .ok (.iconst 4, 1) := by decide +kernel
theorem dX11_peel_24 : decode cX11_peel 24 = .ok (.if_icmp .ge 38, 3) := by decide +kernel
theorem dX11_peel_27 : decode cX11_peel 27 = .ok (.iload_n 2, 1) := by decide +kernel
theorem dX11_peel_28 : decode cX11_peel 28 = .ok (.iconst 4, 1) := by decide +kernel
theorem dX11_peel_29 : decode cX11_peel 29 = .ok (.iload_n 3, 1) := by decide +kernel
theorem dX11_peel_30 : decode cX11_peel 30 = .ok (.imul, 1) := by decide +kernel
theorem dX11_peel_31 : decode cX11_peel 31 = .ok (.ishr, 1) := by decide +kernel
theorem dX11_peel_32 : decode cX11_peel 32 = .ok (.bipush 15, 2) := by decide +kernel
theorem dX11_peel_34 : decode cX11_peel 34 = .ok (.iand, 1) := by decide +kernel
theorem dX11_peel_35 : decode cX11_peel 35 = .ok (.i2l, 1) := by decide +kernel
theorem dX11_peel_36 : decode cX11_peel 36 = .ok (.iload_n 3, 1) := by decide +kernel
theorem dX11_peel_37 : decode cX11_peel 37 = .ok (.ifCond .ne 7, 3) := by decide +kernel
theorem dX11_peel_40 : decode cX11_peel 40 = .ok (.lconst 1, 1) := by decide +kernel
theorem dX11_peel_41 : decode cX11_peel 41 = .ok (.goto 4, 3) := by decide +kernel
theorem dX11_peel_44 : decode cX11_peel 44 = .ok (.lconst 0, 1) := by decide +kernel
theorem dX11_peel_45 : decode cX11_peel 45 = .ok (.ldc2_w 431, 3) := by decide +kernel
theorem dX11_peel_48 : decode cX11_peel 48 = .ok (.invokestatic 300, 3) := by decide +kernel
theorem dX11_peel_51 : decode cX11_peel 51 = .ok (.ifCond .ne 5, 3) := by decide +kernel
theorem dX11_peel_54 : decode cX11_peel 54 = .ok (.iconst (-1), 1) := by decide +kernel
theorem dX11_peel_55 : decode cX11_peel 55 = .ok (.ireturn, 1) := by decide +kernel
theorem dX11_peel_56 : decode cX11_peel 56 = .ok (.iinc 3 1, 3) := by decide +kernel
theorem dX11_peel_59 : decode cX11_peel 59 = .ok (.goto (-37), 3) := by decide +kernel
theorem dX11_peel_62 : decode cX11_peel 62 = .ok (.aload_n 0, 1) := by decide +kernel
theorem dX11_peel_63 : decode cX11_peel 63 = .ok (.iconst 0, 1) := by decide +kernel
theorem dX11_peel_64 : decode cX11_peel 64 = .ok (.putfield 227, 3) := by decide +kernel
theorem dX11_peel_67 : decode cX11_peel 67 = .ok (.iconst 0, 1) := by decide +kernel
theorem dX11_peel_68 : decode cX11_peel 68 = .ok (.istore_n 3, 1) := by decide +kernel
theorem dX11_peel_69 : decode cX11_peel 69 = .ok (.iload_n 3, 1) := by decide +kernel
theorem dX11_peel_70 : decode cX11_peel 70 = .ok (.aload_n 0, 1) := by decide +kernel
theorem dX11_peel_71 : decode cX11_peel 71 = .ok (.getfield 540, 3) := by decide +kernel
theorem dX11_peel_74 : decode cX11_peel 74 = .ok (.if_icmp .ge 247, 3) := by decide +kernel
theorem dX11_peel_77 : decode cX11_peel 77 = .ok (.iconst 0, 1) := by decide +kernel
theorem dX11_peel_78 : decode cX11_peel 78 = .ok (.istore 4, 2) := by decide +kernel
theorem dX11_peel_80 : decode cX11_peel 80 = .ok (.iconst 0, 1) := by decide +kernel
theorem dX11_peel_81 : decode cX11_peel 81 = .ok (.istore 5, 2) := by decide +kernel
theorem dX11_peel_83 : decode cX11_peel 83 = .ok (.iload 5, 2) := by decide +kernel
theorem dX11_peel_85 : decode cX11_peel 85 = .ok (.iconst 4, 1) := by decide +kernel
theorem dX11_peel_86 : decode cX11_peel 86 = .ok (.if_icmp .ge 34, 3) := by decide +kernel
theorem dX11_peel_89 : decode cX11_peel 89 = .ok (.iload_n 3, 1) := by decide +kernel
theorem dX11_peel_90 : decode cX11_peel 90 = .ok (.iload 5, 2) := by decide +kernel
theorem dX11_peel_92 : decode cX11_peel 92 = .ok (.iadd, 1) := by decide +kernel
theorem dX11_peel_93 : decode cX11_peel 93 = .ok (.aload_n 0, 1) := by decide +kernel
theorem dX11_peel_94 : decode cX11_peel 94 = .ok (.getfield 540, 3) := by decide +kernel
theorem dX11_peel_97 : decode cX11_peel 97 = .ok (.if_icmp .ge 23, 3) := by decide +kernel
theorem dX11_peel_100 : decode cX11_peel 100 = .ok (.iload 4, 2) := by decide +kernel
theorem dX11_peel_102 : decode cX11_peel 102 = .ok (.iload_n 2, 1) := by decide +kernel
theorem dX11_peel_103 : decode cX11_peel 103 = .ok (.iconst 4, 1) := by decide +kernel
theorem dX11_peel_104 : decode cX11_peel 104 = .ok (.iload 5, 2) := by decide +kernel
theorem dX11_peel_106 : decode cX11_peel 106 = .ok (.imul, 1) := by decide +kernel
theorem dX11_peel_107 : decode cX11_peel 107 = .ok (.ishr, 1) := by decide +kernel
theorem dX11_peel_108 : decode cX11_peel 108 = .ok (.bipush 15, 2) := by decide +kernel
theorem dX11_peel_110 : decode cX11_peel 110 = .ok (.iand, 1) := by decide +kernel
theorem dX11_peel_111 : decode cX11_peel 111 = .ok (.iadd, 1) := by decide +kernel
theorem dX11_peel_112 : decode cX11_peel 112 = .ok (.istore 4, 2) := by decide +kernel
theorem dX11_peel_114 : decode cX11_peel 114 = .ok (.iinc 5 1, 3) := by decide +kernel
theorem dX11_peel_117 : decode cX11_peel 117 = .ok (.goto (-34), 3) := by decide +kernel
theorem dX11_peel_120 : decode cX11_peel 120 = .ok (.iload_n 2, 1) := by decide +kernel
theorem dX11_peel_121 : decode cX11_peel 121 = .ok (.bipush 15, 2) := by decide +kernel
theorem dX11_peel_123 : decode cX11_peel 123 = .ok (.iand, 1) := by decide +kernel
theorem dX11_peel_124 : decode cX11_peel 124 = .ok (.istore 5, 2) := by decide +kernel
theorem dX11_peel_126 : decode cX11_peel 126 = .ok (.iload_n 1, 1) := by decide +kernel
theorem dX11_peel_127 : decode cX11_peel 127 = .ok (.ifCond .eq 7, 3) := by decide +kernel
theorem dX11_peel_130 : decode cX11_peel 130 = .ok (.iload_n 3, 1) := by decide +kernel
theorem dX11_peel_131 : decode cX11_peel 131 = .ok (.goto 11, 3) := by decide +kernel
theorem dX11_peel_134 : decode cX11_peel 134 = .ok (.aload_n 0, 1) := by decide +kernel
theorem dX11_peel_135 : decode cX11_peel 135 = .ok (.getfield 540, 3) := by decide +kernel
theorem dX11_peel_138 : decode cX11_peel 138 = .ok (.iconst 1, 1) := by decide +kernel
theorem dX11_peel_139 : decode cX11_peel 139 = .ok (.isub, 1) := by decide +kernel
theorem dX11_peel_140 : decode cX11_peel 140 = .ok (.iload_n 3, 1) := by decide +kernel
theorem dX11_peel_141 : decode cX11_peel 141 = .ok (.isub, 1) := by decide +kernel
theorem dX11_peel_142 : decode cX11_peel 142 = .ok (.istore 6, 2) := by decide +kernel
theorem dX11_peel_144 : decode cX11_peel 144 = .ok (.aload_n 0, 1) := by decide +kernel
theorem dX11_peel_145 : decode cX11_peel 145 = .ok (.iload 6, 2) := by decide +kernel
theorem dX11_peel_147 : decode cX11_peel 147 = .ok (.invokevirtual 549, 3) := by decide +kernel
theorem dX11_peel_150 : decode cX11_peel 150 = .ok (.i2l, 1) := by decide +kernel
theorem dX11_peel_151 : decode cX11_peel 151 = .ok (.iload 4, 2) := by decide +kernel
theorem dX11_peel_153 : decode cX11_peel 153 = .ok (.i2l, 1) := by decide +kernel
theorem dX11_peel_154 : decode cX11_peel 154 = .ok (.lmul, 1) := by decide +kernel
theorem dX11_peel_155 : decode cX11_peel 155 = .ok (.iload 5, 2) := by decide +kernel
theorem dX11_peel_157 : decode cX11_peel 157 = .ok (.i2l, 1) := by decide +kernel
theorem dX11_peel_158 : decode cX11_peel 158 = .ok (.ladd, 1) := by decide +kernel
theorem dX11_peel_159 : decode cX11_peel 159 = .ok (.lconst 1, 1) := by decide +kernel
theorem dX11_peel_160 : decode cX11_peel 160 = .ok (.lsub, 1) := by decide +kernel
theorem dX11_peel_161 : decode cX11_peel 161 = .ok (.iload 5, 2) := by decide +kernel
theorem dX11_peel_163 : decode cX11_peel 163 = .ok (.i2l, 1) := by decide +kernel
theorem dX11_peel_164 : decode cX11_peel 164 = .ok (.ldiv, 1) := by decide +kernel
theorem dX11_peel_165 : decode cX11_peel 165 = .ok (.lstore 7, 2) := by decide +kernel
theorem dX11_peel_167 : decode cX11_peel 167 = .ok (.iconst 0, 1) := by decide +kernel
theorem dX11_peel_168 : decode cX11_peel 168 = .ok (.istore 9, 2) := by decide +kernel
theorem dX11_peel_170 : decode cX11_peel 170 = .ok (.iconst 1, 1) := by decide +kernel
theorem dX11_peel_171 : decode cX11_peel 171 = .ok (.istore 10, 2) := by decide +kernel
theorem dX11_peel_173 : decode cX11_peel 173 = .ok (.iconst 1, 1) := by decide +kernel
theorem dX11_peel_174 : decode cX11_peel 174 = .ok (.istore 11, 2) := by decide +kernel
theorem dX11_peel_176 : decode cX11_peel 176 = .ok (.iload 11, 2) := by decide +kernel
theorem dX11_peel_178 : decode cX11_peel 178 = .ok (.iconst 4, 1) := by decide +kernel
theorem dX11_peel_179 : decode cX11_peel 179 = .ok (.if_icmp .ge 88, 3) := by decide +kernel
theorem dX11_peel_182 : decode cX11_peel 182 = .ok (.iload_n 3, 1) := by decide +kernel
theorem dX11_peel_183 : decode cX11_peel 183 = .ok (.iload 11, 2) := by decide +kernel
theorem dX11_peel_185 : decode cX11_peel 185 = .ok (.iadd, 1) := by decide +kernel
theorem dX11_peel_186 : decode cX11_peel 186 = .ok (.aload_n 0, 1) := by decide +kernel
theorem dX11_peel_187 : decode cX11_peel 187 = .ok (.getfield 540, 3) := by decide +kernel
theorem dX11_peel_190 : decode cX11_peel 190 = .ok (.if_icmp .ge 77, 3) := by decide +kernel
theorem dX11_peel_193 : decode cX11_peel 193 = .ok (.iload 10, 2) := by decide +kernel
theorem dX11_peel_195 : decode cX11_peel 195 = .ok (.ifCond .eq 72, 3) := by decide +kernel
theorem dX11_peel_198 : decode cX11_peel 198 = .ok (.lload 7, 2) := by decide +kernel
theorem dX11_peel_200 : decode cX11_peel 200 = .ok (.iload_n 2, 1) := by decide +kernel
theorem dX11_peel_201 : decode cX11_peel 201 = .ok (.iconst 4, 1) := by decide +kernel
theorem dX11_peel_202 : decode cX11_peel 202 = .ok (.iload 11, 2) := by decide +kernel
theorem dX11_peel_204 : decode cX11_peel 204 = .ok (.imul, 1) := by decide +kernel
theorem dX11_peel_205 : decode cX11_peel 205 = .ok (.ishr, 1) := by decide +kernel
theorem dX11_peel_206 : decode cX11_peel 206 = .ok (.bipush 15, 2) := by decide +kernel
theorem dX11_peel_208 : decode cX11_peel 208 = .ok (.iand, 1) := by decide +kernel
theorem dX11_peel_209 : decode cX11_peel 209 = .ok (.i2l, 1) := by decide +kernel
theorem dX11_peel_210 : decode cX11_peel 210 = .ok (.lmul, 1) := by decide +kernel
theorem dX11_peel_211 : decode cX11_peel 211 = .ok (.iload 4, 2) := by decide +kernel
theorem dX11_peel_213 : decode cX11_peel 213 = .ok (.i2l, 1) := by decide +kernel
theorem dX11_peel_214 : decode cX11_peel 214 = .ok (.ldiv, 1) := by decide +kernel
theorem dX11_peel_215 : decode cX11_peel 215 = .ok (.aload_n 0, 1) := by decide +kernel
theorem dX11_peel_216 : decode cX11_peel 216 = .ok (.iload_n 1, 1) := by decide +kernel
theorem dX11_peel_217 : decode cX11_peel 217 = .ok (.ifCond .eq 10, 3) := by decide +kernel
theorem dX11_peel_220 : decode cX11_peel 220 = .ok (.iload_n 3, 1) := by decide +kernel
theorem dX11_peel_221 : decode cX11_peel 221 = .ok (.iload 11, 2) := by decide +kernel
theorem dX11_peel_223 : decode cX11_peel 223 = .ok (.iadd, 1) := by decide +kernel
theorem dX11_peel_224 : decode cX11_peel 224 = .ok (.goto 14, 3) := by decide +kernel
theorem dX11_peel_227 : decode cX11_peel 227 = .ok (.aload_n 0, 1) := by decide +kernel
theorem dX11_peel_228 : decode cX11_peel 228 = .ok (.getfield 540, 3) := by decide +kernel
theorem dX11_peel_231 : decode cX11_peel 231 = .ok (.iconst 1, 1) := by decide +kernel
theorem dX11_peel_232 : decode cX11_peel 232 = .ok (.isub, 1) := by decide +kernel
theorem dX11_peel_233 : decode cX11_peel 233 = .ok (.iload_n 3, 1) := by decide +kernel
theorem dX11_peel_234 : decode cX11_peel 234 = .ok (.isub, 1) := by decide +kernel
theorem dX11_peel_235 : decode cX11_peel 235 = .ok (.iload 11, 2) := by decide +kernel
theorem dX11_peel_237 : decode cX11_peel 237 = .ok (.isub, 1) := by decide +kernel
theorem dX11_peel_238 : decode cX11_peel 238 = .ok (.invokevirtual 549, 3) := by decide +kernel
theorem dX11_peel_241 : decode cX11_peel 241 = .ok (.i2l, 1) := by decide +kernel
theorem dX11_peel_242 : decode cX11_peel 242 = .ok (.lcmp, 1) := by decide +kernel
theorem dX11_peel_243 : decode cX11_peel 243 = .ok (.ifCond .lt 7, 3) := by decide +kernel
theorem dX11_peel_246 : decode cX11_peel 246 = .ok (.iconst 1, 1) := by decide +kernel
theorem dX11_peel_247 : decode cX11_peel 247 = .ok (.goto 4, 3) := by decide +kernel
theorem dX11_peel_250 : decode cX11_peel 250 = .ok (.iconst 0, 1) := by decide +kernel
theorem dX11_peel_251 : decode cX11_peel 251 = .ok (.istore 10, 2) := by decide +kernel
theorem dX11_peel_253 : decode cX11_peel 253 = .ok (.iload 10, 2) := by decide +kernel
theorem dX11_peel_255 : decode cX11_peel 255 = .ok (.ifCond .eq 6, 3) := by decide +kernel
theorem dX11_peel_258 : decode cX11_peel 258 = .ok (.iinc 9 1, 3) := by decide +kernel
theorem dX11_peel_261 : decode cX11_peel 261 = .ok (.iinc 11 1, 3) := by decide +kernel
theorem dX11_peel_264 : decode cX11_peel 264 = .ok (.goto (-88), 3) := by decide +kernel
theorem dX11_peel_267 : decode cX11_peel 267 = .ok (.aload_n 0, 1) := by decide +kernel
theorem dX11_peel_268 : decode cX11_peel 268 = .ok (.getfield 230, 3) := by decide +kernel
theorem dX11_peel_271 : decode cX11_peel 271 = .ok (.aload_n 0, 1) := by decide +kernel
theorem dX11_peel_272 : decode cX11_peel 272 = .ok (.getfield 227, 3) := by decide +kernel
theorem dX11_peel_275 : decode cX11_peel 275 = .ok (.iload 6, 2) := by decide +kernel
theorem dX11_peel_277 : decode cX11_peel 277 = .ok (.iastore, 1) := by decide +kernel
theorem dX11_peel_278 : decode cX11_peel 278 = .ok (.aload_n 0, 1) := by decide +kernel
theorem dX11_peel_279 : decode cX11_peel 279 = .ok (.getfield 233, 3) := by decide +kernel
theorem dX11_peel_282 : decode cX11_peel 282 = .ok (.aload_n 0, 1) := by decide +kernel
theorem dX11_peel_283 : decode cX11_peel 283 = .ok (.getfield 227, 3) := by decide +kernel
theorem dX11_peel_286 : decode cX11_peel 286 = .ok (.lload 7, 2) := by decide +kernel
theorem dX11_peel_288 : decode cX11_peel 288 = .ok (.l2i, 1) := by decide +kernel
theorem dX11_peel_289 : decode cX11_peel 289 = .ok (.iastore, 1) := by decide +kernel
theorem dX11_peel_290 : decode cX11_peel 290 = .ok (.aload_n 0, 1) := by decide +kernel
theorem dX11_peel_291 : decode cX11_peel 291 = .ok (.getfield 236, 3) := by decide +kernel
theorem dX11_peel_294 : decode cX11_peel 294 = .ok (.aload_n 0, 1) := by decide +kernel
theorem dX11_peel_295 : decode cX11_peel 295 = .ok (.getfield 227, 3) := by decide +kernel
theorem dX11_peel_298 : decode cX11_peel 298 = .ok (.iload 9, 2) := by decide +kernel
theorem dX11_peel_300 : decode cX11_peel 300 = .ok (.iastore, 1) := by decide +kernel
theorem dX11_peel_301 : decode cX11_peel 301 = .ok (.aload_n 0, 1) := by decide +kernel
theorem dX11_peel_302 : decode cX11_peel 302 = .ok (.dup, 1) := by decide +kernel
theorem dX11_peel_303 : decode cX11_peel 303 = .ok (.getfield 227, 3) := by decide +kernel
theorem dX11_peel_306 : decode cX11_peel 306 = .ok (.iconst 1, 1) := by decide +kernel
theorem dX11_peel_307 : decode cX11_peel 307 = .ok (.iadd, 1) := by decide +kernel
theorem dX11_peel_308 : decode cX11_peel 308 = .ok (.putfield 227, 3) := by decide +kernel
theorem dX11_peel_311 : decode cX11_peel 311 = .ok (.iload_n 3, 1) := by decide +kernel
theorem dX11_peel_312 : decode cX11_peel 312 = .ok (.iconst 1, 1) := by decide +kernel
theorem dX11_peel_313 : decode cX11_peel 313 = .ok (.iload 9, 2) := by decide +kernel
theorem dX11_peel_315 : decode cX11_peel 315 = .ok (.iadd, 1) := by decide +kernel
theorem dX11_peel_316 : decode cX11_peel 316 = .ok (.iadd, 1) := by decide +kernel
theorem dX11_peel_317 : decode cX11_peel 317 = .ok (.istore_n 3, 1) := by decide +kernel
theorem dX11_peel_318 : decode cX11_peel 318 = .ok (.goto (-249), 3) := by decide +kernel
theorem dX11_peel_321 : decode cX11_peel 321 = .ok (.aload_n 0, 1) := by decide +kernel
theorem dX11_peel_322 : decode cX11_peel 322 = .ok (.getfield 227, 3) := by decide +kernel
theorem dX11_peel_325 : decode cX11_peel 325 = .ok (.ireturn, 1) := by decide +kernel
theorem dX11_front_0 : decode cX11_front 0 = .ok (.iload_n 1, 1) := by decide +kernel
theorem dX11_front_1 : decode cX11_front 1 = .ok (.ifCond .lt 11, 3) := by decide +kernel
theorem dX11_front_4 : decode cX11_front 4 = .ok (.iload_n 1, 1) := by decide +kernel
theorem dX11_front_5 : decode cX11_front 5 = .ok (.aload_n 0, 1) := by decide +kernel
theorem dX11_front_6 : decode cX11_front 6 = .ok (.getfield 227, 3) := by decide +kernel
theorem dX11_front_9 : decode cX11_front 9 = .ok (.if_icmp .lt 5, 3) := by decide +kernel
theorem dX11_front_12 : decode cX11_front 12 = .ok (.iconst (-1), 1) := by decide +kernel
theorem dX11_front_13 : decode cX11_front 13 = .ok (.ireturn, 1) := by decide +kernel
theorem dX11_front_14 : decode cX11_front 14 = .ok (.iload_n 2, 1) := by decide +kernel
theorem dX11_front_15 : decode cX11_front 15 = .ok (.ifCond .ne 12, 3) := by decide +kernel
theorem dX11_front_18 : decode cX11_front 18 = .ok (.aload_n 0, 1) := by decide +kernel
theorem dX11_front_19 : decode cX11_front 19 = .ok (.getfield 230, 3) := by decide +kernel
theorem dX11_front_22 : decode cX11_front 22 = .ok (.iload_n 1, 1) := by decide +kernel
theorem dX11_front_23 : decode cX11_front 23 = .ok (.iaload, 1) := by decide +kernel
theorem dX11_front_24 : decode cX11_front 24 = .ok (.goto 32, 3) := by decide +kernel
theorem dX11_front_27 : decode cX11_front 27 = .ok (.iload_n 2, 1) := by decide +kernel
theorem dX11_front_28 : decode cX11_front 28 = .ok (.iconst 1, 1) := by decide +kernel
theorem dX11_front_29 : decode cX11_front 29 = .ok (.if_icmp .ne 12, 3) := by decide +kernel
theorem dX11_front_32 : decode cX11_front 32 = .ok (.aload_n 0, 1) := by decide +kernel
theorem dX11_front_33 : decode cX11_front 33 = .ok (.getfield 233, 3) := by decide +kernel
theorem dX11_front_36 : decode cX11_front 36 = .ok (.iload_n 1, 1) := by decide +kernel
theorem dX11_front_37 : decode cX11_front 37 = .ok (.iaload, 1) := by decide +kernel
theorem dX11_front_38 : decode cX11_front 38 = .ok (.goto 18, 3) := by decide +kernel
theorem dX11_front_41 : decode cX11_front 41 = .ok (.iload_n 2, 1) := by decide +kernel
theorem dX11_front_42 : decode cX11_front 42 = .ok (.iconst 2, 1) := by decide +kernel
theorem dX11_front_43 : decode cX11_front 43 = .ok (.if_icmp .ne 12, 3) := by decide +kernel
theorem dX11_front_46 : decode cX11_front 46 = .ok (.aload_n 0, 1) := by decide +kernel
theorem dX11_front_47 : decode cX11_front 47 = .ok (.getfield 236, 3) := by decide +kernel
theorem dX11_front_50 : decode cX11_front 50 = .ok (.iload_n 1, 1) := by decide +kernel
theorem dX11_front_51 : decode cX11_front 51 = .ok (.iaload, 1) := by decide +kernel
theorem dX11_front_52 : decode cX11_front 52 = .ok (.goto 4, 3) := by decide +kernel
theorem dX11_front_55 : decode cX11_front 55 = .ok (.iconst (-1), 1) := by decide +kernel
theorem dX11_front_56 : decode cX11_front 56 = .ok (.ireturn, 1) := by decide +kernel
theorem dX11_work_0 : decode cX11_work 0 = .ok (.aload_n 0, 1) := by decide +kernel
theorem dX11_work_1 : decode cX11_work 1 = .ok (.getfield 227, 3) := by decide +kernel
theorem dX11_work_4 : decode cX11_work 4 = .ok (.iconst (-1), 1) := by decide +kernel
theorem dX11_work_5 : decode cX11_work 5 = .ok (.if_icmp .ne 7, 3) := by decide +kernel
theorem dX11_work_8 : decode cX11_work 8 = .ok (.ldc2_w 439, 3) := by decide +kernel
theorem dX11_work_11 : decode cX11_work 11 = .ok (.lreturn, 1) := by decide +kernel
theorem dX11_work_12 : decode cX11_work 12 = .ok (.lconst 0, 1) := by decide +kernel
theorem dX11_work_13 : decode cX11_work 13 = .ok (.lstore_n 1, 1) := by decide +kernel
theorem dX11_work_14 : decode cX11_work 14 = .ok (.iconst 0, 1) := by decide +kernel
theorem dX11_work_15 : decode cX11_work 15 = .ok (.istore_n 3, 1) := by decide +kernel
theorem dX11_work_16 : decode cX11_work 16 = .ok (.iload_n 3, 1) := by decide +kernel
theorem dX11_work_17 : decode cX11_work 17 = .ok (.aload_n 0, 1) := by decide +kernel
theorem dX11_work_18 : decode cX11_work 18 = .ok (.getfield 227, 3) := by decide +kernel
theorem dX11_work_21 : decode cX11_work 21 = .ok (.if_icmp .ge 19, 3) := by decide +kernel
theorem dX11_work_24 : decode cX11_work 24 = .ok (.lload_n 1, 1) := by decide +kernel
theorem dX11_work_25 : decode cX11_work 25 = .ok (.aload_n 0, 1) := by decide +kernel
theorem dX11_work_26 : decode cX11_work 26 = .ok (.getfield 233, 3) := by decide +kernel
theorem dX11_work_29 : decode cX11_work 29 = .ok (.iload_n 3, 1) := by decide +kernel
theorem dX11_work_30 : decode cX11_work 30 = .ok (.iaload, 1) := by decide +kernel
theorem dX11_work_31 : decode cX11_work 31 = .ok (.i2l, 1) := by decide +kernel
theorem dX11_work_32 : decode cX11_work 32 = .ok (.ladd, 1) := by decide +kernel
theorem dX11_work_33 : decode cX11_work 33 = .ok (.lstore_n 1, 1) := by decide +kernel
theorem dX11_work_34 : decode cX11_work 34 = .ok (.iinc 3 1, 3) := by decide +kernel
theorem dX11_work_37 : decode cX11_work 37 = .ok (.goto (-21), 3) := by decide +kernel
theorem dX11_work_40 : decode cX11_work 40 = .ok (.lload_n 1, 1) := by decide +kernel
theorem dX11_work_41 : decode cX11_work 41 = .ok (.lreturn, 1) := by decide +kernel
theorem dX11_patch_0 : decode cX11_patch 0 = .ok (.iload_n 1, 1) := by decide +kernel
theorem dX11_patch_1 : decode cX11_patch 1 = .ok (.i2l, 1) := by decide +kernel
theorem dX11_patch_2 : decode cX11_patch 2 = .ok (.lconst 0, 1) := by decide +kernel
theorem dX11_patch_3 : decode cX11_patch 3 = .ok (.ldc2_w 425, 3) := by decide +kernel
theorem dX11_patch_6 : decode cX11_patch 6 = .ok (.invokestatic 300, 3) := by decide +kernel
theorem dX11_patch_9 : decode cX11_patch 9 = .ok (.ifCond .eq 36, 3) := by decide +kernel
theorem dX11_patch_12 : decode cX11_patch 12 = .ok (.iload_n 2, 1) := by decide +kernel
theorem dX11_patch_13 : decode cX11_patch 13 = .ok (.i2l, 1) := by decide +kernel
theorem dX11_patch_14 : decode cX11_patch 14 = .ok (.lconst 1, 1) := by decide +kernel
theorem dX11_patch_15 : decode cX11_patch 15 = .ok (.ldc2_w 552, 3) := by decide +kernel
theorem dX11_patch_18 : decode cX11_patch 18 = .ok (.invokestatic 300, 3) := by decide +kernel
theorem dX11_patch_21 : decode cX11_patch 21 = .ok (.ifCond .eq 24, 3) := by decide +kernel
theorem dX11_patch_24 : decode cX11_patch 24 = .ok (.iload_n 3, 1) := by decide +kernel
theorem dX11_patch_25 : decode cX11_patch 25 = .ok (.i2l, 1) := by decide +kernel
theorem dX11_patch_26 : decode cX11_patch 26 = .ok (.lconst 1, 1) := by decide +kernel
theorem dX11_patch_27 : decode cX11_patch 27 = .ok (.ldc2_w 552, 3) := by decide +kernel
theorem dX11_patch_30 : decode cX11_patch 30 = .ok (.invokestatic 300, 3) := by decide +kernel
theorem dX11_patch_33 : decode cX11_patch 33 = .ok (.ifCond .eq 12, 3) := by decide +kernel
theorem dX11_patch_36 : decode cX11_patch 36 = .ok (.aload_n 0, 1) := by decide +kernel
theorem dX11_patch_37 : decode cX11_patch 37 = .ok (.getfield 554, 3) := by decide +kernel
theorem dX11_patch_40 : decode cX11_patch 40 = .ok (.bipush 12, 2) := by decide +kernel
theorem dX11_patch_42 : decode cX11_patch 42 = .ok (.if_icmp .ne 5, 3) := by decide +kernel
theorem dX11_patch_45 : decode cX11_patch 45 = .ok (.iconst (-1), 1) := by decide +kernel
theorem dX11_patch_46 : decode cX11_patch 46 = .ok (.ireturn, 1) := by decide +kernel
theorem dX11_patch_47 : decode cX11_patch 47 = .ok (.aload_n 0, 1) := by decide +kernel
theorem dX11_patch_48 : decode cX11_patch 48 = .ok (.getfield 239, 3) := by decide +kernel
theorem dX11_patch_51 : decode cX11_patch 51 = .ok (.aload_n 0, 1) := by decide +kernel
theorem dX11_patch_52 : decode cX11_patch 52 = .ok (.getfield 554, 3) := by decide +kernel
theorem dX11_patch_55 : decode cX11_patch 55 = .ok (.iload_n 1, 1) := by decide +kernel
theorem dX11_patch_56 : decode cX11_patch 56 = .ok (.iastore, 1) := by decide +kernel
theorem dX11_patch_57 : decode cX11_patch 57 = .ok (.aload_n 0, 1) := by decide +kernel
theorem dX11_patch_58 : decode cX11_patch 58 = .ok (.getfield 242, 3) := by decide +kernel
theorem dX11_patch_61 : decode cX11_patch 61 = .ok (.aload_n 0, 1) := by decide +kernel
theorem dX11_patch_62 : decode cX11_patch 62 = .ok (.getfield 554, 3) := by decide +kernel
theorem dX11_patch_65 : decode cX11_patch 65 = .ok (.iload_n 2, 1) := by decide +kernel
theorem dX11_patch_66 : decode cX11_patch 66 = .ok (.iastore, 1) := by decide +kernel
theorem dX11_patch_67 : decode cX11_patch 67 = .ok (.aload_n 0, 1) := by decide +kernel
theorem dX11_patch_68 : decode cX11_patch 68 = .ok (.getfield 245, 3) := by decide +kernel
theorem dX11_patch_71 : decode cX11_patch 71 = .ok (.aload_n 0, 1) := by decide +kernel
theorem dX11_patch_72 : decode cX11_patch 72 = .ok (.getfield 554, 3) := by decide +kernel
theorem dX11_patch_75 : decode cX11_patch 75 = .ok (.iload_n 3, 1) := by decide +kernel
theorem dX11_patch_76 : decode cX11_patch 76 = .ok (.iastore, 1) := by decide +kernel
theorem dX11_patch_77 : decode cX11_patch 77 = .ok (.aload_n 0, 1) := by decide +kernel
theorem dX11_patch_78 : decode cX11_patch 78 = .ok (.dup, 1) := by decide +kernel
theorem dX11_patch_79 : decode cX11_patch 79 = .ok (.getfield 554, 3) := by decide +kernel
theorem dX11_patch_82 : decode cX11_patch 82 = .ok (.iconst 1, 1) := by decide +kernel
theorem dX11_patch_83 : decode cX11_patch 83 = .ok (.iadd, 1) := by decide +kernel
theorem dX11_patch_84 : decode cX11_patch 84 = .ok (.putfield 554, 3) := by decide +kernel
theorem dX11_patch_87 : decode cX11_patch 87 = .ok (.aload_n 0, 1) := by decide +kernel
theorem dX11_patch_88 : decode cX11_patch 88 = .ok (.getfield 554, 3) := by decide +kernel
theorem dX11_patch_91 : decode cX11_patch 91 = .ok (.ireturn, 1) := by decide +kernel
theorem dX11_force_0 : decode cX11_force 0 = .ok (.iload_n 1, 1) := by decide +kernel
theorem dX11_force_1 : decode cX11_force 1 = .ok (.i2l, 1) := by decide +kernel
theorem dX11_force_2 : decode cX11_force 2 = .ok (.lconst 0, 1) := by decide +kernel
theorem dX11_force_3 : decode cX11_force 3 = .ok (.ldc2_w 425, 3) := by decide +kernel
theorem dX11_force_6 : decode cX11_force 6 = .ok (.invokestatic 300, 3) := by decide +kernel
theorem dX11_force_9 : decode cX11_force 9 = .ok (.ifCond .eq 24, 3) := by decide +kernel
theorem dX11_force_12 : decode cX11_force 12 = .ok (.iload_n 2, 1) := by decide +kernel
theorem dX11_force_13 : decode cX11_force 13 = .ok (.i2l, 1) := by decide +kernel
theorem dX11_force_14 : decode cX11_force 14 = .ok (.lconst 1, 1) := by decide +kernel
theorem dX11_force_15 : decode cX11_force 15 = .ok (.ldc2_w 557, 3) := by decide +kernel
theorem dX11_force_18 : decode cX11_force 18 = .ok (.invokestatic 300, 3) := by decide +kernel
theorem dX11_force_21 : decode cX11_force 21 = .ok (.ifCond .eq 12, 3) := by decide +kernel
theorem dX11_force_24 : decode cX11_force 24 = .ok (.aload_n 0, 1) := by decide +kernel
theorem dX11_force_25 : decode cX11_force 25 = .ok (.getfield 559, 3) := by decide +kernel
theorem dX11_force_28 : decode cX11_force 28 = .ok (.bipush 8, 2) := by decide +kernel
theorem dX11_force_30 : decode cX11_force 30 = .ok (.if_icmp .ne 5, 3) := by decide +kernel
theorem dX11_force_33 : decode cX11_force 33 = .ok (.iconst (-1), 1) := by decide +kernel
theorem dX11_force_34 : decode cX11_force 34 = .ok (.ireturn, 1) := by decide +kernel
theorem dX11_force_35 : decode cX11_force 35 = .ok (.aload_n 0, 1) := by decide +kernel
theorem dX11_force_36 : decode cX11_force 36 = .ok (.getfield 248, 3) := by decide +kernel
theorem dX11_force_39 : decode cX11_force 39 = .ok (.aload_n 0, 1) := by decide +kernel
theorem dX11_force_40 : decode cX11_force 40 = .ok (.getfield 559, 3) := by decide +kernel
theorem dX11_force_43 : decode cX11_force 43 = .ok (.iload_n 1, 1) := by decide +kernel
theorem dX11_force_44 : decode cX11_force 44 = .ok (.iastore, 1) := by decide +kernel
theorem dX11_force_45 : decode cX11_force 45 = .ok (.aload_n 0, 1) := by decide +kernel
theorem dX11_force_46 : decode cX11_force 46 = .ok (.getfield 251, 3) := by decide +kernel
theorem dX11_force_49 : decode cX11_force 49 = .ok (.aload_n 0, 1) := by decide +kernel
theorem dX11_force_50 : decode cX11_force 50 = .ok (.getfield 559, 3) := by decide +kernel
theorem dX11_force_53 : decode cX11_force 53 = .ok (.iload_n 2, 1) := by decide +kernel
theorem dX11_force_54 : decode cX11_force 54 = .ok (.iastore, 1) := by decide +kernel
theorem dX11_force_55 : decode cX11_force 55 = .ok (.aload_n 0, 1) := by decide +kernel
theorem dX11_force_56 : decode cX11_force 56 = .ok (.dup, 1) := by decide +kernel
theorem dX11_force_57 : decode cX11_force 57 = .ok (.getfield 559, 3) := by decide +kernel
theorem dX11_force_60 : decode cX11_force 60 = .ok (.iconst 1, 1) := by decide +kernel
theorem dX11_force_61 : decode cX11_force 61 = .ok (.iadd, 1) := by decide +kernel
theorem dX11_force_62 : decode cX11_force 62 = .ok (.putfield 559, 3) := by decide +kernel
theorem dX11_force_65 : decode cX11_force 65 = .ok (.aload_n 0, 1) := by decide +kernel
theorem dX11_force_66 : decode cX11_force 66 = .ok (.getfield 559, 3) := by decide +kernel
theorem dX11_force_69 : decode cX11_force 69 = .ok (.ireturn, 1) := by decide +kernel
theorem dX11_clear_0 : decode cX11_clear 0 = .ok (.aload_n 0, 1) := by decide +kernel
theorem dX11_clear_1 : decode cX11_clear 1 = .ok (.getfield 554, 3) := by decide +kernel
theorem dX11_clear_4 : decode cX11_clear 4 = .ok (.istore_n 1, 1) := by decide +kernel
theorem dX11_clear_5 : decode cX11_clear 5 = .ok (.aload_n 0, 1) := by decide +kernel
theorem dX11_clear_6 : decode cX11_clear 6 = .ok (.iconst 0, 1) := by decide +kernel
theorem dX11_clear_7 : decode cX11_clear 7 = .ok (.putfield 554, 3) := by decide +kernel
theorem dX11_clear_10 : decode cX11_clear 10 = .ok (.aload_n 0, 1) := by decide +kernel
theorem dX11_clear_11 : decode cX11_clear 11 = .ok (.iconst 0, 1) := by decide +kernel
theorem dX11_clear_12 : decode cX11_clear 12 = .ok (.putfield 559, 3) := by decide +kernel
theorem dX11_clear_15 : decode cX11_clear 15 = .ok (.iload_n 1, 1) := by decide +kernel
theorem dX11_clear_16 : decode cX11_clear 16 = .ok (.ireturn, 1) := by decide +kernel
theorem dX11_holdsForce_0 : decode cX11_holdsForce 0 = .ok (.iconst 0, 1) := by decide +kernel
theorem dX11_holdsForce_1 : decode cX11_holdsForce 1 = .ok (.istore 4, 2) := by decide +kernel
theorem dX11_holdsForce_3 : decode cX11_holdsForce 3 = .ok (.iconst 0, 1) := by decide +kernel
theorem dX11_holdsForce_4 : decode cX11_holdsForce 4 = .ok (.istore 5, 2) := by decide +kernel
theorem dX11_holdsForce_6 : decode cX11_holdsForce 6 = .ok (.iconst 0, 1) := by decide +kernel
theorem dX11_holdsForce_7 : decode cX11_holdsForce 7 = .ok (.istore 6, 2) := by decide +kernel
theorem dX11_holdsForce_9 : decode cX11_holdsForce 9 = .ok (.iload 6, 2) := by decide +kernel
theorem dX11_holdsForce_11 : decode cX11_holdsForce 11 = .ok (.aload_n 0, 1) := by decide +kernel
theorem dX11_holdsForce_12 : decode cX11_holdsForce 12 = .ok (.getfield 554, 3) := by decide +kernel
theorem dX11_holdsForce_15 : decode cX11_holdsForce 15 = .ok (.if_icmp .ge 84, 3) := by decide +kernel
theorem dX11_holdsForce_18 : decode cX11_holdsForce 18 = .ok (.aload_n 0, 1) := by decide +kernel
theorem dX11_holdsForce_19 : decode cX11_holdsForce 19 = .ok (.getfield 239, 3) := by decide +kernel
theorem dX11_holdsForce_22 : decode cX11_holdsForce 22 = .ok (.iload 6, 2) := by decide +kernel
theorem dX11_holdsForce_24 : decode cX11_holdsForce 24 = .ok (.iaload, 1) := by decide +kernel
theorem dX11_holdsForce_25 : decode cX11_holdsForce 25 = .ok (.aload_n 0, 1) := by decide +kernel
theorem dX11_holdsForce_26 : decode cX11_holdsForce 26 = .ok (.getfield 248, 3) := by decide +kernel
theorem dX11_holdsForce_29 : decode cX11_holdsForce 29 = .ok (.iload_n 2, 1) := by decide +kernel
theorem dX11_holdsForce_30 : decode cX11_holdsForce 30 = .ok (.iaload, 1) := by decide +kernel
theorem dX11_holdsForce_31 : decode cX11_holdsForce 31 = .ok (.isub, 1) := by decide +kernel
theorem dX11_holdsForce_32 : decode cX11_holdsForce 32 = .ok (.istore 7, 2) := by decide +kernel
theorem dX11_holdsForce_34 : decode cX11_holdsForce 34 = .ok (.iload_n 1, 1) := by decide +kernel
theorem dX11_holdsForce_35 : decode cX11_holdsForce 35 = .ok (.iload 6, 2) := by decide +kernel
theorem dX11_holdsForce_37 : decode cX11_holdsForce 37 = .ok (.ishr, 1) := by decide +kernel
theorem dX11_holdsForce_38 : decode cX11_holdsForce 38 = .ok (.iconst 1, 1) := by decide +kernel
theorem dX11_holdsForce_39 : decode cX11_holdsForce 39 = .ok (.iand, 1) := by decide +kernel
theorem dX11_holdsForce_40 : decode cX11_holdsForce 40 = .ok (.ifCond .eq 53, 3) := by decide +kernel
theorem dX11_holdsForce_43 : decode cX11_holdsForce 43 = .ok (.iload 7, 2) := by decide +kernel
theorem dX11_holdsForce_45 : decode cX11_holdsForce 45 = .ok (.i2l, 1) := by decide +kernel
theorem dX11_holdsForce_46 : decode cX11_holdsForce 46 = .ok (.iload_n 3, 1) := by decide +kernel
theorem dX11_holdsForce_47 : decode cX11_holdsForce 47 = .ok (.ineg, 1) := by decide +kernel
theorem dX11_holdsForce_48 : decode cX11_holdsForce 48 = .ok (.i2l, 1) := by decide +kernel
theorem dX11_holdsForce_49 : decode cX11_holdsForce 49 = .ok (.iload_n 3, 1) := by decide +kernel
theorem dX11_holdsForce_50 : decode cX11_holdsForce 50 = .ok (.i2l, 1) := by decide +kernel
theorem dX11_holdsForce_51 : decode cX11_holdsForce 51 = .ok (.invokestatic 300, 3) := by decide +kernel
theorem dX11_holdsForce_54 : decode cX11_holdsForce 54 = .ok (.ifCond .ne 6, 3) := by decide +kernel
theorem dX11_holdsForce_57 : decode cX11_holdsForce 57 = .ok (.goto 36, 3) := by decide +kernel
theorem dX11_holdsForce_60 : decode cX11_holdsForce 60 = .ok (.iload 4, 2) := by decide +kernel
theorem dX11_holdsForce_62 : decode cX11_holdsForce 62 = .ok (.aload_n 0, 1) := by decide +kernel
theorem dX11_holdsForce_63 : decode cX11_holdsForce 63 = .ok (.getfield 242, 3) := by decide +kernel
theorem dX11_holdsForce_66 : decode cX11_holdsForce 66 = .ok (.iload 6, 2) := by decide +kernel
theorem dX11_holdsForce_68 : decode cX11_holdsForce 68 = .ok (.iaload, 1) := by decide +kernel
theorem dX11_holdsForce_69 : decode cX11_holdsForce 69 = .ok (.iadd, 1) := by decide +kernel
theorem dX11_holdsForce_70 : decode cX11_holdsForce 70 = .ok (.istore 4, 2) := by decide +kernel
theorem dX11_holdsForce_72 : decode cX11_holdsForce 72 = .ok (.aload_n 0, 1) := by decide +kernel
theorem dX11_holdsForce_73 : decode cX11_holdsForce 73 = .ok (.getfield 242, 3) := by decide +kernel
theorem dX11_holdsForce_76 : decode cX11_holdsForce 76 = .ok (.iload 6, 2) := by decide +kernel
theorem dX11_holdsForce_78 : decode cX11_holdsForce 78 = .ok (.iaload, 1) := by decide +kernel
theorem dX11_holdsForce_79 : decode cX11_holdsForce 79 = .ok (.iload 5, 2) := by decide +kernel
theorem dX11_holdsForce_81 : decode cX11_holdsForce 81 = .ok (.if_icmp .le 12, 3) := by decide +kernel
theorem dX11_holdsForce_84 : decode cX11_holdsForce 84 = .ok (.aload_n 0, 1) := by decide +kernel
theorem dX11_holdsForce_85 : decode cX11_holdsForce 85 = .ok (.getfield 242, 3) := by decide +kernel
theorem dX11_holdsForce_88 : decode cX11_holdsForce 88 = .ok (.iload 6, 2) := by decide +kernel
theorem dX11_holdsForce_90 : decode cX11_holdsForce 90 = .ok (.iaload, 1) := by decide +kernel
theorem dX11_holdsForce_91 : decode cX11_holdsForce 91 = .ok (.istore 5, 2) := by decide +kernel
theorem dX11_holdsForce_93 : decode cX11_holdsForce 93 = .ok (.iinc 6 1, 3) := by decide +kernel
theorem dX11_holdsForce_96 : decode cX11_holdsForce 96 = .ok (.goto (-87), 3) := by decide +kernel
theorem dX11_holdsForce_99 : decode cX11_holdsForce 99 = .ok (.iload 4, 2) := by decide +kernel
theorem dX11_holdsForce_101 : decode cX11_holdsForce 101 = .ok (.iload 5, 2) := by decide +kernel
theorem dX11_holdsForce_103 : decode cX11_holdsForce 103 = .ok (.isub, 1) := by decide +kernel
theorem dX11_holdsForce_104 : decode cX11_holdsForce 104 = .ok (.aload_n 0, 1) := by decide +kernel
theorem dX11_holdsForce_105 : decode cX11_holdsForce 105 = .ok (.getfield 251, 3) := by decide +kernel
theorem dX11_holdsForce_108 : decode cX11_holdsForce 108 = .ok (.iload_n 2, 1) := by decide +kernel
theorem dX11_holdsForce_109 : decode cX11_holdsForce 109 = .ok (.iaload, 1) := by decide +kernel
theorem dX11_holdsForce_110 : decode cX11_holdsForce 110 = .ok (.if_icmp .lt 7, 3) := by decide +kernel
theorem dX11_holdsForce_113 : decode cX11_holdsForce 113 = .ok (.iconst 1, 1) := by decide +kernel
theorem dX11_holdsForce_114 : decode cX11_holdsForce 114 = .ok (.goto 4, 3) := by decide +kernel
theorem dX11_holdsForce_117 : decode cX11_holdsForce 117 = .ok (.iconst 0, 1) := by decide +kernel
theorem dX11_holdsForce_118 : decode cX11_holdsForce 118 = .ok (.ireturn, 1) := by decide +kernel
theorem dX11_isFirst_0 : decode cX11_isFirst 0 = .ok (.iload_n 0, 1) := by decide +kernel
theorem dX11_isFirst_1 : decode cX11_isFirst 1 = .ok (.iload_n 1, 1) := by decide +kernel
theorem dX11_isFirst_2 : decode cX11_isFirst 2 = .ok (.ixor, 1) := by decide +kernel
theorem dX11_isFirst_3 : decode cX11_isFirst 3 = .ok (.istore_n 2, 1) := by decide +kernel
theorem dX11_isFirst_4 : decode cX11_isFirst 4 = .ok (.iload_n 2, 1) := by decide +kernel
theorem dX11_isFirst_5 : decode cX11_isFirst 5 = .ok (.ifCond .eq 16, 3) := by decide +kernel
theorem dX11_isFirst_8 : decode cX11_isFirst 8 = .ok (.iload_n 0, 1) := by decide +kernel
theorem dX11_isFirst_9 : decode cX11_isFirst 9 = .ok (.iload_n 2, 1) := by decide +kernel
theorem dX11_isFirst_10 : decode cX11_isFirst 10 = .ok (.iand, 1) := by decide +kernel
theorem dX11_isFirst_11 : decode cX11_isFirst 11 = .ok (.iload_n 2, 1) := by decide +kernel
theorem dX11_isFirst_12 : decode cX11_isFirst 12 = .ok (.ineg, 1) := by decide +kernel
theorem dX11_isFirst_13 : decode cX11_isFirst 13 = .ok (.iand, 1) := by decide +kernel
theorem dX11_isFirst_14 : decode cX11_isFirst 14 = .ok (.ifCond .eq 7, 3) := by decide +kernel
theorem dX11_isFirst_17 : decode cX11_isFirst 17 = .ok (.iconst 1, 1) := by decide +kernel
theorem dX11_isFirst_18 : decode cX11_isFirst 18 = .ok (.goto 4, 3) := by decide +kernel
theorem dX11_isFirst_21 : decode cX11_isFirst 21 = .ok (.iconst 0, 1) := by decide +kernel
theorem dX11_isFirst_22 : decode cX11_isFirst 22 = .ok (.ireturn, 1) := by decide +kernel
theorem dX11_bitsOf_0 : decode cX11_bitsOf 0 = .ok (.iconst 0, 1) := by decide +kernel
theorem dX11_bitsOf_1 : decode cX11_bitsOf 1 = .ok (.istore_n 1, 1) := by decide +kernel
theorem dX11_bitsOf_2 : decode cX11_bitsOf 2 = .ok (.iconst 0, 1) := by decide +kernel
theorem dX11_bitsOf_3 : decode cX11_bitsOf 3 = .ok (.istore_n 2, 1) := by decide +kernel
theorem dX11_bitsOf_4 : decode cX11_bitsOf 4 = .ok (.iload_n 2, 1) := by decide +kernel
theorem dX11_bitsOf_5 : decode cX11_bitsOf 5 = .ok (.bipush 12, 2) := by decide +kernel
theorem dX11_bitsOf_7 : decode cX11_bitsOf 7 = .ok (.if_icmp .ge 17, 3) := by decide +kernel
theorem dX11_bitsOf_10 : decode cX11_bitsOf 10 = .ok (.iload_n 1, 1) := by decide +kernel
theorem dX11_bitsOf_11 : decode cX11_bitsOf 11 = .ok (.iload_n 0, 1) := by decide +kernel
theorem dX11_bitsOf_12 : decode cX11_bitsOf 12 = .ok (.iload_n 2, 1) := by decide +kernel
theorem dX11_bitsOf_13 : decode cX11_bitsOf 13 = .ok (.ishr, 1) := by decide +kernel
theorem dX11_bitsOf_14 : decode cX11_bitsOf 14 = .ok (.iconst 1, 1) := by decide +kernel
theorem dX11_bitsOf_15 : decode cX11_bitsOf 15 = .ok (.iand, 1) := by decide +kernel
theorem dX11_bitsOf_16 : decode cX11_bitsOf 16 = .ok (.iadd, 1) := by decide +kernel
theorem dX11_bitsOf_17 : decode cX11_bitsOf 17 = .ok (.istore_n 1, 1) := by decide +kernel
theorem dX11_bitsOf_18 : decode cX11_bitsOf 18 = .ok (.iinc 2 1, 3) := by decide +kernel
theorem dX11_bitsOf_21 : decode cX11_bitsOf 21 = .ok (.goto (-17), 3) := by decide +kernel
theorem dX11_bitsOf_24 : decode cX11_bitsOf 24 = .ok (.iload_n 1, 1) := by decide +kernel
theorem dX11_bitsOf_25 : decode cX11_bitsOf 25 = .ok (.ireturn, 1) := by decide +kernel
theorem dX11_choose_0 : decode cX11_choose 0 = .ok (.iload_n 1, 1) := by decide +kernel
theorem dX11_choose_1 : decode cX11_choose 1 = .ok (.i2l, 1) := by decide +kernel
theorem dX11_choose_2 : decode cX11_choose 2 = .ok (.lconst 0, 1) := by decide +kernel
theorem dX11_choose_3 : decode cX11_choose 3 = .ok (.ldc2_w 425, 3) := by decide +kernel
theorem dX11_choose_6 : decode cX11_choose 6 = .ok (.invokestatic 300, 3) := by decide +kernel
theorem dX11_choose_9 : decode cX11_choose 9 = .ok (.ifCond .eq 15, 3) := by decide +kernel
theorem dX11_choose_12 : decode cX11_choose 12 = .ok (.iload_n 2, 1) := by decide +kernel
theorem dX11_choose_13 : decode cX11_choose 13 = .ok (.i2l, 1) := by decide +kernel
theorem dX11_choose_14 : decode cX11_choose 14 = .ok (.lconst 0, 1) := by decide +kernel
theorem dX11_choose_15 : decode cX11_choose 15 = .ok (.ldc2_w 562, 3) := by decide +kernel
theorem dX11_choose_18 : decode cX11_choose 18 = .ok (.invokestatic 300, 3) := by decide +kernel
theorem dX11_choose_21 : decode cX11_choose 21 = .ok (.ifCond .ne 5, 3) := by decide +kernel
theorem dX11_choose_24 : decode cX11_choose 24 = .ok (.iconst (-1), 1) := by decide +kernel
theorem dX11_choose_25 : decode cX11_choose 25 = .ok (.ireturn, 1) := by decide +kernel
theorem dX11_choose_26 : decode cX11_choose 26 = .ok (.iconst (-1), 1) := by decide +kernel
theorem dX11_choose_27 : decode cX11_choose 27 = .ok (.istore_n 3, 1) := by decide +kernel
theorem dX11_choose_28 : decode cX11_choose 28 = .ok (.iconst 0, 1) := by decide +kernel
theorem dX11_choose_29 : decode cX11_choose 29 = .ok (.istore 4, 2) := by decide +kernel
theorem dX11_choose_31 : decode cX11_choose 31 = .ok (.iconst 0, 1) := by decide +kernel
theorem dX11_choose_32 : decode cX11_choose 32 = .ok (.istore 5, 2) := by decide +kernel
theorem dX11_choose_34 : decode cX11_choose 34 = .ok (.iload 5, 2) := by decide +kernel
theorem dX11_choose_36 : decode cX11_choose 36 = .ok (.iconst 1, 1) := by decide +kernel
theorem dX11_choose_37 : decode cX11_choose 37 = .ok (.aload_n 0, 1) := by decide +kernel
theorem dX11_choose_38 : decode cX11_choose 38 = .ok (.getfield 554, 3) := by decide +kernel
theorem dX11_choose_41 : decode cX11_choose 41 = .ok (.ishl, 1) := by decide +kernel
theorem dX11_choose_42 : decode cX11_choose 42 = .ok (.if_icmp .ge 190, 3) := by decide +kernel
theorem dX11_choose_45 : decode cX11_choose 45 = .ok (.iconst 0, 1) := by decide +kernel
theorem dX11_choose_46 : decode cX11_choose 46 = .ok (.istore 6, 2) := by decide +kernel
theorem dX11_choose_48 : decode cX11_choose 48 = .ok (.iconst 0, 1) := by decide +kernel
theorem dX11_choose_49 : decode cX11_choose 49 = .ok (.istore 7, 2) := by decide +kernel
theorem dX11_choose_51 : decode cX11_choose 51 = .ok (.iconst 0, 1) := by decide +kernel
theorem dX11_choose_52 : decode cX11_choose 52 = .ok (.istore 8, 2) := by decide +kernel
theorem dX11_choose_54 : decode cX11_choose 54 = .ok (.iload 8, 2) := by decide +kernel
theorem dX11_choose_56 : decode cX11_choose 56 = .ok (.aload_n 0, 1) := by decide +kernel
theorem dX11_choose_57 : decode cX11_choose 57 = .ok (.getfield 554, 3) := by decide +kernel
theorem dX11_choose_60 : decode cX11_choose 60 = .ok (.if_icmp .ge 49, 3) := by decide +kernel
theorem dX11_choose_63 : decode cX11_choose 63 = .ok (.iload 6, 2) := by decide +kernel
theorem dX11_choose_65 : decode cX11_choose 65 = .ok (.iload 5, 2) := by decide +kernel
theorem dX11_choose_67 : decode cX11_choose 67 = .ok (.iload 8, 2) := by decide +kernel
theorem dX11_choose_69 : decode cX11_choose 69 = .ok (.ishr, 1) := by decide +kernel
theorem dX11_choose_70 : decode cX11_choose 70 = .ok (.iconst 1, 1) := by decide +kernel
theorem dX11_choose_71 : decode cX11_choose 71 = .ok (.iand, 1) := by decide +kernel
theorem dX11_choose_72 : decode cX11_choose 72 = .ok (.aload_n 0, 1) := by decide +kernel
theorem dX11_choose_73 : decode cX11_choose 73 = .ok (.getfield 245, 3) := by decide +kernel
theorem dX11_choose_76 : decode cX11_choose 76 = .ok (.iload 8, 2) := by decide +kernel
theorem dX11_choose_78 : decode cX11_choose 78 = .ok (.iaload, 1) := by decide +kernel
theorem dX11_choose_79 : decode cX11_choose 79 = .ok (.imul, 1) := by decide +kernel
theorem dX11_choose_80 : decode cX11_choose 80 = .ok (.iadd, 1) := by decide +kernel
theorem dX11_choose_81 : decode cX11_choose 81 = .ok (.istore 6, 2) := by decide +kernel
theorem dX11_choose_83 : decode cX11_choose 83 = .ok (.iload 7, 2) := by decide +kernel
theorem dX11_choose_85 : decode cX11_choose 85 = .ok (.iload 5, 2) := by decide +kernel
theorem dX11_choose_87 : decode cX11_choose 87 = .ok (.iload 8, 2) := by decide +kernel
theorem dX11_choose_89 : decode cX11_choose 89 = .ok (.ishr, 1) := by decide +kernel
theorem dX11_choose_90 : decode cX11_choose 90 = .ok (.iconst 1, 1) := by decide +kernel
theorem dX11_choose_91 : decode cX11_choose 91 = .ok (.iand, 1) := by decide +kernel
theorem dX11_choose_92 : decode cX11_choose 92 = .ok (.aload_n 0, 1) := by decide +kernel
theorem dX11_choose_93 : decode cX11_choose 93 = .ok (.getfield 242, 3) := by decide +kernel
theorem dX11_choose_96 : decode cX11_choose 96 = .ok (.iload 8, 2) := by decide +kernel
theorem dX11_choose_98 : decode cX11_choose 98 = .ok (.iaload, 1) := by decide +kernel
theorem dX11_choose_99 : decode cX11_choose 99 = .ok (.imul, 1) := by decide +kernel
theorem dX11_choose_100 : decode cX11_choose 100 = .ok (.iadd, 1) := by decide +kernel
theorem dX11_choose_101 : decode cX11_choose 101 = .ok (.istore 7, 2) := by decide +kernel
theorem dX11_choose_103 : decode cX11_choose 103 = .ok (.iinc 8 1, 3) := by decide +kernel
theorem dX11_choose_106 : decode cX11_choose 106 = .ok (.goto (-52), 3) := by decide +kernel
theorem dX11_choose_109 : decode cX11_choose 109 = .ok (.iload 7, 2) := by decide +kernel
theorem dX11_choose_111 : decode cX11_choose 111 = .ok (.iload_n 2, 1) := by decide +kernel
theorem dX11_choose_112 : decode cX11_choose 112 = .ok (.if_icmp .gt 7, 3) := by decide +kernel
theorem dX11_choose_115 : decode cX11_choose 115 = .ok (.iconst 1, 1) := by decide +kernel
theorem dX11_choose_116 : decode cX11_choose 116 = .ok (.goto 4, 3) := by decide +kernel
theorem dX11_choose_119 : decode cX11_choose 119 = .ok (.iconst 0, 1) := by decide +kernel
theorem dX11_choose_120 : decode cX11_choose 120 = .ok (.istore 8, 2) := by decide +kernel
theorem dX11_choose_122 : decode cX11_choose 122 = .ok (.iconst 0, 1) := by decide +kernel
theorem dX11_choose_123 : decode cX11_choose 123 = .ok (.istore 9, 2) := by decide +kernel
theorem dX11_choose_125 : decode cX11_choose 125 = .ok (.iload 9, 2) := by decide +kernel
theorem dX11_choose_127 : decode cX11_choose 127 = .ok (.aload_n 0, 1) := by decide +kernel
theorem dX11_choose_128 : decode cX11_choose 128 = .ok (.getfield 559, 3) := by decide +kernel
theorem dX11_choose_131 : decode cX11_choose 131 = .ok (.if_icmp .ge 25, 3) := by decide +kernel
theorem dX11_choose_134 : decode cX11_choose 134 = .ok (.iload 8, 2) := by decide +kernel
theorem dX11_choose_136 : decode cX11_choose 136 = .ok (.ifCond .eq 20, 3) := by decide +kernel
theorem dX11_choose_139 : decode cX11_choose 139 = .ok (.aload_n 0, 1) := by decide +kernel
theorem dX11_choose_140 : decode cX11_choose 140 = .ok (.iload 5, 2) := by decide +kernel
theorem dX11_choose_142 : decode cX11_choose 142 = .ok (.iload 9, 2) := by decide +kernel
theorem dX11_choose_144 : decode cX11_choose 144 = .ok (.iload_n 1, 1) := by decide +kernel
theorem dX11_choose_145 : decode cX11_choose 145 = .ok (.invokevirtual 564, 3) := by decide +kernel
theorem dX11_choose_148 : decode cX11_choose 148 = .ok (.istore 8, 2) := by decide +kernel
theorem dX11_choose_150 : decode cX11_choose 150 = .ok (.iinc 9 1, 3) := by decide +kernel
theorem dX11_choose_153 : decode cX11_choose 153 = .ok (.goto (-28), 3) := by decide +kernel
theorem dX11_choose_156 : decode cX11_choose 156 = .ok (.iload 8, 2) := by decide +kernel
theorem dX11_choose_158 : decode cX11_choose 158 = .ok (.ifCond .ne 6, 3) := by decide +kernel
theorem dX11_choose_161 : decode cX11_choose 161 = .ok (.goto 65, 3) := by decide +kernel
theorem dX11_choose_164 : decode cX11_choose 164 = .ok (.iload_n 3, 1) := by decide +kernel
theorem dX11_choose_165 : decode cX11_choose 165 = .ok (.iconst (-1), 1) := by decide +kernel
theorem dX11_choose_166 : decode cX11_choose 166 = .ok (.if_icmp .eq 53, 3) := by decide +kernel
theorem dX11_choose_169 : decode cX11_choose 169 = .ok (.iload 6, 2) := by decide +kernel
theorem dX11_choose_171 : decode cX11_choose 171 = .ok (.iload 4, 2) := by decide +kernel
theorem dX11_choose_173 : decode cX11_choose 173 = .ok (.if_icmp .gt 53, 3) := by decide +kernel
theorem dX11_choose_176 : decode cX11_choose 176 = .ok (.iload 6, 2) := by decide +kernel
theorem dX11_choose_178 : decode cX11_choose 178 = .ok (.iload 4, 2) := by decide +kernel
theorem dX11_choose_180 : decode cX11_choose 180 = .ok (.if_icmp .ne 39, 3) := by decide +kernel
theorem dX11_choose_183 : decode cX11_choose 183 = .ok (.iload 5, 2) := by decide +kernel
theorem dX11_choose_185 : decode cX11_choose 185 = .ok (.invokestatic 568, 3) := by decide +kernel
theorem dX11_choose_188 : decode cX11_choose 188 = .ok (.iload_n 3, 1) := by decide +kernel
theorem dX11_choose_189 : decode cX11_choose 189 = .ok (.invokestatic 568, 3) := by decide +kernel
theorem dX11_choose_192 : decode cX11_choose 192 = .ok (.if_icmp .gt 34, 3) := by decide +kernel
theorem dX11_choose_195 : decode cX11_choose 195 = .ok (.iload 5, 2) := by decide +kernel
theorem dX11_choose_197 : decode cX11_choose 197 = .ok (.invokestatic 568, 3) := by decide +kernel
theorem dX11_choose_200 : decode cX11_choose 200 = .ok (.iload_n 3, 1) := by decide +kernel
theorem dX11_choose_201 : decode cX11_choose 201 = .ok (.invokestatic 568, 3) := by decide +kernel
theorem dX11_choose_204 : decode cX11_choose 204 = .ok (.if_icmp .ne 15, 3) := by decide +kernel
theorem dX11_choose_207 : decode cX11_choose 207 = .ok (.iload 5, 2) := by decide +kernel
theorem dX11_choose_209 : decode cX11_choose 209 = .ok (.iload_n 3, 1) := by decide +kernel
theorem dX11_choose_210 : decode cX11_choose 210 = .ok (.invokestatic 571, 3) := by decide +kernel
theorem dX11_choose_213 : decode cX11_choose 213 = .ok (.ifCond .ne 6, 3) := by decide +kernel
theorem dX11_choose_216 : decode cX11_choose 216 = .ok (.goto 10, 3) := by decide +kernel
theorem dX11_choose_219 : decode cX11_choose 219 = .ok (.iload 5, 2) := by decide +kernel
theorem dX11_choose_221 : decode cX11_choose 221 = .ok (.istore_n 3, 1) := by decide +kernel
theorem dX11_choose_222 : decode cX11_choose 222 = .ok (.iload 6, 2) := by decide +kernel
theorem dX11_choose_224 : decode cX11_choose 224 = .ok (.istore 4, 2) := by decide +kernel
theorem dX11_choose_226 : decode cX11_choose 226 = .ok (.iinc 5 1, 3) := by decide +kernel
theorem dX11_choose_229 : decode cX11_choose 229 = .ok (.goto (-195), 3) := by decide +kernel
theorem dX11_choose_232 : decode cX11_choose 232 = .ok (.iload_n 3, 1) := by decide +kernel
theorem dX11_choose_233 : decode cX11_choose 233 = .ok (.iconst (-1), 1) := by decide +kernel
theorem dX11_choose_234 : decode cX11_choose 234 = .ok (.if_icmp .ne 5, 3) := by decide +kernel
theorem dX11_choose_237 : decode cX11_choose 237 = .ok (.iconst (-1), 1) := by decide +kernel
theorem dX11_choose_238 : decode cX11_choose 238 = .ok (.ireturn, 1) := by decide +kernel
