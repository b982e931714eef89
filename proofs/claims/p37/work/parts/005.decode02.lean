theorem dX7_mayOpen_18 : decode cX7_mayOpen 18 = .ok (.ireturn, 1) := by decide +kernel
theorem dX7_numberFor_0 : decode cX7_numberFor 0 = .ok (.iconst 0, 1) := by decide +kernel
theorem dX7_numberFor_1 : decode cX7_numberFor 1 = .ok (.istore_n 2, 1) := by decide +kernel
theorem dX7_numberFor_2 : decode cX7_numberFor 2 = .ok (.aload_n 0, 1) := by decide +kernel
theorem dX7_numberFor_3 : decode cX7_numberFor 3 = .ok (.getfield 31, 3) := by decide +kernel
theorem dX7_numberFor_6 : decode cX7_numberFor 6 = .ok (.iconst 2, 1) := by decide +kernel
theorem dX7_numberFor_7 : decode cX7_numberFor 7 = .ok (.if_icmp .ne 11, 3) := by decide +kernel
theorem dX7_numberFor_10 : decode cX7_numberFor 10 = .ok (.aload_n 0, 1) := by decide +kernel
theorem dX7_numberFor_11 : decode cX7_numberFor 11 = .ok (.invokevirtual 149, 3) := by decide +kernel
theorem dX7_numberFor_14 : decode cX7_numberFor 14 = .ok (.istore_n 2, 1) := by decide +kernel
theorem dX7_numberFor_15 : decode cX7_numberFor 15 = .ok (.goto 12, 3) := by decide +kernel
theorem dX7_numberFor_18 : decode cX7_numberFor 18 = .ok (.aload_n 0, 1) := by decide +kernel
theorem dX7_numberFor_19 : decode cX7_numberFor 19 = .ok (.iconst 1, 1) := by decide +kernel
theorem dX7_numberFor_20 : decode cX7_numberFor 20 = .ok (.aload_n 0, 1) := by decide +kernel
theorem dX7_numberFor_21 : decode cX7_numberFor 21 = .ok (.getfield 40, 3) := by decide +kernel
theorem dX7_numberFor_24 : decode cX7_numberFor 24 = .ok (.invokevirtual 43, 3) := by decide +kernel
theorem dX7_numberFor_27 : decode cX7_numberFor 27 = .ok (.iload_n 2, 1) := by decide +kernel
theorem dX7_numberFor_28 : decode cX7_numberFor 28 = .ok (.iload_n 1, 1) := by decide +kernel
theorem dX7_numberFor_29 : decode cX7_numberFor 29 = .ok (.invokestatic 155, 3) := by decide +kernel
theorem dX7_numberFor_32 : decode cX7_numberFor 32 = .ok (.if_icmp .lt 11, 3) := by decide +kernel
theorem dX7_numberFor_35 : decode cX7_numberFor 35 = .ok (.iload_n 2, 1) := by decide +kernel
theorem dX7_numberFor_36 : decode cX7_numberFor 36 = .ok (.iload_n 1, 1) := by decide +kernel
theorem dX7_numberFor_37 : decode cX7_numberFor 37 = .ok (.invokestatic 158, 3) := by decide +kernel
theorem dX7_numberFor_40 : decode cX7_numberFor 40 = .ok (.if_icmp .le 12, 3) := by decide +kernel
theorem dX7_numberFor_43 : decode cX7_numberFor 43 = .ok (.aload_n 0, 1) := by decide +kernel
theorem dX7_numberFor_44 : decode cX7_numberFor 44 = .ok (.iconst 2, 1) := by decide +kernel
theorem dX7_numberFor_45 : decode cX7_numberFor 45 = .ok (.aload_n 0, 1) := by decide +kernel
theorem dX7_numberFor_46 : decode cX7_numberFor 46 = .ok (.getfield 40, 3) := by decide +kernel
theorem dX7_numberFor_49 : decode cX7_numberFor 49 = .ok (.invokevirtual 43, 3) := by decide +kernel
theorem dX7_numberFor_52 : decode cX7_numberFor 52 = .ok (.iload_n 2, 1) := by decide +kernel
theorem dX7_numberFor_53 : decode cX7_numberFor 53 = .ok (.ireturn, 1) := by decide +kernel
theorem dX7_leastFor_0 : decode cX7_leastFor 0 = .ok (.iload_n 0, 1) := by decide +kernel
theorem dX7_leastFor_1 : decode cX7_leastFor 1 = .ok (.iconst 2, 1) := by decide +kernel
theorem dX7_leastFor_2 : decode cX7_leastFor 2 = .ok (.if_icmp .ne 7, 3) := by decide +kernel
theorem dX7_leastFor_5 : decode cX7_leastFor 5 = .ok (.iconst 0, 1) := by decide +kernel
theorem dX7_leastFor_6 : decode cX7_leastFor 6 = .ok (.goto 4, 3) := by decide +kernel
theorem dX7_leastFor_9 : decode cX7_leastFor 9 = .ok (.iconst 1, 1) := by decide +kernel
theorem dX7_leastFor_10 : decode cX7_leastFor 10 = .ok (.ireturn, 1) := by decide +kernel
theorem dX7_mostFor_0 : decode cX7_mostFor 0 = .ok (.iload_n 0, 1) := by decide +kernel
theorem dX7_mostFor_1 : decode cX7_mostFor 1 = .ok (.ifCond .ne 7, 3) := by decide +kernel
theorem dX7_mostFor_4 : decode cX7_mostFor 4 = .ok (.sipush 999, 3) := by decide +kernel
theorem dX7_mostFor_7 : decode cX7_mostFor 7 = .ok (.ireturn, 1) := by decide +kernel
theorem dX7_mostFor_8 : decode cX7_mostFor 8 = .ok (.iload_n 0, 1) := by decide +kernel
theorem dX7_mostFor_9 : decode cX7_mostFor 9 = .ok (.iconst 2, 1) := by decide +kernel
theorem dX7_mostFor_10 : decode cX7_mostFor 10 = .ok (.if_icmp .ne 9, 3) := by decide +kernel
theorem dX7_mostFor_13 : decode cX7_mostFor 13 = .ok (.sipush 1000, 3) := by decide +kernel
theorem dX7_mostFor_16 : decode cX7_mostFor 16 = .ok (.goto 6, 3) := by decide +kernel
theorem dX7_mostFor_19 : decode cX7_mostFor 19 = .ok (.sipush 9999, 3) := by decide +kernel
theorem dX7_mostFor_22 : decode cX7_mostFor 22 = .ok (.ireturn, 1) := by decide +kernel
theorem dX7_numeralHere_0 : decode cX7_numeralHere 0 = .ok (.aload_n 0, 1) := by decide +kernel
theorem dX7_numeralHere_1 : decode cX7_numeralHere 1 = .ok (.getfield 34, 3) := by decide +kernel
theorem dX7_numeralHere_4 : decode cX7_numeralHere 4 = .ok (.aload_n 0, 1) := by decide +kernel
theorem dX7_numeralHere_5 : decode cX7_numeralHere 5 = .ok (.getfield 40, 3) := by decide +kernel
theorem dX7_numeralHere_8 : decode cX7_numeralHere 8 = .ok (.isub, 1) := by decide +kernel
theorem dX7_numeralHere_9 : decode cX7_numeralHere 9 = .ok (.iconst 4, 1) := by decide +kernel
theorem dX7_numeralHere_10 : decode cX7_numeralHere 10 = .ok (.if_icmp .le 16, 3) := by decide +kernel
theorem dX7_numeralHere_13 : decode cX7_numeralHere 13 = .ok (.aload_n 0, 1) := by decide +kernel
theorem dX7_numeralHere_14 : decode cX7_numeralHere 14 = .ok (.iconst 1, 1) := by decide +kernel
theorem dX7_numeralHere_15 : decode cX7_numeralHere 15 = .ok (.aload_n 0, 1) := by decide +kernel
theorem dX7_numeralHere_16 : decode cX7_numeralHere 16 = .ok (.getfield 40, 3) := by decide +kernel
theorem dX7_numeralHere_19 : decode cX7_numeralHere 19 = .ok (.iconst 4, 1) := by decide +kernel
theorem dX7_numeralHere_20 : decode cX7_numeralHere 20 = .ok (.iadd, 1) := by decide +kernel
theorem dX7_numeralHere_21 : decode cX7_numeralHere 21 = .ok (.invokevirtual 43, 3) := by decide +kernel
theorem dX7_numeralHere_24 : decode cX7_numeralHere 24 = .ok (.iconst 0, 1) := by decide +kernel
theorem dX7_numeralHere_25 : decode cX7_numeralHere 25 = .ok (.ireturn, 1) := by decide +kernel
theorem dX7_numeralHere_26 : decode cX7_numeralHere 26 = .ok (.iconst 0, 1) := by decide +kernel
theorem dX7_numeralHere_27 : decode cX7_numeralHere 27 = .ok (.istore_n 1, 1) := by decide +kernel
theorem dX7_numeralHere_28 : decode cX7_numeralHere 28 = .ok (.aload_n 0, 1) := by decide +kernel
theorem dX7_numeralHere_29 : decode cX7_numeralHere 29 = .ok (.getfield 40, 3) := by decide +kernel
theorem dX7_numeralHere_32 : decode cX7_numeralHere 32 = .ok (.istore_n 2, 1) := by decide +kernel
theorem dX7_numeralHere_33 : decode cX7_numeralHere 33 = .ok (.iload_n 2, 1) := by decide +kernel
theorem dX7_numeralHere_34 : decode cX7_numeralHere 34 = .ok (.aload_n 0, 1) := by decide +kernel
theorem dX7_numeralHere_35 : decode cX7_numeralHere 35 = .ok (.getfield 34, 3) := by decide +kernel
theorem dX7_numeralHere_38 : decode cX7_numeralHere 38 = .ok (.if_icmp .ge 26, 3) := by decide +kernel
theorem dX7_numeralHere_41 : decode cX7_numeralHere 41 = .ok (.iload_n 1, 1) := by decide +kernel
theorem dX7_numeralHere_42 : decode cX7_numeralHere 42 = .ok (.bipush 10, 2) := by decide +kernel
theorem dX7_numeralHere_44 : decode cX7_numeralHere 44 = .ok (.imul, 1) := by decide +kernel
theorem dX7_numeralHere_45 : decode cX7_numeralHere 45 = .ok (.aload_n 0, 1) := by decide +kernel
theorem dX7_numeralHere_46 : decode cX7_numeralHere 46 = .ok (.getfield 18, 3) := by decide +kernel
theorem dX7_numeralHere_49 : decode cX7_numeralHere 49 = .ok (.iload_n 2, 1) := by decide +kernel
theorem dX7_numeralHere_50 : decode cX7_numeralHere 50 = .ok (.invokevirtual 161, 3) := by decide +kernel
theorem dX7_numeralHere_53 : decode cX7_numeralHere 53 = .ok (.iadd, 1) := by decide +kernel
theorem dX7_numeralHere_54 : decode cX7_numeralHere 54 = .ok (.bipush 48, 2) := by decide +kernel
theorem dX7_numeralHere_56 : decode cX7_numeralHere 56 = .ok (.isub, 1) := by decide +kernel
theorem dX7_numeralHere_57 : decode cX7_numeralHere 57 = .ok (.istore_n 1, 1) := by decide +kernel
theorem dX7_numeralHere_58 : decode cX7_numeralHere 58 = .ok (.iinc 2 1, 3) := by decide +kernel
theorem dX7_numeralHere_61 : decode cX7_numeralHere 61 = .ok (.goto (-28), 3) := by decide +kernel
theorem dX7_numeralHere_64 : decode cX7_numeralHere 64 = .ok (.iload_n 1, 1) := by decide +kernel
theorem dX7_numeralHere_65 : decode cX7_numeralHere 65 = .ok (.ireturn, 1) := by decide +kernel
theorem dX7_nameHere_0 : decode cX7_nameHere 0 = .ok (.aload_n 0, 1) := by decide +kernel
theorem dX7_nameHere_1 : decode cX7_nameHere 1 = .ok (.getfield 31, 3) := by decide +kernel
theorem dX7_nameHere_4 : decode cX7_nameHere 4 = .ok (.iconst 1, 1) := by decide +kernel
theorem dX7_nameHere_5 : decode cX7_nameHere 5 = .ok (.if_icmp .ne 11, 3) := by decide +kernel
theorem dX7_nameHere_8 : decode cX7_nameHere 8 = .ok (.aload_n 0, 1) := by decide +kernel
theorem dX7_nameHere_9 : decode cX7_nameHere 9 = .ok (.getfield 93, 3) := by decide +kernel
theorem dX7_nameHere_12 : decode cX7_nameHere 12 = .ok (.iconst (-1), 1) := by decide +kernel
theorem dX7_nameHere_13 : decode cX7_nameHere 13 = .ok (.if_icmp .eq 16, 3) := by decide +kernel
theorem dX7_nameHere_16 : decode cX7_nameHere 16 = .ok (.aload_n 0, 1) := by decide +kernel
theorem dX7_nameHere_17 : decode cX7_nameHere 17 = .ok (.iconst 1, 1) := by decide +kernel
theorem dX7_nameHere_18 : decode cX7_nameHere 18 = .ok (.aload_n 0, 1) := by decide +kernel
theorem dX7_nameHere_19 : decode cX7_nameHere 19 = .ok (.getfield 40, 3) := by decide +kernel
theorem dX7_nameHere_22 : decode cX7_nameHere 22 = .ok (.invokevirtual 43, 3) := by decide +kernel
theorem dX7_nameHere_25 : decode cX7_nameHere 25 = .ok (.ldc2_w 164, 3) := by decide +kernel
theorem dX7_nameHere_28 : decode cX7_nameHere 28 = .ok (.lreturn, 1) := by decide +kernel
theorem dX7_nameHere_29 : decode cX7_nameHere 29 = .ok (.aload_n 0, 1) := by decide +kernel
theorem dX7_nameHere_30 : decode cX7_nameHere 30 = .ok (.getfield 34, 3) := by decide +kernel
theorem dX7_nameHere_33 : decode cX7_nameHere 33 = .ok (.aload_n 0, 1) := by decide +kernel
theorem dX7_nameHere_34 : decode cX7_nameHere 34 = .ok (.getfield 40, 3) := by decide +kernel
theorem dX7_nameHere_37 : decode cX7_nameHere 37 = .ok (.isub, 1) := by decide +kernel
theorem dX7_nameHere_38 : decode cX7_nameHere 38 = .ok (.bipush 6, 2) := by decide +kernel
theorem dX7_nameHere_40 : decode cX7_nameHere 40 = .ok (.if_icmp .le 19, 3) := by decide +kernel
theorem dX7_nameHere_43 : decode cX7_nameHere 43 = .ok (.aload_n 0, 1) := by decide +kernel
theorem dX7_nameHere_44 : decode cX7_nameHere 44 = .ok (.iconst 1, 1) := by decide +kernel
theorem dX7_nameHere_45 : decode cX7_nameHere 45 = .ok (.aload_n 0, 1) := by decide +kernel
theorem dX7_nameHere_46 : decode cX7_nameHere 46 = .ok (.getfield 40, 3) := by decide +kernel
theorem dX7_nameHere_49 : decode cX7_nameHere 49 = .ok (.bipush 6, 2) := by decide +kernel
theorem dX7_nameHere_51 : decode cX7_nameHere 51 = .ok (.iadd, 1) := by decide +kernel
theorem dX7_nameHere_52 : decode cX7_nameHere 52 = .ok (.invokevirtual 43, 3) := by decide +kernel
theorem dX7_nameHere_55 : decode cX7_nameHere 55 = .ok (.ldc2_w 164, 3) := by decide +kernel
theorem dX7_nameHere_58 : decode cX7_nameHere 58 = .ok (.lreturn, 1) := by decide +kernel
theorem dX7_nameHere_59 : decode cX7_nameHere 59 = .ok (.lconst 0, 1) := by decide +kernel
theorem dX7_nameHere_60 : decode cX7_nameHere 60 = .ok (.lstore_n 1, 1) := by decide +kernel
theorem dX7_nameHere_61 : decode cX7_nameHere 61 = .ok (.aload_n 0, 1) := by decide +kernel
theorem dX7_nameHere_62 : decode cX7_nameHere 62 = .ok (.getfield 40, 3) := by decide +kernel
theorem dX7_nameHere_65 : decode cX7_nameHere 65 = .ok (.istore_n 3, 1) := by decide +kernel
theorem dX7_nameHere_66 : decode cX7_nameHere 66 = .ok (.iload_n 3, 1) := by decide +kernel
theorem dX7_nameHere_67 : decode cX7_nameHere 67 = .ok (.aload_n 0, 1) := by decide +kernel
theorem dX7_nameHere_68 : decode cX7_nameHere 68 = .ok (.getfield 34, 3) := by decide +kernel
theorem dX7_nameHere_71 : decode cX7_nameHere 71 = .ok (.if_icmp .ge 24, 3) := by decide +kernel
theorem dX7_nameHere_74 : decode cX7_nameHere 74 = .ok (.lload_n 1, 1) := by decide +kernel
theorem dX7_nameHere_75 : decode cX7_nameHere 75 = .ok (.bipush 8, 2) := by decide +kernel
theorem dX7_nameHere_77 : decode cX7_nameHere 77 = .ok (.lshl, 1) := by decide +kernel
theorem dX7_nameHere_78 : decode cX7_nameHere 78 = .ok (.aload_n 0, 1) := by decide +kernel
theorem dX7_nameHere_79 : decode cX7_nameHere 79 = .ok (.getfield 18, 3) := by decide +kernel
theorem dX7_nameHere_82 : decode cX7_nameHere 82 = .ok (.iload_n 3, 1) := by decide +kernel
theorem dX7_nameHere_83 : decode cX7_nameHere 83 = .ok (.invokevirtual 161, 3) := by decide +kernel
theorem dX7_nameHere_86 : decode cX7_nameHere 86 = .ok (.i2l, 1) := by decide +kernel
theorem dX7_nameHere_87 : decode cX7_nameHere 87 = .ok (.lor, 1) := by decide +kernel
theorem dX7_nameHere_88 : decode cX7_nameHere 88 = .ok (.lstore_n 1, 1) := by decide +kernel
theorem dX7_nameHere_89 : decode cX7_nameHere 89 = .ok (.iinc 3 1, 3) := by decide +kernel
theorem dX7_nameHere_92 : decode cX7_nameHere 92 = .ok (.goto (-26), 3) := by decide +kernel
theorem dX7_nameHere_95 : decode cX7_nameHere 95 = .ok (.lload_n 1, 1) := by decide +kernel
theorem dX7_nameHere_96 : decode cX7_nameHere 96 = .ok (.lreturn, 1) := by decide +kernel
theorem dX7_isWord_0 : decode cX7_isWord 0 = .ok (.aload_n 0, 1) := by decide +kernel
theorem dX7_isWord_1 : decode cX7_isWord 1 = .ok (.getfield 31, 3) := by decide +kernel
theorem dX7_isWord_4 : decode cX7_isWord 4 = .ok (.iconst 1, 1) := by decide +kernel
theorem dX7_isWord_5 : decode cX7_isWord 5 = .ok (.if_icmp .ne 15, 3) := by decide +kernel
theorem dX7_isWord_8 : decode cX7_isWord 8 = .ok (.aload_n 0, 1) := by decide +kernel
theorem dX7_isWord_9 : decode cX7_isWord 9 = .ok (.getfield 93, 3) := by decide +kernel
theorem dX7_isWord_12 : decode cX7_isWord 12 = .ok (.iload_n 1, 1) := by decide +kernel
theorem dX7_isWord_13 : decode cX7_isWord 13 = .ok (.if_icmp .ne 7, 3) := by decide +kernel
theorem dX7_isWord_16 : decode cX7_isWord 16 = .ok (.iconst 1, 1) := by decide +kernel
theorem dX7_isWord_17 : decode cX7_isWord 17 = .ok (.goto 4, 3) := by decide +kernel
theorem dX7_isWord_20 : decode cX7_isWord 20 = .ok (.iconst 0, 1) := by decide +kernel
theorem dX7_isWord_21 : decode cX7_isWord 21 = .ok (.ireturn, 1) := by decide +kernel
theorem dX7_isSign_0 : decode cX7_isSign 0 = .ok (.aload_n 0, 1) := by decide +kernel
theorem dX7_isSign_1 : decode cX7_isSign 1 = .ok (.getfield 31, 3) := by decide +kernel
theorem dX7_isSign_4 : decode cX7_isSign 4 = .ok (.iconst 3, 1) := by decide +kernel
theorem dX7_isSign_5 : decode cX7_isSign 5 = .ok (.if_icmp .ne 15, 3) := by decide +kernel
theorem dX7_isSign_8 : decode cX7_isSign 8 = .ok (.aload_n 0, 1) := by decide +kernel
theorem dX7_isSign_9 : decode cX7_isSign 9 = .ok (.getfield 93, 3) := by decide +kernel
theorem dX7_isSign_12 : decode cX7_isSign 12 = .ok (.iload_n 1, 1) := by decide +kernel
theorem dX7_isSign_13 : decode cX7_isSign 13 = .ok (.if_icmp .ne 7, 3) := by decide +kernel
theorem dX7_isSign_16 : decode cX7_isSign 16 = .ok (.iconst 1, 1) := by decide +kernel
theorem dX7_isSign_17 : decode cX7_isSign 17 = .ok (.goto 4, 3) := by decide +kernel
theorem dX7_isSign_20 : decode cX7_isSign 20 = .ok (.iconst 0, 1) := by decide +kernel
theorem dX7_isSign_21 : decode cX7_isSign 21 = .ok (.ireturn, 1) := by decide +kernel
theorem dX7_takeWord_0 : decode cX7_takeWord 0 = .ok (.aload_n 0, 1) := by decide +kernel
theorem dX7_takeWord_1 : decode cX7_takeWord 1 = .ok (.iload_n 1, 1) := by decide +kernel
theorem dX7_takeWord_2 : decode cX7_takeWord 2 = .ok (.invokevirtual 47, 3) := by decide +kernel
theorem dX7_takeWord_5 : decode cX7_takeWord 5 = .ok (.ifCond .ne 12, 3) := by decide +kernel
theorem dX7_takeWord_8 : decode cX7_takeWord 8 = .ok (.aload_n 0, 1) := by decide +kernel
theorem dX7_takeWord_9 : decode cX7_takeWord 9 = .ok (.iconst 1, 1) := by decide +kernel
theorem dX7_takeWord_10 : decode cX7_takeWord 10 = .ok (.aload_n 0, 1) := by decide +kernel
theorem dX7_takeWord_11 : decode cX7_takeWord 11 = .ok (.getfield 40, 3) := by decide +kernel
theorem dX7_takeWord_14 : decode cX7_takeWord 14 = .ok (.invokevirtual 43, 3) := by decide +kernel
theorem dX7_takeWord_17 : decode cX7_takeWord 17 = .ok (.aload_n 0, 1) := by decide +kernel
theorem dX7_takeWord_18 : decode cX7_takeWord 18 = .ok (.invokevirtual 37, 3) := by decide +kernel
theorem dX7_takeWord_21 : decode cX7_takeWord 21 = .ok (.return_, 1) := by decide +kernel
theorem dX7_takeSign_0 : decode cX7_takeSign 0 = .ok (.aload_n 0, 1) := by decide +kernel
theorem dX7_takeSign_1 : decode cX7_takeSign 1 = .ok (.iload_n 1, 1) := by decide +kernel
theorem dX7_takeSign_2 : decode cX7_takeSign 2 = .ok (.invokevirtual 132, 3) := by decide +kernel
theorem dX7_takeSign_5 : decode cX7_takeSign 5 = .ok (.ifCond .ne 12, 3) := by decide +kernel
theorem dX7_takeSign_8 : decode cX7_takeSign 8 = .ok (.aload_n 0, 1) := by decide +kernel
theorem dX7_takeSign_9 : decode cX7_takeSign 9 = .ok (.iconst 1, 1) := by decide +kernel
theorem dX7_takeSign_10 : decode cX7_takeSign 10 = .ok (.aload_n 0, 1) := by decide +kernel
theorem dX7_takeSign_11 : decode cX7_takeSign 11 = .ok (.getfield 40, 3) := by decide +kernel
theorem dX7_takeSign_14 : decode cX7_takeSign 14 = .ok (.invokevirtual 43, 3) := by decide +kernel
theorem dX7_takeSign_17 : decode cX7_takeSign 17 = .ok (.aload_n 0, 1) := by decide +kernel
theorem dX7_takeSign_18 : decode cX7_takeSign 18 = .ok (.invokevirtual 37, 3) := by decide +kernel
theorem dX7_takeSign_21 : decode cX7_takeSign 21 = .ok (.return_, 1) := by decide +kernel
theorem dX7_fail_0 : decode cX7_fail 0 = .ok (.aload_n 0, 1) := by decide +kernel
theorem dX7_fail_1 : decode cX7_fail 1 = .ok (.getfield 9, 3) := by decide +kernel
theorem dX7_fail_4 : decode cX7_fail 4 = .ok (.ifCond .ne 13, 3) := by decide +kernel
theorem dX7_fail_7 : decode cX7_fail 7 = .ok (.aload_n 0, 1) := by decide +kernel
theorem dX7_fail_8 : decode cX7_fail 8 = .ok (.iload_n 1, 1) := by decide +kernel
theorem dX7_fail_9 : decode cX7_fail 9 = .ok (.putfield 9, 3) := by decide +kernel
theorem dX7_fail_12 : decode cX7_fail 12 = .ok (.aload_n 0, 1) := by decide +kernel
theorem dX7_fail_13 : decode cX7_fail 13 = .ok (.iload_n 2, 1) := by decide +kernel
theorem dX7_fail_14 : decode cX7_fail 14 = .ok (.putfield 15, 3) := by decide +kernel
theorem dX7_fail_17 : decode cX7_fail 17 = .ok (.aload_n 0, 1) := by decide +kernel
theorem dX7_fail_18 : decode cX7_fail 18 = .ok (.iconst 4, 1) := by decide +kernel
theorem dX7_fail_19 : decode cX7_fail 19 = .ok (.putfield 31, 3) := by decide +kernel
theorem dX7_fail_22 : decode cX7_fail 22 = .ok (.return_, 1) := by decide +kernel
theorem dX7_next_0 : decode cX7_next 0 = .ok (.aload_n 0, 1) := by decide +kernel
theorem dX7_next_1 : decode cX7_next 1 = .ok (.getfield 9, 3) := by decide +kernel
theorem dX7_next_4 : decode cX7_next 4 = .ok (.ifCond .eq 4, 3) := by decide +kernel
theorem dX7_next_7 : decode cX7_next 7 = .ok (.return_, 1) := by decide +kernel
theorem dX7_next_8 : decode cX7_next 8 = .ok (.aload_n 0, 1) := by decide +kernel
theorem dX7_next_9 : decode cX7_next 9 = .ok (.getfield 31, 3) := by decide +kernel
theorem dX7_next_12 : decode cX7_next 12 = .ok (.iconst 1, 1) := by decide +kernel
theorem dX7_next_13 : decode cX7_next 13 = .ok (.if_icmp .eq 11, 3) := by decide +kernel
theorem dX7_next_16 : decode cX7_next 16 = .ok (.aload_n 0, 1) := by decide +kernel
theorem dX7_next_17 : decode cX7_next 17 = .ok (.getfield 31, 3) := by decide +kernel
theorem dX7_next_20 : decode cX7_next 20 = .ok (.iconst 2, 1) := by decide +kernel
theorem dX7_next_21 : decode cX7_next 21 = .ok (.if_icmp .ne 7, 3) := by decide +kernel
theorem dX7_next_24 : decode cX7_next 24 = .ok (.iconst 1, 1) := by decide +kernel
theorem dX7_next_25 : decode cX7_next 25 = .ok (.goto 4, 3) := by decide +kernel
theorem dX7_next_28 : decode cX7_next 28 = .ok (.iconst 0, 1) := by decide +kernel
theorem dX7_next_29 : decode cX7_next 29 = .ok (.istore_n 1, 1) := by decide +kernel
theorem dX7_next_30 : decode cX7_next 30 = .ok (.aload_n 0, 1) := by decide +kernel
theorem dX7_next_31 : decode cX7_next 31 = .ok (.getfield 34, 3) := by decide +kernel
theorem dX7_next_34 : decode cX7_next 34 = .ok (.istore_n 2, 1) := by decide +kernel
theorem dX7_next_35 : decode cX7_next 35 = .ok (.aload_n 0, 1) := by decide +kernel
theorem dX7_next_36 : decode cX7_next 36 = .ok (.iload_n 2, 1) := by decide +kernel
theorem dX7_next_37 : decode cX7_next 37 = .ok (.putfield 40, 3) := by decide +kernel
theorem dX7_next_40 : decode cX7_next 40 = .ok (.aload_n 0, 1) := by decide +kernel
theorem dX7_next_41 : decode cX7_next 41 = .ok (.getfield 40, 3) := by decide +kernel
theorem dX7_next_44 : decode cX7_next 44 = .ok (.aload_n 0, 1) := by decide +kernel
theorem dX7_next_45 : decode cX7_next 45 = .ok (.getfield 18, 3) := by decide +kernel
theorem dX7_next_48 : decode cX7_next 48 = .ok (.getfield 166, 3) := by decide +kernel
theorem dX7_next_51 : decode cX7_next 51 = .ok (.if_icmp .ge 33, 3) := by decide +kernel
theorem dX7_next_54 : decode cX7_next 54 = .ok (.aload_n 0, 1) := by decide +kernel
theorem dX7_next_55 : decode cX7_next 55 = .ok (.getfield 18, 3) := by decide +kernel
theorem dX7_next_58 : decode cX7_next 58 = .ok (.aload_n 0, 1) := by decide +kernel
theorem dX7_next_59 : decode cX7_next 59 = .ok (.getfield 40, 3) := by decide +kernel
theorem dX7_next_62 : decode cX7_next 62 = .ok (.invokevirtual 161, 3) := by decide +kernel
theorem dX7_next_65 : decode cX7_next 65 = .ok (.invokestatic 169, 3) := by decide +kernel
theorem dX7_next_68 : decode cX7_next 68 = .ok (.ifCond .eq 16, 3) := by decide +kernel
theorem dX7_next_71 : decode cX7_next 71 = .ok (.aload_n 0, 1) := by decide +kernel
theorem dX7_next_72 : decode cX7_next 72 = .ok (.dup, 1) := by decide +kernel
theorem dX7_next_73 : decode cX7_next 73 = .ok (.getfield 40, 3) := by decide +kernel
theorem dX7_next_76 : decode cX7_next 76 = .ok (.iconst 1, 1) := by decide +kernel
theorem dX7_next_77 : decode cX7_next 77 = .ok (.iadd, 1) := by decide +kernel
theorem dX7_next_78 : decode cX7_next 78 = .ok (.putfield 40, 3) := by decide +kernel
theorem dX7_next_81 : decode cX7_next 81 = .ok (.goto (-41), 3) := by decide +kernel
theorem dX7_next_84 : decode cX7_next 84 = .ok (.aload_n 0, 1) := by decide +kernel
theorem dX7_next_85 : decode cX7_next 85 = .ok (.getfield 18, 3) := by decide +kernel
theorem dX7_next_88 : decode cX7_next 88 = .ok (.aload_n 0, 1) := by decide +kernel
theorem dX7_next_89 : decode cX7_next 89 = .ok (.getfield 40, 3) := by decide +kernel
theorem dX7_next_92 : decode cX7_next 92 = .ok (.invokevirtual 161, 3) := by decide +kernel
theorem dX7_next_95 : decode cX7_next 95 = .ok (.istore_n 3, 1) := by decide +kernel
theorem dX7_next_96 : decode cX7_next 96 = .ok (.aload_n 0, 1) := by decide +kernel
theorem dX7_next_97 : decode cX7_next 97 = .ok (.aload_n 0, 1) := by decide +kernel
theorem dX7_next_98 : decode cX7_next 98 = .ok (.getfield 40, 3) := by decide +kernel
theorem dX7_next_101 : decode cX7_next 101 = .ok (.iconst 1, 1) := by decide +kernel
theorem dX7_next_102 : decode cX7_next 102 = .ok (.iadd, 1) := by decide +kernel
theorem dX7_next_103 : decode cX7_next 103 = .ok (.putfield 34, 3) := by decide +kernel
theorem dX7_next_106 : decode cX7_next 106 = .ok (.iload_n 3, 1) := by decide +kernel
theorem dX7_next_107 : decode cX7_next 107 = .ok (.iconst (-1), 1) := by decide +kernel
theorem dX7_next_108 : decode cX7_next 108 = .ok (.if_icmp .ne 19, 3) := by decide +kernel
theorem dX7_next_111 : decode cX7_next 111 = .ok (.aload_n 0, 1) := by decide +kernel
theorem dX7_next_112 : decode cX7_next 112 = .ok (.iconst 0, 1) := by decide +kernel
theorem dX7_next_113 : decode cX7_next 113 = .ok (.putfield 31, 3) := by decide +kernel
theorem dX7_next_116 : decode cX7_next 116 = .ok (.aload_n 0, 1) := by decide +kernel
theorem dX7_next_117 : decode cX7_next 117 = .ok (.aload_n 0, 1) := by decide +kernel
theorem dX7_next_118 : decode cX7_next 118 = .ok (.getfield 40, 3) := by decide +kernel
theorem dX7_next_121 : decode cX7_next 121 = .ok (.putfield 34, 3) := by decide +kernel
theorem dX7_next_124 : decode cX7_next 124 = .ok (.goto 139, 3) := by decide +kernel
theorem dX7_next_127 : decode cX7_next 127 = .ok (.iload_n 3, 1) := by decide +kernel
theorem dX7_next_128 : decode cX7_next 128 = .ok (.invokestatic 172, 3) := by decide +kernel
theorem dX7_next_131 : decode cX7_next 131 = .ok (.ifCond .eq 63, 3) := by decide +kernel
theorem dX7_next_134 : decode cX7_next 134 = .ok (.aload_n 0, 1) := by decide +kernel
theorem dX7_next_135 : decode cX7_next 135 = .ok (.getfield 34, 3) := by decide +kernel
theorem dX7_next_138 : decode cX7_next 138 = .ok (.aload_n 0, 1) := by decide +kernel
theorem dX7_next_139 : decode cX7_next 139 = .ok (.getfield 18, 3) := by decide +kernel
theorem dX7_next_142 : decode cX7_next 142 = .ok (.getfield 166, 3) := by decide +kernel
theorem dX7_next_145 : decode cX7_next 145 = .ok (.if_icmp .ge 33, 3) := by decide +kernel
theorem dX7_next_148 : decode cX7_next 148 = .ok (.aload_n 0, 1) := by decide +kernel
theorem dX7_next_149 : decode cX7_next 149 = .ok (.getfield 18, 3) := by decide +kernel
theorem dX7_next_152 : decode cX7_next 152 = .ok (.aload_n 0, 1) := by decide +kernel
theorem dX7_next_153 : decode cX7_next 153 = .ok (.getfield 34, 3) := by decide +kernel
theorem dX7_next_156 : decode cX7_next 156 = .ok (.invokevirtual 161, 3) := by decide +kernel
theorem dX7_next_159 : decode cX7_next 159 = .ok (.invokestatic 172, 3) := by decide +kernel
theorem dX7_next_162 : decode cX7_next 162 = .ok (.ifCond .eq 16, 3) := by decide +kernel
theorem dX7_next_165 : decode cX7_next 165 = .ok (.aload_n 0, 1) := by decide +kernel
theorem dX7_next_166 : decode cX7_next 166 = .ok (.dup, 1) := by decide +kernel
theorem dX7_next_167 : decode cX7_next 167 = .ok (.getfield 34, 3) := by decide +kernel
theorem dX7_next_170 : decode cX7_next 170 = .ok (.iconst 1, 1) := by decide +kernel
theorem dX7_next_171 : decode cX7_next 171 = .ok (.iadd, 1) := by decide +kernel
theorem dX7_next_172 : decode cX7_next 172 = .ok (.putfield 34, 3) := by decide +kernel
theorem dX7_next_175 : decode cX7_next 175 = .ok (.goto (-41), 3) := by decide +kernel
theorem dX7_next_178 : decode cX7_next 178 = .ok (.aload_n 0, 1) := by decide +kernel
theorem dX7_next_179 : decode cX7_next 179 = .ok (.iconst 1, 1) := by decide +kernel
theorem dX7_next_180 : decode cX7_next 180 = .ok (.putfield 31, 3) := by decide +kernel
theorem dX7_next_183 : decode cX7_next 183 = .ok (.aload_n 0, 1) := by decide +kernel
theorem dX7_next_184 : decode cX7_next 184 = .ok (.aload_n 0, 1) := by decide +kernel
theorem dX7_next_185 : decode cX7_next 185 = .ok (.invokevirtual 175, 3) := by decide +kernel
theorem dX7_next_188 : decode cX7_next 188 = .ok (.putfield 93, 3) := by decide +kernel
theorem dX7_next_191 : decode cX7_next 191 = .ok (.goto 72, 3) := by decide +kernel
theorem dX7_next_194 : decode cX7_next 194 = .ok (.iload_n 3, 1) := by decide +kernel
theorem dX7_next_195 : decode cX7_next 195 = .ok (.invokestatic 178, 3) := by decide +kernel
theorem dX7_next_198 : decode cX7_next 198 = .ok (.ifCond .eq 55, 3) := by decide +kernel
theorem dX7_next_201 : decode cX7_next 201 = .ok (.aload_n 0, 1) := by decide +kernel
theorem dX7_next_202 : decode cX7_next 202 = .ok (.getfield 34, 3) := by decide +kernel
theorem dX7_next_205 : decode cX7_next 205 = .ok (.aload_n 0, 1) := by decide +kernel
theorem dX7_next_206 : decode cX7_next 206 = .ok (.getfield 18, 3) := by decide +kernel
theorem dX7_next_209 : decode cX7_next 209 = .ok (.getfield 166, 3) := by decide +kernel
theorem dX7_next_212 : decode cX7_next 212 = .ok (.if_icmp .ge 33, 3) := by decide +kernel
theorem dX7_next_215 : decode cX7_next 215 = .ok (.aload_n 0, 1) := by decide +kernel
theorem dX7_next_216 : decode cX7_next 216 = .ok (.getfield 18, 3) := by decide +kernel
theorem dX7_next_219 : decode cX7_next 219 = .ok (.aload_n 0, 1) := by decide +kernel
theorem dX7_next_220 : decode cX7_next 220 = .ok (.getfield 34, 3) := by decide +kernel
theorem dX7_next_223 : decode cX7_next 223 = .ok (.invokevirtual 161, 3) := by decide +kernel
theorem dX7_next_226 : decode cX7_next 226 = .ok (.invokestatic 178, 3) := by decide +kernel
theorem dX7_next_229 : decode cX7_next 229 = .ok (.ifCond .eq 16, 3) := by decide +kernel
theorem dX7_next_232 : decode cX7_next 232 = .ok (.aload_n 0, 1) := by decide +kernel
theorem dX7_next_233 : decode cX7_next 233 = .ok (.dup, 1) := by decide +kernel
theorem dX7_next_234 : decode cX7_next 234 = .ok (.getfield 34, 3) := by decide +kernel
theorem dX7_next_237 : decode cX7_next 237 = .ok (.iconst 1, 1) := by decide +kernel
theorem dX7_next_238 : decode cX7_next 238 = .ok (.iadd, 1) := by decide +kernel
theorem dX7_next_239 : decode cX7_next 239 = .ok (.putfield 34, 3) := by decide +kernel
theorem dX7_next_242 : decode cX7_next 242 = .ok (.goto (-41), 3) := by decide +kernel
theorem dX7_next_245 : decode cX7_next 245 = .ok (.aload_n 0, 1) := by decide +kernel
theorem dX7_next_246 : decode cX7_next 246 = .ok (.iconst 2, 1) := by decide +kernel
theorem dX7_next_247 : decode cX7_next 247 = .ok (.putfield 31, 3) := by decide +kernel
theorem dX7_next_250 : decode cX7_next 250 = .ok (.goto 13, 3) := by decide +kernel
theorem dX7_next_253 : decode cX7_next 253 = .ok (.aload_n 0, 1) := by decide +kernel
theorem dX7_next_254 : decode cX7_next 254 = .ok (.iconst 3, 1) := by decide +kernel
theorem dX7_next_255 : decode cX7_next 255 = .ok (.putfield 31, 3) := by decide +kernel
theorem dX7_next_258 : decode cX7_next 258 = .ok (.aload_n 0, 1) := by decide +kernel
theorem dX7_next_259 : decode cX7_next 259 = .ok (.iload_n 3, 1) := by decide +kernel
theorem dX7_next_260 : decode cX7_next 260 = .ok (.putfield 93, 3) := by decide +kernel
theorem dX7_next_263 : decode cX7_next 263 = .ok (.iload_n 1, 1) := by decide +kernel
theorem dX7_next_264 : decode cX7_next 264 = .ok (.ifCond .eq 32, 3) := by decide +kernel
theorem dX7_next_267 : decode cX7_next 267 = .ok (.aload_n 0, 1) := by decide +kernel
theorem dX7_next_268 : decode cX7_next 268 = .ok (.getfield 40, 3) := by decide +kernel
theorem dX7_next_271 : decode cX7_next 271 = .ok (.iload_n 2, 1) := by decide +kernel
theorem dX7_next_272 : decode cX7_next 272 = .ok (.if_icmp .ne 24, 3) := by decide +kernel
theorem dX7_next_275 : decode cX7_next 275 = .ok (.aload_n 0, 1) := by decide +kernel
theorem dX7_next_276 : decode cX7_next 276 = .ok (.getfield 31, 3) := by decide +kernel
theorem dX7_next_279 : decode cX7_next 279 = .ok (.iconst 1, 1) := by decide +kernel
theorem dX7_next_280 : decode cX7_next 280 = .ok (.if_icmp .eq 11, 3) := by decide +kernel
theorem dX7_next_283 : decode cX7_next 283 = .ok (.aload_n 0, 1) := by decide +kernel
theorem dX7_next_284 : decode cX7_next 284 = .ok (.getfield 31, 3) := by decide +kernel
theorem dX7_next_287 : decode cX7_next 287 = .ok (.iconst 2, 1) := by decide +kernel
theorem dX7_next_288 : decode cX7_next 288 = .ok (.if_icmp .ne 8, 3) := by decide +kernel
theorem dX7_next_291 : decode cX7_next 291 = .ok (.aload_n 0, 1) := by decide +kernel
theorem dX7_next_292 : decode cX7_next 292 = .ok (.iconst 4, 1) := by decide +kernel
theorem dX7_next_293 : decode cX7_next 293 = .ok (.putfield 31, 3) := by decide +kernel
theorem dX7_next_296 : decode cX7_next 296 = .ok (.return_, 1) := by decide +kernel
theorem dX7_ownWord_0 : decode cX7_ownWord 0 = .ok (.iconst 0, 1) := by decide +kernel
theorem dX7_ownWord_1 : decode cX7_ownWord 1 = .ok (.istore_n 1, 1) := by decide +kernel
theorem dX7_ownWord_2 : decode cX7_ownWord 2 = .ok (.aload_n 0, 1) := by decide +kernel
theorem dX7_ownWord_3 : decode cX7_ownWord 3 = .ok (.getfield 40, 3) := by decide +kernel
theorem dX7_ownWord_6 : decode cX7_ownWord 6 = .ok (.istore_n 2, 1) := by decide +kernel
theorem dX7_ownWord_7 : decode cX7_ownWord 7 = .ok (.iconst 1, 1) := by decide +kernel
theorem dX7_ownWord_8 : decode cX7_ownWord 8 = .ok (.istore_n 3, 1) := by decide +kernel
theorem dX7_ownWord_9 : decode cX7_ownWord 9 = .ok (.iconst 0, 1) := by decide +kernel
theorem dX7_ownWord_10 : decode cX7_ownWord 10 = .ok (.istore 4, 2) := by decide +kernel
theorem dX7_ownWord_12 : decode cX7_ownWord 12 = .ok (.iload 4, 2) := by decide +kernel
theorem dX7_ownWord_14 : decode cX7_ownWord 14 = .ok (.ldc 181, 2) := by decide +kernel
theorem dX7_ownWord_16 : decode cX7_ownWord 16 = .ok (.invokevirtual 183, 3) := by decide +kernel
theorem dX7_ownWord_19 : decode cX7_ownWord 19 = .ok (.if_icmp .ge 87, 3) := by decide +kernel
theorem dX7_ownWord_22 : decode cX7_ownWord 22 = .ok (.ldc 181, 2) := by decide +kernel
theorem dX7_ownWord_24 : decode cX7_ownWord 24 = .ok (.iload 4, 2) := by decide +kernel
theorem dX7_ownWord_26 : decode cX7_ownWord 26 = .ok (.invokevirtual 187, 3) := by decide +kernel
theorem dX7_ownWord_29 : decode cX7_ownWord 29 = .ok (.istore 5, 2) := by decide +kernel
theorem dX7_ownWord_31 : decode cX7_ownWord 31 = .ok (.iload 5, 2) := by decide +kernel
theorem dX7_ownWord_33 : decode cX7_ownWord 33 = .ok (.bipush 32, 2) := by decide +kernel
theorem dX7_ownWord_35 : decode cX7_ownWord 35 = .ok (.if_icmp .eq 41, 3) := by decide +kernel
theorem dX7_ownWord_38 : decode cX7_ownWord 38 = .ok (.iload_n 3, 1) := by decide +kernel
theorem dX7_ownWord_39 : decode cX7_ownWord 39 = .ok (.ifCond .eq 29, 3) := by decide +kernel
theorem dX7_ownWord_42 : decode cX7_ownWord 42 = .ok (.iload_n 2, 1) := by decide +kernel
theorem dX7_ownWord_43 : decode cX7_ownWord 43 = .ok (.aload_n 0, 1) := by decide +kernel
theorem dX7_ownWord_44 : decode cX7_ownWord 44 = .ok (.getfield 34, 3) := by decide +kernel
theorem dX7_ownWord_47 : decode cX7_ownWord 47 = .ok (.if_icmp .ge 21, 3) := by decide +kernel
theorem dX7_ownWord_50 : decode cX7_ownWord 50 = .ok (.aload_n 0, 1) := by decide +kernel
theorem dX7_ownWord_51 : decode cX7_ownWord 51 = .ok (.getfield 18, 3) := by decide +kernel
theorem dX7_ownWord_54 : decode cX7_ownWord 54 = .ok (.getfield 191, 3) := by decide +kernel
theorem dX7_ownWord_57 : decode cX7_ownWord 57 = .ok (.iload_n 2, 1) := by decide +kernel
theorem dX7_ownWord_58 : decode cX7_ownWord 58 = .ok (.baload, 1) := by decide +kernel
theorem dX7_ownWord_59 : decode cX7_ownWord 59 = .ok (.iload 5, 2) := by decide +kernel
theorem dX7_ownWord_61 : decode cX7_ownWord 61 = .ok (.if_icmp .ne 7, 3) := by decide +kernel
theorem dX7_ownWord_64 : decode cX7_ownWord 64 = .ok (.iconst 1, 1) := by decide +kernel
theorem dX7_ownWord_65 : decode cX7_ownWord 65 = .ok (.goto 4, 3) := by decide +kernel
theorem dX7_ownWord_68 : decode cX7_ownWord 68 = .ok (.iconst 0, 1) := by decide +kernel
theorem dX7_ownWord_69 : decode cX7_ownWord 69 = .ok (.istore_n 3, 1) := by decide +kernel
theorem dX7_ownWord_70 : decode cX7_ownWord 70 = .ok (.iinc 2 1, 3) := by decide +kernel
theorem dX7_ownWord_73 : decode cX7_ownWord 73 = .ok (.goto 27, 3) := by decide +kernel
theorem dX7_ownWord_76 : decode cX7_ownWord 76 = .ok (.iload_n 3, 1) := by decide +kernel
theorem dX7_ownWord_77 : decode cX7_ownWord 77 = .ok (.ifCond .eq 13, 3) := by decide +kernel
theorem dX7_ownWord_80 : decode cX7_ownWord 80 = .ok (.iload_n 2, 1) := by decide +kernel
theorem dX7_ownWord_81 : decode cX7_ownWord 81 = .ok (.aload_n 0, 1) := by decide +kernel
theorem dX7_ownWord_82 : decode cX7_ownWord 82 = .ok (.getfield 34, 3) := by decide +kernel
theorem dX7_ownWord_85 : decode cX7_ownWord 85 = .ok (.if_icmp .ne 5, 3) := by decide +kernel
theorem dX7_ownWord_88 : decode cX7_ownWord 88 = .ok (.iload_n 1, 1) := by decide +kernel
theorem dX7_ownWord_89 : decode cX7_ownWord 89 = .ok (.ireturn, 1) := by decide +kernel
theorem dX7_ownWord_90 : decode cX7_ownWord 90 = .ok (.iinc 1 1, 3) := by decide +kernel
theorem dX7_ownWord_93 : decode cX7_ownWord 93 = .ok (.aload_n 0, 1) := by decide +kernel
theorem dX7_ownWord_94 : decode cX7_ownWord 94 = .ok (.getfield 40, 3) := by decide +kernel
theorem dX7_ownWord_97 : decode cX7_ownWord 97 = .ok (.istore_n 2, 1) := by decide +kernel
theorem dX7_ownWord_98 : decode cX7_ownWord 98 = .ok (.iconst 1, 1) := by decide +kernel
theorem dX7_ownWord_99 : decode cX7_ownWord 99 = .ok (.istore_n 3, 1) := by decide +kernel
theorem dX7_ownWord_100 : decode cX7_ownWord 100 = .ok (.iinc 4 1, 3) := by decide +kernel
theorem dX7_ownWord_103 : decode cX7_ownWord 103 = .ok (.goto (-91), 3) := by decide +kernel
theorem dX7_ownWord_106 : decode cX7_ownWord 106 = .ok (.iconst (-1), 1) := by decide +kernel
theorem dX7_ownWord_107 : decode cX7_ownWord 107 = .ok (.ireturn, 1) := by decide +kernel
theorem dX7_isBlank_0 : decode cX7_isBlank 0 = .ok (.iload_n 0, 1) := by decide +kernel
theorem dX7_isBlank_1 : decode cX7_isBlank 1 = .ok (.bipush 10, 2) := by decide +kernel
theorem dX7_isBlank_3 : decode cX7_isBlank 3 = .ok (.if_icmp .eq 9, 3) := by decide +kernel
theorem dX7_isBlank_6 : decode cX7_isBlank 6 = .ok (.iload_n 0, 1) := by decide +kernel
theorem dX7_isBlank_7 : decode cX7_isBlank 7 = .ok (.bipush 32, 2) := by decide +kernel
theorem dX7_isBlank_9 : decode cX7_isBlank 9 = .ok (.if_icmp .ne 7, 3) := by decide +kernel
theorem dX7_isBlank_12 : decode cX7_isBlank 12 = .ok (.iconst 1, 1) := by decide +kernel
theorem dX7_isBlank_13 : decode cX7_isBlank 13 = .ok (.goto 4, 3) := by decide +kernel
theorem dX7_isBlank_16 : decode cX7_isBlank 16 = .ok (.iconst 0, 1) := by decide +kernel
theorem dX7_isBlank_17 : decode cX7_isBlank 17 = .ok (.ireturn, 1) := by decide +kernel
theorem dX7_isLetter_0 : decode cX7_isLetter 0 = .ok (.iload_n 0, 1) := by decide +kernel
theorem dX7_isLetter_1 : decode cX7_isLetter 1 = .ok (.bipush 97, 2) := by decide +kernel
theorem dX7_isLetter_3 : decode cX7_isLetter 3 = .ok (.if_icmp .lt 9, 3) := by decide +kernel
theorem dX7_isLetter_6 : decode cX7_isLetter 6 = .ok (.iload_n 0, 1) := by decide +kernel
theorem dX7_isLetter_7 : decode cX7_isLetter 7 = .ok (.bipush 122, 2) := by decide +kernel
theorem dX7_isLetter_9 : decode cX7_isLetter 9 = .ok (.if_icmp .le 15, 3) := by decide +kernel
theorem dX7_isLetter_12 : decode cX7_isLetter 12 = .ok (.iload_n 0, 1) := by decide +kernel
theorem dX7_isLetter_13 : decode cX7_isLetter 13 = .ok (.bipush 65, 2) := by decide +kernel
theorem dX7_isLetter_15 : decode cX7_isLetter 15 = .ok (.if_icmp .lt 13, 3) := by decide +kernel
theorem dX7_isLetter_18 : decode cX7_isLetter 18 = .ok (.iload_n 0, 1) := by decide +kernel
theorem dX7_isLetter_19 : decode cX7_isLetter 19 = .ok (.bipush 90, 2) := by decide +kernel
theorem dX7_isLetter_21 : decode cX7_isLetter 21 = .ok (.if_icmp .gt 7, 3) := by decide +kernel
theorem dX7_isLetter_24 : decode cX7_isLetter 24 = .ok (.iconst 1, 1) := by decide +kernel
theorem dX7_isLetter_25 : decode cX7_isLetter 25 = .ok (.goto 4, 3) := by decide +kernel
theorem dX7_isLetter_28 : decode cX7_isLetter 28 = .ok (.iconst 0, 1) := by decide +kernel
theorem dX7_isLetter_29 : decode cX7_isLetter 29 = .ok (.ireturn, 1) := by decide +kernel
theorem dX7_isDigit_0 : decode cX7_isDigit 0 = .ok (.iload_n 0, 1) := by decide +kernel
theorem dX7_isDigit_1 : decode cX7_isDigit 1 = .ok (.bipush 48, 2) := by decide +kernel
theorem dX7_isDigit_3 : decode cX7_isDigit 3 = .ok (.if_icmp .lt 13, 3) := by decide +kernel
theorem dX7_isDigit_6 : decode cX7_isDigit 6 = .ok (.iload_n 0, 1) := by decide +kernel
theorem dX7_isDigit_7 : decode cX7_isDigit 7 = .ok (.bipush 57, 2) := by decide +kernel
theorem dX7_isDigit_9 : decode cX7_isDigit 9 = .ok (.if_icmp .gt 7, 3) := by decide +kernel
theorem dX7_isDigit_12 : decode cX7_isDigit 12 = .ok (.iconst 1, 1) := by decide +kernel
theorem dX7_isDigit_13 : decode cX7_isDigit 13 = .ok (.goto 4, 3) := by decide +kernel
theorem dX7_isDigit_16 : decode cX7_isDigit 16 = .ok (.iconst 0, 1) := by decide +kernel
theorem dX7_isDigit_17 : decode cX7_isDigit 17 = .ok (.ireturn, 1) := by decide +kernel
theorem dX8_init_0 : decode cX8_init 0 = .ok (.aload_n 0, 1) := by decide +kernel
theorem dX8_init_1 : decode cX8_init 1 = .ok (.invokespecial 3, 3) := by decide +kernel
theorem dX8_init_4 : decode cX8_init 4 = .ok (.aload_n 0, 1) := by decide +kernel
theorem dX8_init_5 : decode cX8_init 5 = .ok (.bipush 8, 2) := by decide +kernel
theorem dX8_init_7 : decode cX8_init 7 = .ok (.newarray .long, 2) := by decide +kernel
theorem dX8_init_9 : decode cX8_init 9 = .ok (.putfield 11, 3) := by decide +kernel
theorem dX8_init_12 : decode cX8_init 12 = .ok (.aload_n 0, 1) := by decide +kernel
theorem dX8_init_13 : decode cX8_init 13 = .ok (.bipush 32, 2) := by decide +kernel
theorem dX8_init_15 : decode cX8_init 15 = .ok (.newarray .int, 2) := by decide +kernel
theorem dX8_init_17 : decode cX8_init 17 = .ok (.putfield 15, 3) := by decide +kernel
theorem dX8_init_20 : decode cX8_init 20 = .ok (.aload_n 0, 1) := by decide +kernel
theorem dX8_init_21 : decode cX8_init 21 = .ok (.bipush 24, 2) := by decide +kernel
theorem dX8_init_23 : decode cX8_init 23 = .ok (.newarray .int, 2) := by decide +kernel
theorem dX8_init_25 : decode cX8_init 25 = .ok (.putfield 19, 3) := by decide +kernel
theorem dX8_init_28 : decode cX8_init 28 = .ok (.aload_n 0, 1) := by decide +kernel
theorem dX8_init_29 : decode cX8_init 29 = .ok (.bipush 24, 2) := by decide +kernel
theorem dX8_init_31 : decode cX8_init 31 = .ok (.newarray .int, 2) := by decide +kernel
theorem dX8_init_33 : decode cX8_init 33 = .ok (.putfield 22, 3) := by decide +kernel
theorem dX8_init_36 : decode cX8_init 36 = .ok (.aload_n 0, 1) := by decide +kernel
theorem dX8_init_37 : decode cX8_init 37 = .ok (.bipush 24, 2) := by decide +kernel
theorem dX8_init_39 : decode cX8_init 39 = .ok (.newarray .int, 2) := by decide +kernel
theorem dX8_init_41 : decode cX8_init 41 = .ok (.putfield 25, 3) := by decide +kernel
theorem dX8_init_44 : decode cX8_init 44 = .ok (.aload_n 0, 1) := by decide +kernel
theorem dX8_init_45 : decode cX8_init 45 = .ok (.bipush 24, 2) := by decide +kernel
theorem dX8_init_47 : decode cX8_init 47 = .ok (.newarray .int, 2) := by decide +kernel
theorem dX8_init_49 : decode cX8_init 49 = .ok (.putfield 28, 3) := by decide +kernel
theorem dX8_init_52 : decode cX8_init 52 = .ok (.aload_n 0, 1) := by decide +kernel
theorem dX8_init_53 : decode cX8_init 53 = .ok (.sipush 700, 3) := by decide +kernel
theorem dX8_init_56 : decode cX8_init 56 = .ok (.newarray .int, 2) := by decide +kernel
theorem dX8_init_58 : decode cX8_init 58 = .ok (.putfield 33, 3) := by decide +kernel
theorem dX8_init_61 : decode cX8_init 61 = .ok (.aload_n 0, 1) := by decide +kernel
theorem dX8_init_62 : decode cX8_init 62 = .ok (.bipush 8, 2) := by decide +kernel
theorem dX8_init_64 : decode cX8_init 64 = .ok (.newarray .int, 2) := by decide +kernel
theorem dX8_init_66 : decode cX8_init 66 = .ok (.putfield 36, 3) := by decide +kernel
theorem dX8_init_69 : decode cX8_init 69 = .ok (.aload_n 0, 1) := by decide +kernel
theorem dX8_init_70 : decode cX8_init 70 = .ok (.bipush 64, 2) := by decide +kernel
theorem dX8_init_72 : decode cX8_init 72 = .ok (.newarray .int, 2) := by decide +kernel
theorem dX8_init_74 : decode cX8_init 74 = .ok (.putfield 39, 3) := by decide +kernel
theorem dX8_init_77 : decode cX8_init 77 = .ok (.aload_n 0, 1) := by decide +kernel
theorem dX8_init_78 : decode cX8_init 78 = .ok (.iconst 0, 1) := by decide +kernel
theorem dX8_init_79 : decode cX8_init 79 = .ok (.putfield 42, 3) := by decide +kernel
theorem dX8_init_82 : decode cX8_init 82 = .ok (.aload_n 0, 1) := by decide +kernel
theorem dX8_init_83 : decode cX8_init 83 = .ok (.iconst 0, 1) := by decide +kernel
theorem dX8_init_84 : decode cX8_init 84 = .ok (.putfield 46, 3) := by decide +kernel
theorem dX8_init_87 : decode cX8_init 87 = .ok (.aload_n 0, 1) := by decide +kernel
theorem dX8_init_88 : decode cX8_init 88 = .ok (.iconst 0, 1) := by decide +kernel
theorem dX8_init_89 : decode cX8_init 89 = .ok (.putfield 49, 3) := by decide +kernel
theorem dX8_init_92 : decode cX8_init 92 = .ok (.aload_n 0, 1) := by decide +kernel
theorem dX8_init_93 : decode cX8_init 93 = .ok (.iconst 0, 1) := by decide +kernel
theorem dX8_init_94 : decode cX8_init 94 = .ok (.putfield 52, 3) := by decide +kernel
theorem dX8_init_97 : decode cX8_init 97 = .ok (.return_, 1) := by decide +kernel
theorem dX8_empty_0 : decode cX8_empty 0 = .ok (.aload_n 0, 1) := by decide +kernel
theorem dX8_empty_1 : decode cX8_empty 1 = .ok (.iconst 0, 1) := by decide +kernel
theorem dX8_empty_2 : decode cX8_empty 2 = .ok (.putfield 42, 3) := by decide +kernel
theorem dX8_empty_5 : decode cX8_empty 5 = .ok (.aload_n 0, 1) := by decide +kernel
theorem dX8_empty_6 : decode cX8_empty 6 = .ok (.iconst 0, 1) := by decide +kernel
theorem dX8_empty_7 : decode cX8_empty 7 = .ok (.putfield 46, 3) := by decide +kernel
theorem dX8_empty_10 : decode cX8_empty 10 = .ok (.aload_n 0, 1) := by decide +kernel
theorem dX8_empty_11 : decode cX8_empty 11 = .ok (.iconst 0, 1) := by decide +kernel
theorem dX8_empty_12 : decode cX8_empty 12 = .ok (.putfield 49, 3) := by decide +kernel
theorem dX8_empty_15 : decode cX8_empty 15 = .ok (.aload_n 0, 1) := by decide +kernel
theorem dX8_empty_16 : decode cX8_empty 16 = .ok (.iconst 0, 1) := by decide +kernel
theorem dX8_empty_17 : decode cX8_empty 17 = .ok (.putfield 52, 3) := by decide +kernel
theorem dX8_empty_20 : decode cX8_empty 20 = .ok (.return_, 1) := by decide +kernel
theorem dX8_numberOf_0 : decode cX8_numberOf 0 = .ok (.iload_n 1, 1) := by decide +kernel
theorem dX8_numberOf_1 : decode cX8_numberOf 1 = .ok (.ifCond .lt 24, 3) := by decide +kernel
theorem dX8_numberOf_4 : decode cX8_numberOf 4 = .ok (.iload_n 1, 1) := by decide +kernel
theorem dX8_numberOf_5 : decode cX8_numberOf 5 = .ok (.aload_n 0, 1) := by decide +kernel
theorem dX8_numberOf_6 : decode cX8_numberOf 6 = .ok (.getfield 42, 3) := by decide +kernel
theorem dX8_numberOf_9 : decode cX8_numberOf 9 = .ok (.if_icmp .ge 16, 3) := by decide +kernel
theorem dX8_numberOf_12 : decode cX8_numberOf 12 = .ok (.aload_n 0, 1) := by decide +kernel
theorem dX8_numberOf_13 : decode cX8_numberOf 13 = .ok (.getfield 15, 3) := by decide +kernel
theorem dX8_numberOf_16 : decode cX8_numberOf 16 = .ok (.iload_n 1, 1) := by decide +kernel
theorem dX8_numberOf_17 : decode cX8_numberOf 17 = .ok (.iconst 4, 1) := by decide +kernel
theorem dX8_numberOf_18 : decode cX8_numberOf 18 = .ok (.imul, 1) := by decide +kernel
theorem dX8_numberOf_19 : decode cX8_numberOf 19 = .ok (.iload_n 2, 1) := by decide +kernel
theorem dX8_numberOf_20 : decode cX8_numberOf 20 = .ok (.iadd, 1) := by decide +kernel
theorem dX8_numberOf_21 : decode cX8_numberOf 21 = .ok (.iaload, 1) := by decide +kernel
theorem dX8_numberOf_22 : decode cX8_numberOf 22 = .ok (.goto 4, 3) := by decide +kernel
theorem dX8_numberOf_25 : decode cX8_numberOf 25 = .ok (.iconst 0, 1) := by decide +kernel
theorem dX8_numberOf_26 : decode cX8_numberOf 26 = .ok (.ireturn, 1) := by decide +kernel
theorem dX8_kindNamed_0 : decode cX8_kindNamed 0 = .ok (.iconst 0, 1) := by decide +kernel
theorem dX8_kindNamed_1 : decode cX8_kindNamed 1 = .ok (.istore_n 3, 1) := by decide +kernel
theorem dX8_kindNamed_2 : decode cX8_kindNamed 2 = .ok (.iload_n 3, 1) := by decide +kernel
theorem dX8_kindNamed_3 : decode cX8_kindNamed 3 = .ok (.aload_n 0, 1) := by decide +kernel
theorem dX8_kindNamed_4 : decode cX8_kindNamed 4 = .ok (.getfield 42, 3) := by decide +kernel
theorem dX8_kindNamed_7 : decode cX8_kindNamed 7 = .ok (.if_icmp .ge 22, 3) := by decide +kernel
theorem dX8_kindNamed_10 : decode cX8_kindNamed 10 = .ok (.aload_n 0, 1) := by decide +kernel
theorem dX8_kindNamed_11 : decode cX8_kindNamed 11 = .ok (.getfield 11, 3) := by decide +kernel
theorem dX8_kindNamed_14 : decode cX8_kindNamed 14 = .ok (.iload_n 3, 1) := by decide +kernel
theorem dX8_kindNamed_15 : decode cX8_kindNamed 15 = .ok (.laload, 1) := by decide +kernel
theorem dX8_kindNamed_16 : decode cX8_kindNamed 16 = .ok (.lload_n 1, 1) := by decide +kernel
theorem dX8_kindNamed_17 : decode cX8_kindNamed 17 = .ok (.lcmp, 1) := by decide +kernel
theorem dX8_kindNamed_18 : decode cX8_kindNamed 18 = .ok (.ifCond .ne 5, 3) := by decide +kernel
theorem dX8_kindNamed_21 : decode cX8_kindNamed 21 = .ok (.iload_n 3, 1) := by decide +kernel
theorem dX8_kindNamed_22 : decode cX8_kindNamed 22 = .ok (.ireturn, 1) := by decide +kernel
theorem dX8_kindNamed_23 : decode cX8_kindNamed 23 = .ok (.iinc 3 1, 3) := by decide +kernel
theorem dX8_kindNamed_26 : decode cX8_kindNamed 26 = .ok (.goto (-24), 3) := by decide +kernel
theorem dX8_kindNamed_29 : decode cX8_kindNamed 29 = .ok (.iconst (-1), 1) := by decide +kernel
theorem dX8_kindNamed_30 : decode cX8_kindNamed 30 = .ok (.ireturn, 1) := by decide +kernel
theorem dX8_emit_0 : decode cX8_emit 0 = .ok (.aload_n 0, 1) := by decide +kernel
theorem dX8_emit_1 : decode cX8_emit 1 = .ok (.getfield 52, 3) := by decide +kernel
theorem dX8_emit_4 : decode cX8_emit 4 = .ok (.aload_n 0, 1) := by decide +kernel
theorem dX8_emit_5 : decode cX8_emit 5 = .ok (.getfield 33, 3) := by decide +kernel
theorem dX8_emit_8 : decode cX8_emit 8 = .ok (.arraylength, 1) := by decide +kernel
theorem dX8_emit_9 : decode cX8_emit 9 = .ok (.if_icmp .ge 29, 3) := by decide +kernel
theorem dX8_emit_12 : decode cX8_emit 12 = .ok (.aload_n 0, 1) := by decide +kernel
theorem dX8_emit_13 : decode cX8_emit 13 = .ok (.getfield 33, 3) := by decide +kernel
theorem dX8_emit_16 : decode cX8_emit 16 = .ok (.aload_n 0, 1) := by decide +kernel
theorem dX8_emit_17 : decode cX8_emit 17 = .ok (.getfield 52, 3) := by decide +kernel
theorem dX8_emit_20 : decode cX8_emit 20 = .ok (.iload_n 1, 1) := by decide +kernel
theorem dX8_emit_21 : decode cX8_emit 21 = .ok (.sipush 10000, 3) := by decide +kernel
theorem dX8_emit_24 : decode cX8_emit 24 = .ok (.imul, 1) := by decide +kernel
theorem dX8_emit_25 : decode cX8_emit 25 = .ok (.iload_n 2, 1) := by decide +kernel
theorem dX8_emit_26 : decode cX8_emit 26 = .ok (.iadd, 1) := by decide +kernel
theorem dX8_emit_27 : decode cX8_emit 27 = .ok (.iastore, 1) := by decide +kernel
theorem dX8_emit_28 : decode cX8_emit 28 = .ok (.aload_n 0, 1) := by decide +kernel
theorem dX8_emit_29 : decode cX8_emit 29 = .ok (.dup, 1) := by decide +kernel
theorem dX8_emit_30 : decode cX8_emit 30 = .ok (.getfield 52, 3) := by decide +kernel
theorem dX8_emit_33 : decode cX8_emit 33 = .ok (.iconst 1, 1) := by decide +kernel
theorem dX8_emit_34 : decode cX8_emit 34 = .ok (.iadd, 1) := by decide +kernel
theorem dX8_emit_35 : decode cX8_emit 35 = .ok (.putfield 52, 3) := by decide +kernel
theorem dX8_emit_38 : decode cX8_emit 38 = .ok (.return_, 1) := by decide +kernel
theorem dX8_sumOf_0 : decode cX8_sumOf 0 = .ok (.iconst 0, 1) := by decide +kernel
theorem dX8_sumOf_1 : decode cX8_sumOf 1 = .ok (.istore_n 2, 1) := by decide +kernel
theorem dX8_sumOf_2 : decode cX8_sumOf 2 = .ok (.iload_n 2, 1) := by decide +kernel
theorem dX8_sumOf_3 : decode cX8_sumOf 3 = .ok (.aload_n 0, 1) := by decide +kernel
theorem dX8_sumOf_4 : decode cX8_sumOf 4 = .ok (.getfield 46, 3) := by decide +kernel
theorem dX8_sumOf_7 : decode cX8_sumOf 7 = .ok (.if_icmp .ge 55, 3) := by decide +kernel
theorem dX8_sumOf_10 : decode cX8_sumOf 10 = .ok (.aload_n 0, 1) := by decide +kernel
theorem dX8_sumOf_11 : decode cX8_sumOf 11 = .ok (.getfield 19, 3) := by decide +kernel
theorem dX8_sumOf_14 : decode cX8_sumOf 14 = .ok (.iload_n 2, 1) := by decide +kernel
theorem dX8_sumOf_15 : decode cX8_sumOf 15 = .ok (.iaload, 1) := by decide +kernel
theorem dX8_sumOf_16 : decode cX8_sumOf 16 = .ok (.iload_n 1, 1) := by decide +kernel
theorem dX8_sumOf_17 : decode cX8_sumOf 17 = .ok (.if_icmp .ne 39, 3) := by decide +kernel
theorem dX8_sumOf_20 : decode cX8_sumOf 20 = .ok (.aload_n 0, 1) := by decide +kernel
theorem dX8_sumOf_21 : decode cX8_sumOf 21 = .ok (.aload_n 0, 1) := by decide +kernel
theorem dX8_sumOf_22 : decode cX8_sumOf 22 = .ok (.getfield 25, 3) := by decide +kernel
theorem dX8_sumOf_25 : decode cX8_sumOf 25 = .ok (.iload_n 2, 1) := by decide +kernel
theorem dX8_sumOf_26 : decode cX8_sumOf 26 = .ok (.iaload, 1) := by decide +kernel
theorem dX8_sumOf_27 : decode cX8_sumOf 27 = .ok (.aload_n 0, 1) := by decide +kernel
theorem dX8_sumOf_28 : decode cX8_sumOf 28 = .ok (.getfield 28, 3) := by decide +kernel
theorem dX8_sumOf_31 : decode cX8_sumOf 31 = .ok (.iload_n 2, 1) := by decide +kernel
theorem dX8_sumOf_32 : decode cX8_sumOf 32 = .ok (.iaload, 1) := by decide +kernel
theorem dX8_sumOf_33 : decode cX8_sumOf 33 = .ok (.invokevirtual 55, 3) := by decide +kernel
theorem dX8_sumOf_36 : decode cX8_sumOf 36 = .ok (.ifCond .eq 20, 3) := by decide +kernel
theorem dX8_sumOf_39 : decode cX8_sumOf 39 = .ok (.aload_n 0, 1) := by decide +kernel
theorem dX8_sumOf_40 : decode cX8_sumOf 40 = .ok (.aload_n 0, 1) := by decide +kernel
theorem dX8_sumOf_41 : decode cX8_sumOf 41 = .ok (.getfield 22, 3) := by decide +kernel
theorem dX8_sumOf_44 : decode cX8_sumOf 44 = .ok (.iload_n 2, 1) := by decide +kernel
theorem dX8_sumOf_45 : decode cX8_sumOf 45 = .ok (.iaload, 1) := by decide +kernel
theorem dX8_sumOf_46 : decode cX8_sumOf 46 = .ok (.aload_n 0, 1) := by decide +kernel
theorem dX8_sumOf_47 : decode cX8_sumOf 47 = .ok (.getfield 25, 3) := by decide +kernel
theorem dX8_sumOf_50 : decode cX8_sumOf 50 = .ok (.iload_n 2, 1) := by decide +kernel
theorem dX8_sumOf_51 : decode cX8_sumOf 51 = .ok (.iaload, 1) := by decide +kernel
theorem dX8_sumOf_52 : decode cX8_sumOf 52 = .ok (.invokevirtual 55, 3) := by decide +kernel
theorem dX8_sumOf_55 : decode cX8_sumOf 55 = .ok (.ireturn, 1) := by decide +kernel
theorem dX8_sumOf_56 : decode cX8_sumOf 56 = .ok (.iinc 2 1, 3) := by decide +kernel
theorem dX8_sumOf_59 : decode cX8_sumOf 59 = .ok (.goto (-57), 3) := by decide +kernel
theorem dX8_sumOf_62 : decode cX8_sumOf 62 = .ok (.iconst 0, 1) := by decide +kernel
theorem dX8_sumOf_63 : decode cX8_sumOf 63 = .ok (.ireturn, 1) := by decide +kernel
theorem dX8_run_0 : decode cX8_run 0 = .ok (.iconst 0, 1) := by decide +kernel
theorem dX8_run_1 : decode cX8_run 1 = .ok (.istore_n 3, 1) := by decide +kernel
theorem dX8_run_2 : decode cX8_run 2 = .ok (.iload_n 1, 1) := by decide +kernel
theorem dX8_run_3 : decode cX8_run 3 = .ok (.istore 4, 2) := by decide +kernel
theorem dX8_run_5 : decode cX8_run 5 = .ok (.iload 4, 2) := by decide +kernel
theorem dX8_run_7 : decode cX8_run 7 = .ok (.iload_n 2, 1) := by decide +kernel
theorem dX8_run_8 : decode cX8_run 8 = .ok (.if_icmp .ge 169, 3) := by decide +kernel
theorem dX8_run_11 : decode cX8_run 11 = .ok (.aload_n 0, 1) := by decide +kernel
theorem dX8_run_12 : decode cX8_run 12 = .ok (.getfield 33, 3) := by decide +kernel
theorem dX8_run_15 : decode cX8_run 15 = .ok (.iload 4, 2) := by decide +kernel
theorem dX8_run_17 : decode cX8_run 17 = .ok (.iaload, 1) := by decide +kernel
theorem dX8_run_18 : decode cX8_run 18 = .ok (.sipush 10000, 3) := by decide +kernel
theorem dX8_run_21 : decode cX8_run 21 = .ok (.idiv, 1) := by decide +kernel
theorem dX8_run_22 : decode cX8_run 22 = .ok (.istore 5, 2) := by decide +kernel
theorem dX8_run_24 : decode cX8_run 24 = .ok (.iload 5, 2) := by decide +kernel
theorem dX8_run_26 : decode cX8_run 26 = .ok (.iconst 2, 1) := by decide +kernel
theorem dX8_run_27 : decode cX8_run 27 = .ok (.if_icmp .gt 7, 3) := by decide +kernel
theorem dX8_run_30 : decode cX8_run 30 = .ok (.iconst 0, 1) := by decide +kernel
theorem dX8_run_31 : decode cX8_run 31 = .ok (.goto 14, 3) := by decide +kernel
theorem dX8_run_34 : decode cX8_run 34 = .ok (.iload 5, 2) := by decide +kernel
theorem dX8_run_36 : decode cX8_run 36 = .ok (.iconst 3, 1) := by decide +kernel
theorem dX8_run_37 : decode cX8_run 37 = .ok (.if_icmp .ne 7, 3) := by decide +kernel
theorem dX8_run_40 : decode cX8_run 40 = .ok (.iconst 1, 1) := by decide +kernel
theorem dX8_run_41 : decode cX8_run 41 = .ok (.goto 4, 3) := by decide +kernel
theorem dX8_run_44 : decode cX8_run 44 = .ok (.iconst 2, 1) := by decide +kernel
theorem dX8_run_45 : decode cX8_run 45 = .ok (.istore 6, 2) := by decide +kernel
theorem dX8_run_47 : decode cX8_run 47 = .ok (.iload_n 3, 1) := by decide +kernel
theorem dX8_run_48 : decode cX8_run 48 = .ok (.iload 6, 2) := by decide +kernel
theorem dX8_run_50 : decode cX8_run 50 = .ok (.if_icmp .lt 12, 3) := by decide +kernel
theorem dX8_run_53 : decode cX8_run 53 = .ok (.iload_n 3, 1) := by decide +kernel
theorem dX8_run_54 : decode cX8_run 54 = .ok (.iload 6, 2) := by decide +kernel
theorem dX8_run_56 : decode cX8_run 56 = .ok (.isub, 1) := by decide +kernel
theorem dX8_run_57 : decode cX8_run 57 = .ok (.bipush 64, 2) := by decide +kernel
theorem dX8_run_59 : decode cX8_run 59 = .ok (.if_icmp .lt 5, 3) := by decide +kernel
theorem dX8_run_62 : decode cX8_run 62 = .ok (.iconst 0, 1) := by decide +kernel
theorem dX8_run_63 : decode cX8_run 63 = .ok (.ireturn, 1) := by decide +kernel
theorem dX8_run_64 : decode cX8_run 64 = .ok (.iload 6, 2) := by decide +kernel
theorem dX8_run_66 : decode cX8_run 66 = .ok (.ifCond .le 14, 3) := by decide +kernel
theorem dX8_run_69 : decode cX8_run 69 = .ok (.aload_n 0, 1) := by decide +kernel
theorem dX8_run_70 : decode cX8_run 70 = .ok (.getfield 39, 3) := by decide +kernel
theorem dX8_run_73 : decode cX8_run 73 = .ok (.iload_n 3, 1) := by decide +kernel
theorem dX8_run_74 : decode cX8_run 74 = .ok (.iconst 1, 1) := by decide +kernel
theorem dX8_run_75 : decode cX8_run 75 = .ok (.isub, 1) := by decide +kernel
theorem dX8_run_76 : decode cX8_run 76 = .ok (.iaload, 1) := by decide +kernel
theorem dX8_run_77 : decode cX8_run 77 = .ok (.goto 14, 3) := by decide +kernel
theorem dX8_run_80 : decode cX8_run 80 = .ok (.aload_n 0, 1) := by decide +kernel
theorem dX8_run_81 : decode cX8_run 81 = .ok (.getfield 33, 3) := by decide +kernel
theorem dX8_run_84 : decode cX8_run 84 = .ok (.iload 4, 2) := by decide +kernel
theorem dX8_run_86 : decode cX8_run 86 = .ok (.iaload, 1) := by decide +kernel
theorem dX8_run_87 : decode cX8_run 87 = .ok (.sipush 10000, 3) := by decide +kernel
theorem dX8_run_90 : decode cX8_run 90 = .ok (.irem, 1) := by decide +kernel
theorem dX8_run_91 : decode cX8_run 91 = .ok (.istore 7, 2) := by decide +kernel
theorem dX8_run_93 : decode cX8_run 93 = .ok (.iload 6, 2) := by decide +kernel
theorem dX8_run_95 : decode cX8_run 95 = .ok (.iconst 1, 1) := by decide +kernel
theorem dX8_run_96 : decode cX8_run 96 = .ok (.if_icmp .le 14, 3) := by decide +kernel
theorem dX8_run_99 : decode cX8_run 99 = .ok (.aload_n 0, 1) := by decide +kernel
theorem dX8_run_100 : decode cX8_run 100 = .ok (.getfield 39, 3) := by decide +kernel
theorem dX8_run_103 : decode cX8_run 103 = .ok (.iload_n 3, 1) := by decide +kernel
theorem dX8_run_104 : decode cX8_run 104 = .ok (.iconst 2, 1) := by decide +kernel
theorem dX8_run_105 : decode cX8_run 105 = .ok (.isub, 1) := by decide +kernel
theorem dX8_run_106 : decode cX8_run 106 = .ok (.iaload, 1) := by decide +kernel
theorem dX8_run_107 : decode cX8_run 107 = .ok (.goto 4, 3) := by decide +kernel
theorem dX8_run_110 : decode cX8_run 110 = .ok (.iconst 0, 1) := by decide +kernel
theorem dX8_run_111 : decode cX8_run 111 = .ok (.istore 8, 2) := by decide +kernel
theorem dX8_run_113 : decode cX8_run 113 = .ok (.iload_n 3, 1) := by decide +kernel
theorem dX8_run_114 : decode cX8_run 114 = .ok (.iload 6, 2) := by decide +kernel
theorem dX8_run_116 : decode cX8_run 116 = .ok (.isub, 1) := by decide +kernel
theorem dX8_run_117 : decode cX8_run 117 = .ok (.istore_n 3, 1) := by decide +kernel
theorem dX8_run_118 : decode cX8_run 118 = .ok (.iload 6, 2) := by decide +kernel
theorem dX8_run_120 : decode cX8_run 120 = .ok (.iconst 1, 1) := by decide +kernel
theorem dX8_run_121 : decode cX8_run 121 = .ok (.if_icmp .le 15, 3) := by decide +kernel
theorem dX8_run_124 : decode cX8_run 124 = .ok (.iload 5, 2) := by decide +kernel
theorem dX8_run_126 : decode cX8_run 126 = .ok (.iload 8, 2) := by decide +kernel
theorem dX8_run_128 : decode cX8_run 128 = .ok (.iload 7, 2) := by decide +kernel
theorem dX8_run_130 : decode cX8_run 130 = .ok (.invokestatic 59, 3) := by decide +kernel
theorem dX8_run_133 : decode cX8_run 133 = .ok (.goto 12, 3) := by decide +kernel
theorem dX8_run_136 : decode cX8_run 136 = .ok (.aload_n 0, 1) := by decide +kernel
theorem dX8_run_137 : decode cX8_run 137 = .ok (.iload 5, 2) := by decide +kernel
theorem dX8_run_139 : decode cX8_run 139 = .ok (.iload 7, 2) := by decide +kernel
theorem dX8_run_141 : decode cX8_run 141 = .ok (.invokevirtual 63, 3) := by decide +kernel
theorem dX8_run_144 : decode cX8_run 144 = .ok (.i2l, 1) := by decide +kernel
theorem dX8_run_145 : decode cX8_run 145 = .ok (.lstore 9, 2) := by decide +kernel
theorem dX8_run_147 : decode cX8_run 147 = .ok (.aload_n 0, 1) := by decide +kernel
theorem dX8_run_148 : decode cX8_run 148 = .ok (.getfield 39, 3) := by decide +kernel
theorem dX8_run_151 : decode cX8_run 151 = .ok (.iload_n 3, 1) := by decide +kernel
theorem dX8_run_152 : decode cX8_run 152 = .ok (.ldc2_w 66, 3) := by decide +kernel
theorem dX8_run_155 : decode cX8_run 155 = .ok (.ldc2_w 68, 3) := by decide +kernel
theorem dX8_run_158 : decode cX8_run 158 = .ok (.lload 9, 2) := by decide +kernel
theorem dX8_run_160 : decode cX8_run 160 = .ok (.invokestatic 70, 3) := by decide +kernel
theorem dX8_run_163 : decode cX8_run 163 = .ok (.invokestatic 76, 3) := by decide +kernel
theorem dX8_run_166 : decode cX8_run 166 = .ok (.l2i, 1) := by decide +kernel
theorem dX8_run_167 : decode cX8_run 167 = .ok (.iastore, 1) := by decide +kernel
theorem dX8_run_168 : decode cX8_run 168 = .ok (.iinc 3 1, 3) := by decide +kernel
theorem dX8_run_171 : decode cX8_run 171 = .ok (.iinc 4 1, 3) := by decide +kernel
theorem dX8_run_174 : decode cX8_run 174 = .ok (.goto (-169), 3) := by decide +kernel
theorem dX8_run_177 : decode cX8_run 177 = .ok (.iload_n 3, 1) := by decide +kernel
theorem dX8_run_178 : decode cX8_run 178 = .ok (.iconst 1, 1) := by decide +kernel
theorem dX8_run_179 : decode cX8_run 179 = .ok (.if_icmp .ge 7, 3) := by decide +kernel
theorem dX8_run_182 : decode cX8_run 182 = .ok (.iconst 0, 1) := by decide +kernel
theorem dX8_run_183 : decode cX8_run 183 = .ok (.goto 11, 3) := by decide +kernel
theorem dX8_run_186 : decode cX8_run 186 = .ok (.aload_n 0, 1) := by decide +kernel
theorem dX8_run_187 : decode cX8_run 187 = .ok (.getfield 39, 3) := by decide +kernel
theorem dX8_run_190 : decode cX8_run 190 = .ok (.iload_n 3, 1) := by decide +kernel
theorem dX8_run_191 : decode cX8_run 191 = .ok (.iconst 1, 1) := by decide +kernel
theorem dX8_run_192 : decode cX8_run 192 = .ok (.isub, 1) := by decide +kernel
theorem dX8_run_193 : decode cX8_run 193 = .ok (.iaload, 1) := by decide +kernel
theorem dX8_run_194 : decode cX8_run 194 = .ok (.ireturn, 1) := by decide +kernel
theorem dX8_told_0 : decode cX8_told 0 = .ok (.iload_n 1, 1) := by decide +kernel
theorem dX8_told_1 : decode cX8_told 1 = .ok (.tableswitch 69 1 3 #[27, 48, 65], 27) := by decide +kernel
theorem dX8_told_28 : decode cX8_told 28 = .ok (.iload_n 2, 1) := by decide +kernel
theorem dX8_told_29 : decode cX8_told 29 = .ok (.ifCond .lt 18, 3) := by decide +kernel
theorem dX8_told_32 : decode cX8_told 32 = .ok (.iload_n 2, 1) := by decide +kernel
theorem dX8_told_33 : decode cX8_told 33 = .ok (.bipush 8, 2) := by decide +kernel
theorem dX8_told_35 : decode cX8_told 35 = .ok (.if_icmp .ge 12, 3) := by decide +kernel
theorem dX8_told_38 : decode cX8_told 38 = .ok (.aload_n 0, 1) := by decide +kernel
theorem dX8_told_39 : decode cX8_told 39 = .ok (.getfield 36, 3) := by decide +kernel
theorem dX8_told_42 : decode cX8_told 42 = .ok (.iload_n 2, 1) := by decide +kernel
theorem dX8_told_43 : decode cX8_told 43 = .ok (.iaload, 1) := by decide +kernel
theorem dX8_told_44 : decode cX8_told 44 = .ok (.goto 4, 3) := by decide +kernel
theorem dX8_told_47 : decode cX8_told 47 = .ok (.iconst 0, 1) := by decide +kernel
theorem dX8_told_48 : decode cX8_told 48 = .ok (.ireturn, 1) := by decide +kernel
theorem dX8_told_49 : decode cX8_told 49 = .ok (.aload_n 0, 1) := by decide +kernel
theorem dX8_told_50 : decode cX8_told 50 = .ok (.getfield 36, 3) := by decide +kernel
theorem dX8_told_53 : decode cX8_told 53 = .ok (.bipush 7, 2) := by decide +kernel
theorem dX8_told_55 : decode cX8_told 55 = .ok (.iaload, 1) := by decide +kernel
theorem dX8_told_56 : decode cX8_told 56 = .ok (.iload_n 2, 1) := by decide +kernel
theorem dX8_told_57 : decode cX8_told 57 = .ok (.if_icmp .ne 7, 3) := by decide +kernel
theorem dX8_told_60 : decode cX8_told 60 = .ok (.iconst 1, 1) := by decide +kernel
theorem dX8_told_61 : decode cX8_told 61 = .ok (.goto 4, 3) := by decide +kernel
theorem dX8_told_64 : decode cX8_told 64 = .ok (.iconst 0, 1) := by decide +kernel
theorem dX8_told_65 : decode cX8_told 65 = .ok (.ireturn, 1) := by decide +kernel
theorem dX8_told_66 : decode cX8_told 66 = .ok (.iconst 1, 1) := by decide +kernel
theorem dX8_told_67 : decode cX8_told 67 = .ok (.iload_n 2, 1) := by decide +kernel
theorem dX8_told_68 : decode cX8_told 68 = .ok (.isub, 1) := by decide +kernel
theorem dX8_told_69 : decode cX8_told 69 = .ok (.ireturn, 1) := by decide +kernel
theorem dX8_told_70 : decode cX8_told 70 = .ok (.iload_n 2, 1) := by decide +kernel
theorem dX8_told_71 : decode cX8_told 71 = .ok (.ireturn, 1) := by decide +kernel
theorem dX8_joined_0 : decode cX8_joined 0 = .ok (.iload_n 0, 1) := by decide +kernel
theorem dX8_joined_1 : decode cX8_joined 1 = .ok (.tableswitch 140 4 13 #[55, 61, 67, 73, 88, 95, 102, 113, 124, 135], 55) := by decide +kernel
theorem dX8_joined_56 : decode cX8_joined 56 = .ok (.iload_n 1, 1) := by decide +kernel
theorem dX8_joined_57 : decode cX8_joined 57 = .ok (.i2l, 1) := by decide +kernel
theorem dX8_joined_58 : decode cX8_joined 58 = .ok (.iload_n 2, 1) := by decide +kernel
theorem dX8_joined_59 : decode cX8_joined 59 = .ok (.i2l, 1) := by decide +kernel
theorem dX8_joined_60 : decode cX8_joined 60 = .ok (.ladd, 1) := by decide +kernel
theorem dX8_joined_61 : decode cX8_joined 61 = .ok (.lreturn, 1) := by decide +kernel
theorem dX8_joined_62 : decode cX8_joined 62 = .ok (.iload_n 1, 1) := by decide +kernel
theorem dX8_joined_63 : decode cX8_joined 63 = .ok (.i2l, 1) := by decide +kernel
theorem dX8_joined_64 : decode cX8_joined 64 = .ok (.iload_n 2, 1) := by decide +kernel
theorem dX8_joined_65 : decode cX8_joined 65 = .ok (.i2l, 1) := by decide +kernel
theorem dX8_joined_66 : decode cX8_joined 66 = .ok (.lsub, 1) := by decide +kernel
theorem dX8_joined_67 : decode cX8_joined 67 = .ok (.lreturn, 1) := by decide +kernel
theorem dX8_joined_68 : decode cX8_joined 68 = .ok (.iload_n 1, 1) := by decide +kernel
theorem dX8_joined_69 : decode cX8_joined 69 = .ok (.i2l, 1) := by decide +kernel
theorem dX8_joined_70 : decode cX8_joined 70 = .ok (.iload_n 2, 1) := by decide +kernel
theorem dX8_joined_71 : decode cX8_joined 71 = .ok (.i2l, 1) := by decide +kernel
theorem dX8_joined_72 : decode cX8_joined 72 = .ok (.lmul, 1) := by decide +kernel
theorem dX8_joined_73 : decode cX8_joined 73 = .ok (.lreturn, 1) := by decide +kernel
theorem dX8_joined_74 : decode cX8_joined 74 = .ok (.iload_n 2, 1) := by decide +kernel
theorem dX8_joined_75 : decode cX8_joined 75 = .ok (.ifCond .ne 7, 3) := by decide +kernel
theorem dX8_joined_78 : decode cX8_joined 78 = .ok (.lconst 0, 1) := by decide +kernel
theorem dX8_joined_79 : decode cX8_joined 79 = .ok (.goto 9, 3) := by decide +kernel
theorem dX8_joined_82 : decode cX8_joined 82 = .ok (.iload_n 1, 1) := by decide +kernel
theorem dX8_joined_83 : decode cX8_joined 83 = .ok (.iload_n 2, 1) := by decide +kernel
theorem dX8_joined_84 : decode cX8_joined 84 = .ok (.invokestatic 79, 3) := by decide +kernel
theorem dX8_joined_87 : decode cX8_joined 87 = .ok (.i2l, 1) := by decide +kernel
theorem dX8_joined_88 : decode cX8_joined 88 = .ok (.lreturn, 1) := by decide +kernel
theorem dX8_joined_89 : decode cX8_joined 89 = .ok (.iload_n 1, 1) := by decide +kernel
theorem dX8_joined_90 : decode cX8_joined 90 = .ok (.iload_n 2, 1) := by decide +kernel
theorem dX8_joined_91 : decode cX8_joined 91 = .ok (.invokestatic 82, 3) := by decide +kernel
theorem dX8_joined_94 : decode cX8_joined 94 = .ok (.i2l, 1) := by decide +kernel
theorem dX8_joined_95 : decode cX8_joined 95 = .ok (.lreturn, 1) := by decide +kernel
theorem dX8_joined_96 : decode cX8_joined 96 = .ok (.iload_n 1, 1) := by decide +kernel
theorem dX8_joined_97 : decode cX8_joined 97 = .ok (.iload_n 2, 1) := by decide +kernel
theorem dX8_joined_98 : decode cX8_joined 98 = .ok (.invokestatic 84, 3) := by decide +kernel
theorem dX8_joined_101 : decode cX8_joined 101 = .ok (.i2l, 1) := by decide +kernel
theorem dX8_joined_102 : decode cX8_joined 102 = .ok (.lreturn, 1) := by decide +kernel
theorem dX8_joined_103 : decode cX8_joined 103 = .ok (.iload_n 1, 1) := by decide +kernel
theorem dX8_joined_104 : decode cX8_joined 104 = .ok (.iload_n 2, 1) := by decide +kernel
theorem dX8_joined_105 : decode cX8_joined 105 = .ok (.if_icmp .ge 7, 3) := by decide +kernel
theorem dX8_joined_108 : decode cX8_joined 108 = .ok (.lconst 1, 1) := by decide +kernel
theorem dX8_joined_109 : decode cX8_joined 109 = .ok (.goto 4, 3) := by decide +kernel
theorem dX8_joined_112 : decode cX8_joined 112 = .ok (.lconst 0, 1) := by decide +kernel
theorem dX8_joined_113 : decode cX8_joined 113 = .ok (.lreturn, 1) := by decide +kernel
theorem dX8_joined_114 : decode cX8_joined 114 = .ok (.iload_n 1, 1) := by decide +kernel
theorem dX8_joined_115 : decode cX8_joined 115 = .ok (.iload_n 2, 1) := by decide +kernel
theorem dX8_joined_116 : decode cX8_joined 116 = .ok (.if_icmp .le 7, 3) := by decide +kernel
theorem dX8_joined_119 : decode cX8_joined 119 = .ok (.lconst 1, 1) := by decide +kernel
theorem dX8_joined_120 : decode cX8_joined 120 = .ok (.goto 4, 3) := by decide +kernel
theorem dX8_joined_123 : decode cX8_joined 123 = .ok (.lconst 0, 1) := by decide +kernel
theorem dX8_joined_124 : decode cX8_joined 124 = .ok (.lreturn, 1) := by decide +kernel
theorem dX8_joined_125 : decode cX8_joined 125 = .ok (.iload_n 1, 1) := by decide +kernel
theorem dX8_joined_126 : decode cX8_joined 126 = .ok (.iload_n 2, 1) := by decide +kernel
theorem dX8_joined_127 : decode cX8_joined 127 = .ok (.if_icmp .ne 7, 3) := by decide +kernel
theorem dX8_joined_130 : decode cX8_joined 130 = .ok (.lconst 1, 1) := by decide +kernel
theorem dX8_joined_131 : decode cX8_joined 131 = .ok (.goto 4, 3) := by decide +kernel
theorem dX8_joined_134 : decode cX8_joined 134 = .ok (.lconst 0, 1) := by decide +kernel
theorem dX8_joined_135 : decode cX8_joined 135 = .ok (.lreturn, 1) := by decide +kernel
theorem dX8_joined_136 : decode cX8_joined 136 = .ok (.iload_n 1, 1) := by decide +kernel
theorem dX8_joined_137 : decode cX8_joined 137 = .ok (.iload_n 2, 1) := by decide +kernel
theorem dX8_joined_138 : decode cX8_joined 138 = .ok (.iand, 1) := by decide +kernel
theorem dX8_joined_139 : decode cX8_joined 139 = .ok (.i2l, 1) := by decide +kernel
theorem dX8_joined_140 : decode cX8_joined 140 = .ok (.lreturn, 1) := by decide +kernel
theorem dX8_joined_141 : decode cX8_joined 141 = .ok (.iload_n 1, 1) := by decide +kernel
theorem dX8_joined_142 : decode cX8_joined 142 = .ok (.iload_n 2, 1) := by decide +kernel
theorem dX8_joined_143 : decode cX8_joined 143 = .ok (.ior, 1) := by decide +kernel
theorem dX8_joined_144 : decode cX8_joined 144 = .ok (.i2l, 1) := by decide +kernel
theorem dX8_joined_145 : decode cX8_joined 145 = .ok (.lreturn, 1) := by decide +kernel
theorem dX9_init_0 : decode cX9_init 0 = .ok (.aload_n 0, 1) := by decide +kernel
theorem dX9_init_1 : decode cX9_init 1 = .ok (.invokespecial 3, 3) := by decide +kernel
theorem dX9_init_4 : decode cX9_init 4 = .ok (.aload_n 0, 1) := by decide +kernel
theorem dX9_init_5 : decode cX9_init 5 = .ok (.sipush 700, 3) := by decide +kernel
theorem dX9_init_8 : decode cX9_init 8 = .ok (.newarray .byte, 2) := by decide +kernel
theorem dX9_init_10 : decode cX9_init 10 = .ok (.putfield 11, 3) := by decide +kernel
theorem dX9_init_13 : decode cX9_init 13 = .ok (.aload_n 0, 1) := by decide +kernel
theorem dX9_init_14 : decode cX9_init 14 = .ok (.iconst 0, 1) := by decide +kernel
theorem dX9_init_15 : decode cX9_init 15 = .ok (.putfield 15, 3) := by decide +kernel
theorem dX9_init_18 : decode cX9_init 18 = .ok (.return_, 1) := by decide +kernel
theorem dX9_addFour_0 : decode cX9_addFour 0 = .ok (.bipush 24, 2) := by decide +kernel
theorem dX9_addFour_2 : decode cX9_addFour 2 = .ok (.istore_n 2, 1) := by decide +kernel
theorem dX9_addFour_3 : decode cX9_addFour 3 = .ok (.iload_n 2, 1) := by decide +kernel
theorem dX9_addFour_4 : decode cX9_addFour 4 = .ok (.ifCond .lt 42, 3) := by decide +kernel
theorem dX9_addFour_7 : decode cX9_addFour 7 = .ok (.aload_n 0, 1) := by decide +kernel
theorem dX9_addFour_8 : decode cX9_addFour 8 = .ok (.getfield 15, 3) := by decide +kernel
theorem dX9_addFour_11 : decode cX9_addFour 11 = .ok (.sipush 700, 3) := by decide +kernel
theorem dX9_addFour_14 : decode cX9_addFour 14 = .ok (.if_icmp .ge 32, 3) := by decide +kernel
theorem dX9_addFour_17 : decode cX9_addFour 17 = .ok (.aload_n 0, 1) := by decide +kernel
theorem dX9_addFour_18 : decode cX9_addFour 18 = .ok (.getfield 11, 3) := by decide +kernel
theorem dX9_addFour_21 : decode cX9_addFour 21 = .ok (.aload_n 0, 1) := by decide +kernel
theorem dX9_addFour_22 : decode cX9_addFour 22 = .ok (.getfield 15, 3) := by decide +kernel
theorem dX9_addFour_25 : decode cX9_addFour 25 = .ok (.iload_n 1, 1) := by decide +kernel
theorem dX9_addFour_26 : decode cX9_addFour 26 = .ok (.iload_n 2, 1) := by decide +kernel
theorem dX9_addFour_27 : decode cX9_addFour 27 = .ok (.iushr, 1) := by decide +kernel
theorem dX9_addFour_28 : decode cX9_addFour 28 = .ok (.i2b, 1) := by decide +kernel
theorem dX9_addFour_29 : decode cX9_addFour 29 = .ok (.bastore, 1) := by decide +kernel
theorem dX9_addFour_30 : decode cX9_addFour 30 = .ok (.aload_n 0, 1) := by decide +kernel
theorem dX9_addFour_31 : decode cX9_addFour 31 = .ok (.dup, 1) := by decide +kernel
theorem dX9_addFour_32 : decode cX9_addFour 32 = .ok (.getfield 15, 3) := by decide +kernel
theorem dX9_addFour_35 : decode cX9_addFour 35 = .ok (.iconst 1, 1) := by decide +kernel
theorem dX9_addFour_36 : decode cX9_addFour 36 = .ok (.iadd, 1) := by decide +kernel
theorem dX9_addFour_37 : decode cX9_addFour 37 = .ok (.putfield 15, 3) := by decide +kernel
theorem dX9_addFour_40 : decode cX9_addFour 40 = .ok (.iinc 2 (-8), 3) := by decide +kernel
theorem dX9_addFour_43 : decode cX9_addFour 43 = .ok (.goto (-40), 3) := by decide +kernel
theorem dX9_addFour_46 : decode cX9_addFour 46 = .ok (.return_, 1) := by decide +kernel
theorem dX9_byteAt_0 : decode cX9_byteAt 0 = .ok (.iload_n 1, 1) := by decide +kernel
theorem dX9_byteAt_1 : decode cX9_byteAt 1 = .ok (.ifCond .lt 24, 3) := by decide +kernel
theorem dX9_byteAt_4 : decode cX9_byteAt 4 = .ok (.iload_n 1, 1) := by decide +kernel
theorem dX9_byteAt_5 : decode cX9_byteAt 5 = .ok (.aload_n 0, 1) := by decide +kernel
theorem dX9_byteAt_6 : decode cX9_byteAt 6 = .ok (.getfield 15, 3) := by decide +kernel
theorem dX9_byteAt_9 : decode cX9_byteAt 9 = .ok (.if_icmp .ge 16, 3) := by decide +kernel
theorem dX9_byteAt_12 : decode cX9_byteAt 12 = .ok (.aload_n 0, 1) := by decide +kernel
theorem dX9_byteAt_13 : decode cX9_byteAt 13 = .ok (.getfield 11, 3) := by decide +kernel
theorem dX9_byteAt_16 : decode cX9_byteAt 16 = .ok (.iload_n 1, 1) := by decide +kernel
theorem dX9_byteAt_17 : decode cX9_byteAt 17 = .ok (.baload, 1) := by decide +kernel
theorem dX9_byteAt_18 : decode cX9_byteAt 18 = .ok (.sipush 255, 3) := by decide +kernel
theorem dX9_byteAt_21 : decode cX9_byteAt 21 = .ok (.iand, 1) := by decide +kernel
theorem dX9_byteAt_22 : decode cX9_byteAt 22 = .ok (.goto 4, 3) := by decide +kernel
theorem dX9_byteAt_25 : decode cX9_byteAt 25 = .ok (.iconst (-1), 1) := by decide +kernel
theorem dX9_byteAt_26 : decode cX9_byteAt 26 = .ok (.ireturn, 1) := by decide +kernel
theorem dX10_init_0 : decode cX10_init 0 = .ok (.aload_n 0, 1) := by decide +kernel
theorem dX10_init_1 : decode cX10_init 1 = .ok (.invokespecial 3, 3) := by decide +kernel
theorem dX10_init_4 : decode cX10_init 4 = .ok (.aload_n 0, 1) := by decide +kernel
theorem dX10_init_5 : decode cX10_init 5 = .ok (.new 9, 3) := by decide +kernel
theorem dX10_init_8 : decode cX10_init 8 = .ok (.dup, 1) := by decide +kernel
theorem dX10_init_9 : decode cX10_init 9 = .ok (.invokespecial 11, 3) := by decide +kernel
theorem dX10_init_12 : decode cX10_init 12 = .ok (.putfield 12, 3) := by decide +kernel
theorem dX10_init_15 : decode cX10_init 15 = .ok (.aload_n 0, 1) := by decide +kernel
theorem dX10_init_16 : decode cX10_init 16 = .ok (.new 16, 3) := by decide +kernel
theorem dX10_init_19 : decode cX10_init 19 = .ok (.dup, 1) := by decide +kernel
theorem dX10_init_20 : decode cX10_init 20 = .ok (.invokespecial 18, 3) := by decide +kernel
theorem dX10_init_23 : decode cX10_init 23 = .ok (.putfield 19, 3) := by decide +kernel
theorem dX10_init_26 : decode cX10_init 26 = .ok (.aload_n 0, 1) := by decide +kernel
theorem dX10_init_27 : decode cX10_init 27 = .ok (.new 23, 3) := by decide +kernel
theorem dX10_init_30 : decode cX10_init 30 = .ok (.dup, 1) := by decide +kernel
theorem dX10_init_31 : decode cX10_init 31 = .ok (.invokespecial 25, 3) := by decide +kernel
theorem dX10_init_34 : decode cX10_init 34 = .ok (.putfield 26, 3) := by decide +kernel
theorem dX10_init_37 : decode cX10_init 37 = .ok (.aload_n 0, 1) := by decide +kernel
theorem dX10_init_38 : decode cX10_init 38 = .ok (.new 30, 3) := by decide +kernel
theorem dX10_init_41 : decode cX10_init 41 = .ok (.dup, 1) := by decide +kernel
theorem dX10_init_42 : decode cX10_init 42 = .ok (.invokespecial 32, 3) := by decide +kernel
theorem dX10_init_45 : decode cX10_init 45 = .ok (.putfield 33, 3) := by decide +kernel
theorem dX10_init_48 : decode cX10_init 48 = .ok (.aload_n 0, 1) := by decide +kernel
theorem dX10_init_49 : decode cX10_init 49 = .ok (.new 37, 3) := by decide +kernel
theorem dX10_init_52 : decode cX10_init 52 = .ok (.dup, 1) := by decide +kernel
theorem dX10_init_53 : decode cX10_init 53 = .ok (.invokespecial 39, 3) := by decide +kernel
theorem dX10_init_56 : decode cX10_init 56 = .ok (.putfield 40, 3) := by decide +kernel
theorem dX10_init_59 : decode cX10_init 59 = .ok (.aload_n 0, 1) := by decide +kernel
theorem dX10_init_60 : decode cX10_init 60 = .ok (.new 44, 3) := by decide +kernel
theorem dX10_init_63 : decode cX10_init 63 = .ok (.dup, 1) := by decide +kernel
theorem dX10_init_64 : decode cX10_init 64 = .ok (.invokespecial 46, 3) := by decide +kernel
theorem dX10_init_67 : decode cX10_init 67 = .ok (.putfield 47, 3) := by decide +kernel
theorem dX10_init_70 : decode cX10_init 70 = .ok (.aload_n 0, 1) := by decide +kernel
theorem dX10_init_71 : decode cX10_init 71 = .ok (.new 51, 3) := by decide +kernel
theorem dX10_init_74 : decode cX10_init 74 = .ok (.dup, 1) := by decide +kernel
theorem dX10_init_75 : decode cX10_init 75 = .ok (.invokespecial 53, 3) := by decide +kernel
theorem dX10_init_78 : decode cX10_init 78 = .ok (.putfield 54, 3) := by decide +kernel
theorem dX10_init_81 : decode cX10_init 81 = .ok (.aload_n 0, 1) := by decide +kernel
theorem dX10_init_82 : decode cX10_init 82 = .ok (.new 58, 3) := by decide +kernel
theorem dX10_init_85 : decode cX10_init 85 = .ok (.dup, 1) := by decide +kernel
theorem dX10_init_86 : decode cX10_init 86 = .ok (.invokespecial 60, 3) := by decide +kernel
theorem dX10_init_89 : decode cX10_init 89 = .ok (.putfield 61, 3) := by decide +kernel
theorem dX10_init_92 : decode cX10_init 92 = .ok (.aload_n 0, 1) := by decide +kernel
theorem dX10_init_93 : decode cX10_init 93 = .ok (.new 65, 3) := by decide +kernel
theorem dX10_init_96 : decode cX10_init 96 = .ok (.dup, 1) := by decide +kernel
theorem dX10_init_97 : decode cX10_init 97 = .ok (.invokespecial 67, 3) := by decide +kernel
theorem dX10_init_100 : decode cX10_init 100 = .ok (.putfield 68, 3) := by decide +kernel
theorem dX10_init_103 : decode cX10_init 103 = .ok (.aload_n 0, 1) := by decide +kernel
theorem dX10_init_104 : decode cX10_init 104 = .ok (.new 65, 3) := by decide +kernel
theorem dX10_init_107 : decode cX10_init 107 = .ok (.dup, 1) := by decide +kernel
theorem dX10_init_108 : decode cX10_init 108 = .ok (.invokespecial 67, 3) := by decide +kernel
theorem dX10_init_111 : decode cX10_init 111 = .ok (.putfield 72, 3) := by decide +kernel
theorem dX10_init_114 : decode cX10_init 114 = .ok (.aload_n 0, 1) := by decide +kernel
theorem dX10_init_115 : decode cX10_init 115 = .ok (.new 75, 3) := by decide +kernel
theorem dX10_init_118 : decode cX10_init 118 = .ok (.dup, 1) := by decide +kernel
theorem dX10_init_119 : decode cX10_init 119 = .ok (.aload_n 0, 1) := by decide +kernel
theorem dX10_init_120 : decode cX10_init 120 = .ok (.getfield 12, 3) := by decide +kernel
theorem dX10_init_123 : decode cX10_init 123 = .ok (.aload_n 0, 1) := by decide +kernel
theorem dX10_init_124 : decode cX10_init 124 = .ok (.getfield 72, 3) := by decide +kernel
theorem dX10_init_127 : decode cX10_init 127 = .ok (.invokespecial 77, 3) := by decide +kernel
theorem dX10_init_130 : decode cX10_init 130 = .ok (.putfield 80, 3) := by decide +kernel
theorem dX10_init_133 : decode cX10_init 133 = .ok (.aload_n 0, 1) := by decide +kernel
theorem dX10_init_134 : decode cX10_init 134 = .ok (.iconst 1, 1) := by decide +kernel
theorem dX10_init_135 : decode cX10_init 135 = .ok (.putfield 84, 3) := by decide +kernel
theorem dX10_init_138 : decode cX10_init 138 = .ok (.aload_n 0, 1) := by decide +kernel
theorem dX10_init_139 : decode cX10_init 139 = .ok (.iconst (-1), 1) := by decide +kernel
theorem dX10_init_140 : decode cX10_init 140 = .ok (.putfield 88, 3) := by decide +kernel
theorem dX10_init_143 : decode cX10_init 143 = .ok (.aload_n 0, 1) := by decide +kernel
theorem dX10_init_144 : decode cX10_init 144 = .ok (.iconst 0, 1) := by decide +kernel
theorem dX10_init_145 : decode cX10_init 145 = .ok (.putfield 91, 3) := by decide +kernel
theorem dX10_init_148 : decode cX10_init 148 = .ok (.aload_n 0, 1) := by decide +kernel
theorem dX10_init_149 : decode cX10_init 149 = .ok (.iconst (-1), 1) := by decide +kernel
theorem dX10_init_150 : decode cX10_init 150 = .ok (.putfield 94, 3) := by decide +kernel
theorem dX10_init_153 : decode cX10_init 153 = .ok (.aload_n 0, 1) := by decide +kernel
theorem dX10_init_154 : decode cX10_init 154 = .ok (.getfield 26, 3) := by decide +kernel
theorem dX10_init_157 : decode cX10_init 157 = .ok (.iconst 1, 1) := by decide +kernel
theorem dX10_init_158 : decode cX10_init 158 = .ok (.iconst 1, 1) := by decide +kernel
theorem dX10_init_159 : decode cX10_init 159 = .ok (.invokevirtual 97, 3) := by decide +kernel
theorem dX10_init_162 : decode cX10_init 162 = .ok (.return_, 1) := by decide +kernel
theorem dX10_feed_0 : decode cX10_feed 0 = .ok (.aload_n 0, 1) := by decide +kernel
theorem dX10_feed_1 : decode cX10_feed 1 = .ok (.getfield 12, 3) := by decide +kernel
theorem dX10_feed_4 : decode cX10_feed 4 = .ok (.getfield 101, 3) := by decide +kernel
theorem dX10_feed_7 : decode cX10_feed 7 = .ok (.sipush 680, 3) := by decide +kernel
theorem dX10_feed_10 : decode cX10_feed 10 = .ok (.if_icmp .le 5, 3) := by decide +kernel
theorem dX10_feed_13 : decode cX10_feed 13 = .ok (.iconst (-1), 1) := by decide +kernel
theorem dX10_feed_14 : decode cX10_feed 14 = .ok (.ireturn, 1) := by decide +kernel
theorem dX10_feed_15 : decode cX10_feed 15 = .ok (.aload_n 0, 1) := by decide +kernel
theorem dX10_feed_16 : decode cX10_feed 16 = .ok (.getfield 12, 3) := by decide +kernel
theorem dX10_feed_19 : decode cX10_feed 19 = .ok (.iload_n 1, 1) := by decide +kernel
theorem dX10_feed_20 : decode cX10_feed 20 = .ok (.invokevirtual 104, 3) := by decide +kernel
theorem dX10_feed_23 : decode cX10_feed 23 = .ok (.aload_n 0, 1) := by decide +kernel
theorem dX10_feed_24 : decode cX10_feed 24 = .ok (.getfield 12, 3) := by decide +kernel
theorem dX10_feed_27 : decode cX10_feed 27 = .ok (.iload_n 2, 1) := by decide +kernel
theorem dX10_feed_28 : decode cX10_feed 28 = .ok (.invokevirtual 104, 3) := by decide +kernel
theorem dX10_feed_31 : decode cX10_feed 31 = .ok (.aload_n 0, 1) := by decide +kernel
theorem dX10_feed_32 : decode cX10_feed 32 = .ok (.getfield 12, 3) := by decide +kernel
theorem dX10_feed_35 : decode cX10_feed 35 = .ok (.iload_n 3, 1) := by decide +kernel
theorem dX10_feed_36 : decode cX10_feed 36 = .ok (.invokevirtual 104, 3) := by decide +kernel
theorem dX10_feed_39 : decode cX10_feed 39 = .ok (.aload_n 0, 1) := by decide +kernel
theorem dX10_feed_40 : decode cX10_feed 40 = .ok (.getfield 12, 3) := by decide +kernel
theorem dX10_feed_43 : decode cX10_feed 43 = .ok (.iload 4, 2) := by decide +kernel
theorem dX10_feed_45 : decode cX10_feed 45 = .ok (.invokevirtual 104, 3) := by decide +kernel
theorem dX10_feed_48 : decode cX10_feed 48 = .ok (.aload_n 0, 1) := by decide +kernel
theorem dX10_feed_49 : decode cX10_feed 49 = .ok (.getfield 12, 3) := by decide +kernel
theorem dX10_feed_52 : decode cX10_feed 52 = .ok (.iload 5, 2) := by decide +kernel
theorem dX10_feed_54 : decode cX10_feed 54 = .ok (.invokevirtual 104, 3) := by decide +kernel
theorem dX10_feed_57 : decode cX10_feed 57 = .ok (.aload_n 0, 1) := by decide +kernel
theorem dX10_feed_58 : decode cX10_feed 58 = .ok (.getfield 12, 3) := by decide +kernel
theorem dX10_feed_61 : decode cX10_feed 61 = .ok (.getfield 101, 3) := by decide +kernel
theorem dX10_feed_64 : decode cX10_feed 64 = .ok (.ireturn, 1) := by decide +kernel
theorem dX10_end_0 : decode cX10_end 0 = .ok (.iload_n 1, 1) := by decide +kernel
theorem dX10_end_1 : decode cX10_end 1 = .ok (.ifCond .lt 14, 3) := by decide +kernel
theorem dX10_end_4 : decode cX10_end 4 = .ok (.iload_n 1, 1) := by decide +kernel
theorem dX10_end_5 : decode cX10_end 5 = .ok (.aload_n 0, 1) := by decide +kernel
theorem dX10_end_6 : decode cX10_end 6 = .ok (.getfield 12, 3) := by decide +kernel
theorem dX10_end_9 : decode cX10_end 9 = .ok (.getfield 101, 3) := by decide +kernel
theorem dX10_end_12 : decode cX10_end 12 = .ok (.if_icmp .le 5, 3) := by decide +kernel
theorem dX10_end_15 : decode cX10_end 15 = .ok (.iconst 0, 1) := by decide +kernel
theorem dX10_end_16 : decode cX10_end 16 = .ok (.ireturn, 1) := by decide +kernel
theorem dX10_end_17 : decode cX10_end 17 = .ok (.aload_n 0, 1) := by decide +kernel
theorem dX10_end_18 : decode cX10_end 18 = .ok (.getfield 12, 3) := by decide +kernel
theorem dX10_end_21 : decode cX10_end 21 = .ok (.iload_n 1, 1) := by decide +kernel
theorem dX10_end_22 : decode cX10_end 22 = .ok (.putfield 101, 3) := by decide +kernel
theorem dX10_end_25 : decode cX10_end 25 = .ok (.iconst 1, 1) := by decide +kernel
theorem dX10_end_26 : decode cX10_end 26 = .ok (.ireturn, 1) := by decide +kernel
theorem dX10_text_0 : decode cX10_text 0 = .ok (.iload_n 1, 1) := by decide +kernel
theorem dX10_text_1 : decode cX10_text 1 = .ok (.iconst 1, 1) := by decide +kernel
theorem dX10_text_2 : decode cX10_text 2 = .ok (.bipush 8, 2) := by decide +kernel
theorem dX10_text_4 : decode cX10_text 4 = .ok (.invokestatic 108, 3) := by decide +kernel
theorem dX10_text_7 : decode cX10_text 7 = .ok (.ifCond .eq 17, 3) := by decide +kernel
theorem dX10_text_10 : decode cX10_text 10 = .ok (.iload_n 2, 1) := by decide +kernel
theorem dX10_text_11 : decode cX10_text 11 = .ok (.iconst 1, 1) := by decide +kernel
theorem dX10_text_12 : decode cX10_text 12 = .ok (.bipush 8, 2) := by decide +kernel
theorem dX10_text_14 : decode cX10_text 14 = .ok (.invokestatic 108, 3) := by decide +kernel
theorem dX10_text_17 : decode cX10_text 17 = .ok (.ifCond .eq 7, 3) := by decide +kernel
theorem dX10_text_20 : decode cX10_text 20 = .ok (.iconst 1, 1) := by decide +kernel
theorem dX10_text_21 : decode cX10_text 21 = .ok (.goto 4, 3) := by decide +kernel
theorem dX10_text_24 : decode cX10_text 24 = .ok (.iconst 0, 1) := by decide +kernel
theorem dX10_text_25 : decode cX10_text 25 = .ok (.istore_n 3, 1) := by decide +kernel
theorem dX10_text_26 : decode cX10_text 26 = .ok (.iload_n 3, 1) := by decide +kernel
theorem dX10_text_27 : decode cX10_text 27 = .ok (.ifCond .eq 14, 3) := by decide +kernel
theorem dX10_text_30 : decode cX10_text 30 = .ok (.aload_n 0, 1) := by decide +kernel
theorem dX10_text_31 : decode cX10_text 31 = .ok (.getfield 80, 3) := by decide +kernel
theorem dX10_text_34 : decode cX10_text 34 = .ok (.aload_n 0, 1) := by decide +kernel
theorem dX10_text_35 : decode cX10_text 35 = .ok (.getfield 72, 3) := by decide +kernel
theorem dX10_text_38 : decode cX10_text 38 = .ok (.invokevirtual 112, 3) := by decide +kernel
theorem dX10_text_41 : decode cX10_text 41 = .ok (.aload_n 0, 1) := by decide +kernel
theorem dX10_text_42 : decode cX10_text 42 = .ok (.getfield 12, 3) := by decide +kernel
theorem dX10_text_45 : decode cX10_text 45 = .ok (.iconst 0, 1) := by decide +kernel
theorem dX10_text_46 : decode cX10_text 46 = .ok (.putfield 101, 3) := by decide +kernel
theorem dX10_text_49 : decode cX10_text 49 = .ok (.iload_n 3, 1) := by decide +kernel
theorem dX10_text_50 : decode cX10_text 50 = .ok (.ifCond .ne 6, 3) := by decide +kernel
theorem dX10_text_53 : decode cX10_text 53 = .ok (.bipush (-2), 2) := by decide +kernel
theorem dX10_text_55 : decode cX10_text 55 = .ok (.ireturn, 1) := by decide +kernel
theorem dX10_text_56 : decode cX10_text 56 = .ok (.aload_n 0, 1) := by decide +kernel
theorem dX10_text_57 : decode cX10_text 57 = .ok (.aload_n 0, 1) := by decide +kernel
theorem dX10_text_58 : decode cX10_text 58 = .ok (.getfield 80, 3) := by decide +kernel
theorem dX10_text_61 : decode cX10_text 61 = .ok (.getfield 116, 3) := by decide +kernel
theorem dX10_text_64 : decode cX10_text 64 = .ok (.putfield 91, 3) := by decide +kernel
theorem dX10_text_67 : decode cX10_text 67 = .ok (.aload_n 0, 1) := by decide +kernel
theorem dX10_text_68 : decode cX10_text 68 = .ok (.aload_n 0, 1) := by decide +kernel
theorem dX10_text_69 : decode cX10_text 69 = .ok (.getfield 80, 3) := by decide +kernel
theorem dX10_text_72 : decode cX10_text 72 = .ok (.getfield 117, 3) := by decide +kernel
theorem dX10_text_75 : decode cX10_text 75 = .ok (.putfield 94, 3) := by decide +kernel
theorem dX10_text_78 : decode cX10_text 78 = .ok (.aload_n 0, 1) := by decide +kernel
theorem dX10_text_79 : decode cX10_text 79 = .ok (.getfield 91, 3) := by decide +kernel
theorem dX10_text_82 : decode cX10_text 82 = .ok (.ifCond .eq 5, 3) := by decide +kernel
theorem dX10_text_85 : decode cX10_text 85 = .ok (.iconst (-1), 1) := by decide +kernel
theorem dX10_text_86 : decode cX10_text 86 = .ok (.ireturn, 1) := by decide +kernel
theorem dX10_text_87 : decode cX10_text 87 = .ok (.aload_n 0, 1) := by decide +kernel
theorem dX10_text_88 : decode cX10_text 88 = .ok (.getfield 68, 3) := by decide +kernel
theorem dX10_text_91 : decode cX10_text 91 = .ok (.astore 4, 2) := by decide +kernel
theorem dX10_text_93 : decode cX10_text 93 = .ok (.aload_n 0, 1) := by decide +kernel
theorem dX10_text_94 : decode cX10_text 94 = .ok (.aload_n 0, 1) := by decide +kernel
theorem dX10_text_95 : decode cX10_text 95 = .ok (.getfield 72, 3) := by decide +kernel
theorem dX10_text_98 : decode cX10_text 98 = .ok (.putfield 68, 3) := by decide +kernel
theorem dX10_text_101 : decode cX10_text 101 = .ok (.aload_n 0, 1) := by decide +kernel
theorem dX10_text_102 : decode cX10_text 102 = .ok (.aload 4, 2) := by decide +kernel
theorem dX10_text_104 : decode cX10_text 104 = .ok (.putfield 72, 3) := by decide +kernel
theorem dX10_text_107 : decode cX10_text 107 = .ok (.aload_n 0, 1) := by decide +kernel
theorem dX10_text_108 : decode cX10_text 108 = .ok (.iload_n 1, 1) := by decide +kernel
theorem dX10_text_109 : decode cX10_text 109 = .ok (.iload_n 2, 1) := by decide +kernel
theorem dX10_text_110 : decode cX10_text 110 = .ok (.invokevirtual 120, 3) := by decide +kernel
theorem dX10_text_113 : decode cX10_text 113 = .ok (.aload_n 0, 1) := by decide +kernel
theorem dX10_text_114 : decode cX10_text 114 = .ok (.getfield 68, 3) := by decide +kernel
theorem dX10_text_117 : decode cX10_text 117 = .ok (.getfield 123, 3) := by decide +kernel
theorem dX10_text_120 : decode cX10_text 120 = .ok (.ireturn, 1) := by decide +kernel
theorem dX10_beginBoard_0 : decode cX10_beginBoard 0 = .ok (.aload_n 0, 1) := by decide +kernel
theorem dX10_beginBoard_1 : decode cX10_beginBoard 1 = .ok (.iload_n 1, 1) := by decide +kernel
theorem dX10_beginBoard_2 : decode cX10_beginBoard 2 = .ok (.iload_n 2, 1) := by decide +kernel
theorem dX10_beginBoard_3 : decode cX10_beginBoard 3 = .ok (.imul, 1) := by decide +kernel
theorem dX10_beginBoard_4 : decode cX10_beginBoard 4 = .ok (.putfield 84, 3) := by decide +kernel
theorem dX10_beginBoard_7 : decode cX10_beginBoard 7 = .ok (.aload_n 0, 1) := by decide +kernel
theorem dX10_beginBoard_8 : decode cX10_beginBoard 8 = .ok (.iconst (-1), 1) := by decide +kernel
theorem dX10_beginBoard_9 : decode cX10_beginBoard 9 = .ok (.putfield 88, 3) := by decide +kernel
theorem dX10_beginBoard_12 : decode cX10_beginBoard 12 = .ok (.aload_n 0, 1) := by decide +kernel
theorem dX10_beginBoard_13 : decode cX10_beginBoard 13 = .ok (.getfield 19, 3) := by decide +kernel
theorem dX10_beginBoard_16 : decode cX10_beginBoard 16 = .ok (.iconst 0, 1) := by decide +kernel
theorem dX10_beginBoard_17 : decode cX10_beginBoard 17 = .ok (.putfield 126, 3) := by decide +kernel
theorem dX10_beginBoard_20 : decode cX10_beginBoard 20 = .ok (.aload_n 0, 1) := by decide +kernel
theorem dX10_beginBoard_21 : decode cX10_beginBoard 21 = .ok (.getfield 26, 3) := by decide +kernel
theorem dX10_beginBoard_24 : decode cX10_beginBoard 24 = .ok (.iload_n 1, 1) := by decide +kernel
theorem dX10_beginBoard_25 : decode cX10_beginBoard 25 = .ok (.iload_n 2, 1) := by decide +kernel
theorem dX10_beginBoard_26 : decode cX10_beginBoard 26 = .ok (.invokevirtual 97, 3) := by decide +kernel
theorem dX10_beginBoard_29 : decode cX10_beginBoard 29 = .ok (.aload_n 0, 1) := by decide +kernel
theorem dX10_beginBoard_30 : decode cX10_beginBoard 30 = .ok (.getfield 33, 3) := by decide +kernel
theorem dX10_beginBoard_33 : decode cX10_beginBoard 33 = .ok (.iconst 0, 1) := by decide +kernel
theorem dX10_beginBoard_34 : decode cX10_beginBoard 34 = .ok (.putfield 129, 3) := by decide +kernel
theorem dX10_beginBoard_37 : decode cX10_beginBoard 37 = .ok (.aload_n 0, 1) := by decide +kernel
theorem dX10_beginBoard_38 : decode cX10_beginBoard 38 = .ok (.getfield 40, 3) := by decide +kernel
theorem dX10_beginBoard_41 : decode cX10_beginBoard 41 = .ok (.iconst 0, 1) := by decide +kernel
theorem dX10_beginBoard_42 : decode cX10_beginBoard 42 = .ok (.putfield 133, 3) := by decide +kernel
theorem dX10_beginBoard_45 : decode cX10_beginBoard 45 = .ok (.aload_n 0, 1) := by decide +kernel
theorem dX10_beginBoard_46 : decode cX10_beginBoard 46 = .ok (.getfield 47, 3) := by decide +kernel
theorem dX10_beginBoard_49 : decode cX10_beginBoard 49 = .ok (.iconst 0, 1) := by decide +kernel
theorem dX10_beginBoard_50 : decode cX10_beginBoard 50 = .ok (.putfield 134, 3) := by decide +kernel
theorem dX10_beginBoard_53 : decode cX10_beginBoard 53 = .ok (.aload_n 0, 1) := by decide +kernel
theorem dX10_beginBoard_54 : decode cX10_beginBoard 54 = .ok (.getfield 54, 3) := by decide +kernel
theorem dX10_beginBoard_57 : decode cX10_beginBoard 57 = .ok (.iconst 0, 1) := by decide +kernel
theorem dX10_beginBoard_58 : decode cX10_beginBoard 58 = .ok (.putfield 135, 3) := by decide +kernel
theorem dX10_beginBoard_61 : decode cX10_beginBoard 61 = .ok (.return_, 1) := by decide +kernel
theorem dX10_fault_0 : decode cX10_fault 0 = .ok (.iload_n 1, 1) := by decide +kernel
theorem dX10_fault_1 : decode cX10_fault 1 = .ok (.ifCond .ne 8, 3) := by decide +kernel
theorem dX10_fault_4 : decode cX10_fault 4 = .ok (.aload_n 0, 1) := by decide +kernel
theorem dX10_fault_5 : decode cX10_fault 5 = .ok (.getfield 91, 3) := by decide +kernel
theorem dX10_fault_8 : decode cX10_fault 8 = .ok (.ireturn, 1) := by decide +kernel
theorem dX10_fault_9 : decode cX10_fault 9 = .ok (.iload_n 1, 1) := by decide +kernel
theorem dX10_fault_10 : decode cX10_fault 10 = .ok (.iconst 1, 1) := by decide +kernel
theorem dX10_fault_11 : decode cX10_fault 11 = .ok (.if_icmp .ne 10, 3) := by decide +kernel
theorem dX10_fault_14 : decode cX10_fault 14 = .ok (.aload_n 0, 1) := by decide +kernel
theorem dX10_fault_15 : decode cX10_fault 15 = .ok (.getfield 94, 3) := by decide +kernel
theorem dX10_fault_18 : decode cX10_fault 18 = .ok (.goto 4, 3) := by decide +kernel
theorem dX10_fault_21 : decode cX10_fault 21 = .ok (.iconst (-1), 1) := by decide +kernel
theorem dX10_fault_22 : decode cX10_fault 22 = .ok (.ireturn, 1) := by decide +kernel
theorem dX10_kind_0 : decode cX10_kind 0 = .ok (.iload_n 1, 1) := by decide +kernel
theorem dX10_kind_1 : decode cX10_kind 1 = .ok (.iconst 0, 1) := by decide +kernel
theorem dX10_kind_2 : decode cX10_kind 2 = .ok (.aload_n 0, 1) := by decide +kernel
theorem dX10_kind_3 : decode cX10_kind 3 = .ok (.getfield 68, 3) := by decide +kernel
theorem dX10_kind_6 : decode cX10_kind 6 = .ok (.getfield 136, 3) := by decide +kernel
theorem dX10_kind_9 : decode cX10_kind 9 = .ok (.iconst 1, 1) := by decide +kernel
theorem dX10_kind_10 : decode cX10_kind 10 = .ok (.isub, 1) := by decide +kernel
theorem dX10_kind_11 : decode cX10_kind 11 = .ok (.invokestatic 108, 3) := by decide +kernel
theorem dX10_kind_14 : decode cX10_kind 14 = .ok (.ifCond .eq 12, 3) := by decide +kernel
theorem dX10_kind_17 : decode cX10_kind 17 = .ok (.iload_n 2, 1) := by decide +kernel
theorem dX10_kind_18 : decode cX10_kind 18 = .ok (.iconst 0, 1) := by decide +kernel
theorem dX10_kind_19 : decode cX10_kind 19 = .ok (.iconst 3, 1) := by decide +kernel
theorem dX10_kind_20 : decode cX10_kind 20 = .ok (.invokestatic 108, 3) := by decide +kernel
theorem dX10_kind_23 : decode cX10_kind 23 = .ok (.ifCond .ne 5, 3) := by decide +kernel
theorem dX10_kind_26 : decode cX10_kind 26 = .ok (.iconst (-1), 1) := by decide +kernel
theorem dX10_kind_27 : decode cX10_kind 27 = .ok (.ireturn, 1) := by decide +kernel
theorem dX10_kind_28 : decode cX10_kind 28 = .ok (.aload_n 0, 1) := by decide +kernel
theorem dX10_kind_29 : decode cX10_kind 29 = .ok (.getfield 68, 3) := by decide +kernel
theorem dX10_kind_32 : decode cX10_kind 32 = .ok (.iload_n 1, 1) := by decide +kernel
theorem dX10_kind_33 : decode cX10_kind 33 = .ok (.iload_n 2, 1) := by decide +kernel
theorem dX10_kind_34 : decode cX10_kind 34 = .ok (.invokevirtual 139, 3) := by decide +kernel
theorem dX10_kind_37 : decode cX10_kind 37 = .ok (.ireturn, 1) := by decide +kernel
theorem dX10_hook_0 : decode cX10_hook 0 = .ok (.aload_n 0, 1) := by decide +kernel
theorem dX10_hook_1 : decode cX10_hook 1 = .ok (.iload_n 1, 1) := by decide +kernel
theorem dX10_hook_2 : decode cX10_hook 2 = .ok (.invokevirtual 143, 3) := by decide +kernel
theorem dX10_hook_5 : decode cX10_hook 5 = .ok (.ifCond .eq 30, 3) := by decide +kernel
theorem dX10_hook_8 : decode cX10_hook 8 = .ok (.iload_n 2, 1) := by decide +kernel
theorem dX10_hook_9 : decode cX10_hook 9 = .ok (.iconst 0, 1) := by decide +kernel
theorem dX10_hook_10 : decode cX10_hook 10 = .ok (.aload_n 0, 1) := by decide +kernel
theorem dX10_hook_11 : decode cX10_hook 11 = .ok (.getfield 68, 3) := by decide +kernel
theorem dX10_hook_14 : decode cX10_hook 14 = .ok (.getfield 136, 3) := by decide +kernel
theorem dX10_hook_17 : decode cX10_hook 17 = .ok (.iconst 1, 1) := by decide +kernel
theorem dX10_hook_18 : decode cX10_hook 18 = .ok (.isub, 1) := by decide +kernel
theorem dX10_hook_19 : decode cX10_hook 19 = .ok (.invokestatic 108, 3) := by decide +kernel
theorem dX10_hook_22 : decode cX10_hook 22 = .ok (.ifCond .eq 13, 3) := by decide +kernel
theorem dX10_hook_25 : decode cX10_hook 25 = .ok (.iload_n 3, 1) := by decide +kernel
theorem dX10_hook_26 : decode cX10_hook 26 = .ok (.iconst 0, 1) := by decide +kernel
theorem dX10_hook_27 : decode cX10_hook 27 = .ok (.bipush 99, 2) := by decide +kernel
theorem dX10_hook_29 : decode cX10_hook 29 = .ok (.invokestatic 108, 3) := by decide +kernel
theorem dX10_hook_32 : decode cX10_hook 32 = .ok (.ifCond .ne 5, 3) := by decide +kernel
theorem dX10_hook_35 : decode cX10_hook 35 = .ok (.iconst (-1), 1) := by decide +kernel
theorem dX10_hook_36 : decode cX10_hook 36 = .ok (.ireturn, 1) := by decide +kernel
theorem dX10_hook_37 : decode cX10_hook 37 = .ok (.aload_n 0, 1) := by decide +kernel
theorem dX10_hook_38 : decode cX10_hook 38 = .ok (.getfield 19, 3) := by decide +kernel
theorem dX10_hook_41 : decode cX10_hook 41 = .ok (.iconst 0, 1) := by decide +kernel
theorem dX10_hook_42 : decode cX10_hook 42 = .ok (.iload_n 1, 1) := by decide +kernel
theorem dX10_hook_43 : decode cX10_hook 43 = .ok (.iload_n 2, 1) := by decide +kernel
theorem dX10_hook_44 : decode cX10_hook 44 = .ok (.iload_n 3, 1) := by decide +kernel
theorem dX10_hook_45 : decode cX10_hook 45 = .ok (.iconst 0, 1) := by decide +kernel
theorem dX10_hook_46 : decode cX10_hook 46 = .ok (.invokevirtual 147, 3) := by decide +kernel
theorem dX10_hook_49 : decode cX10_hook 49 = .ok (.ireturn, 1) := by decide +kernel
theorem dX10_loops_0 : decode cX10_loops 0 = .ok (.aload_n 0, 1) := by decide +kernel
theorem dX10_loops_1 : decode cX10_loops 1 = .ok (.iload_n 1, 1) := by decide +kernel
theorem dX10_loops_2 : decode cX10_loops 2 = .ok (.invokevirtual 143, 3) := by decide +kernel
theorem dX10_loops_5 : decode cX10_loops 5 = .ok (.ifCond .eq 13, 3) := by decide +kernel
theorem dX10_loops_8 : decode cX10_loops 8 = .ok (.iload_n 2, 1) := by decide +kernel
theorem dX10_loops_9 : decode cX10_loops 9 = .ok (.iconst 0, 1) := by decide +kernel
theorem dX10_loops_10 : decode cX10_loops 10 = .ok (.bipush 9, 2) := by decide +kernel
theorem dX10_loops_12 : decode cX10_loops 12 = .ok (.invokestatic 108, 3) := by decide +kernel
theorem dX10_loops_15 : decode cX10_loops 15 = .ok (.ifCond .ne 5, 3) := by decide +kernel
theorem dX10_loops_18 : decode cX10_loops 18 = .ok (.iconst (-1), 1) := by decide +kernel
theorem dX10_loops_19 : decode cX10_loops 19 = .ok (.ireturn, 1) := by decide +kernel
theorem dX10_loops_20 : decode cX10_loops 20 = .ok (.aload_n 0, 1) := by decide +kernel
theorem dX10_loops_21 : decode cX10_loops 21 = .ok (.getfield 19, 3) := by decide +kernel
theorem dX10_loops_24 : decode cX10_loops 24 = .ok (.iconst 1, 1) := by decide +kernel
theorem dX10_loops_25 : decode cX10_loops 25 = .ok (.iload_n 1, 1) := by decide +kernel
theorem dX10_loops_26 : decode cX10_loops 26 = .ok (.iload_n 2, 1) := by decide +kernel
theorem dX10_loops_27 : decode cX10_loops 27 = .ok (.iconst 0, 1) := by decide +kernel
theorem dX10_loops_28 : decode cX10_loops 28 = .ok (.iconst 0, 1) := by decide +kernel
theorem dX10_loops_29 : decode cX10_loops 29 = .ok (.invokevirtual 147, 3) := by decide +kernel
theorem dX10_loops_32 : decode cX10_loops 32 = .ok (.ireturn, 1) := by decide +kernel
theorem dX10_rounds_0 : decode cX10_rounds 0 = .ok (.iload_n 1, 1) := by decide +kernel
theorem dX10_rounds_1 : decode cX10_rounds 1 = .ok (.iconst 1, 1) := by decide +kernel
theorem dX10_rounds_2 : decode cX10_rounds 2 = .ok (.bipush 10, 2) := by decide +kernel
theorem dX10_rounds_4 : decode cX10_rounds 4 = .ok (.invokestatic 108, 3) := by decide +kernel
theorem dX10_rounds_7 : decode cX10_rounds 7 = .ok (.ifCond .eq 16, 3) := by decide +kernel
theorem dX10_rounds_10 : decode cX10_rounds 10 = .ok (.iload_n 2, 1) := by decide +kernel
theorem dX10_rounds_11 : decode cX10_rounds 11 = .ok (.iload_n 3, 1) := by decide +kernel
theorem dX10_rounds_12 : decode cX10_rounds 12 = .ok (.invokestatic 151, 3) := by decide +kernel
theorem dX10_rounds_15 : decode cX10_rounds 15 = .ok (.ifCond .eq 8, 3) := by decide +kernel
theorem dX10_rounds_18 : decode cX10_rounds 18 = .ok (.iload 4, 2) := by decide +kernel
theorem dX10_rounds_20 : decode cX10_rounds 20 = .ok (.ifCond .ge 5, 3) := by decide +kernel
theorem dX10_rounds_23 : decode cX10_rounds 23 = .ok (.iconst (-1), 1) := by decide +kernel
theorem dX10_rounds_24 : decode cX10_rounds 24 = .ok (.ireturn, 1) := by decide +kernel
theorem dX10_rounds_25 : decode cX10_rounds 25 = .ok (.aload_n 0, 1) := by decide +kernel
theorem dX10_rounds_26 : decode cX10_rounds 26 = .ok (.getfield 19, 3) := by decide +kernel
theorem dX10_rounds_29 : decode cX10_rounds 29 = .ok (.iconst 2, 1) := by decide +kernel
theorem dX10_rounds_30 : decode cX10_rounds 30 = .ok (.iload_n 1, 1) := by decide +kernel
theorem dX10_rounds_31 : decode cX10_rounds 31 = .ok (.iload_n 2, 1) := by decide +kernel
theorem dX10_rounds_32 : decode cX10_rounds 32 = .ok (.iload_n 3, 1) := by decide +kernel
theorem dX10_rounds_33 : decode cX10_rounds 33 = .ok (.iload 4, 2) := by decide +kernel
theorem dX10_rounds_35 : decode cX10_rounds 35 = .ok (.invokevirtual 147, 3) := by decide +kernel
theorem dX10_rounds_38 : decode cX10_rounds 38 = .ok (.ireturn, 1) := by decide +kernel
theorem dX10_wash_0 : decode cX10_wash 0 = .ok (.aload_n 0, 1) := by decide +kernel
theorem dX10_wash_1 : decode cX10_wash 1 = .ok (.getfield 19, 3) := by decide +kernel
theorem dX10_wash_4 : decode cX10_wash 4 = .ok (.iconst 3, 1) := by decide +kernel
theorem dX10_wash_5 : decode cX10_wash 5 = .ok (.iconst 0, 1) := by decide +kernel
theorem dX10_wash_6 : decode cX10_wash 6 = .ok (.iconst 0, 1) := by decide +kernel
theorem dX10_wash_7 : decode cX10_wash 7 = .ok (.iconst 0, 1) := by decide +kernel
theorem dX10_wash_8 : decode cX10_wash 8 = .ok (.iconst 0, 1) := by decide +kernel
theorem dX10_wash_9 : decode cX10_wash 9 = .ok (.invokevirtual 147, 3) := by decide +kernel
theorem dX10_wash_12 : decode cX10_wash 12 = .ok (.ireturn, 1) := by decide +kernel
theorem dX10_annul_0 : decode cX10_annul 0 = .ok (.aload_n 0, 1) := by decide +kernel
