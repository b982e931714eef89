theorem dX11_choose_239 : decode cX11_choose 239 = .ok (.aload_n 0, 1) := by decide +kernel
theorem dX11_choose_240 : decode cX11_choose 240 = .ok (.iload_n 3, 1) := by decide +kernel
theorem dX11_choose_241 : decode cX11_choose 241 = .ok (.putfield 254, 3) := by decide +kernel
theorem dX11_choose_244 : decode cX11_choose 244 = .ok (.aload_n 0, 1) := by decide +kernel
theorem dX11_choose_245 : decode cX11_choose 245 = .ok (.aload_n 0, 1) := by decide +kernel
theorem dX11_choose_246 : decode cX11_choose 246 = .ok (.getfield 554, 3) := by decide +kernel
theorem dX11_choose_249 : decode cX11_choose 249 = .ok (.putfield 574, 3) := by decide +kernel
theorem dX11_choose_252 : decode cX11_choose 252 = .ok (.iload 4, 2) := by decide +kernel
theorem dX11_choose_254 : decode cX11_choose 254 = .ok (.ireturn, 1) := by decide +kernel
theorem dX11_chosen_0 : decode cX11_chosen 0 = .ok (.aload_n 0, 1) := by decide +kernel
theorem dX11_chosen_1 : decode cX11_chosen 1 = .ok (.getfield 254, 3) := by decide +kernel
theorem dX11_chosen_4 : decode cX11_chosen 4 = .ok (.iconst (-1), 1) := by decide +kernel
theorem dX11_chosen_5 : decode cX11_chosen 5 = .ok (.if_icmp .eq 26, 3) := by decide +kernel
theorem dX11_chosen_8 : decode cX11_chosen 8 = .ok (.iload_n 1, 1) := by decide +kernel
theorem dX11_chosen_9 : decode cX11_chosen 9 = .ok (.ifCond .lt 22, 3) := by decide +kernel
theorem dX11_chosen_12 : decode cX11_chosen 12 = .ok (.iload_n 1, 1) := by decide +kernel
theorem dX11_chosen_13 : decode cX11_chosen 13 = .ok (.aload_n 0, 1) := by decide +kernel
theorem dX11_chosen_14 : decode cX11_chosen 14 = .ok (.getfield 574, 3) := by decide +kernel
theorem dX11_chosen_17 : decode cX11_chosen 17 = .ok (.if_icmp .ge 14, 3) := by decide +kernel
theorem dX11_chosen_20 : decode cX11_chosen 20 = .ok (.aload_n 0, 1) := by decide +kernel
theorem dX11_chosen_21 : decode cX11_chosen 21 = .ok (.getfield 254, 3) := by decide +kernel
theorem dX11_chosen_24 : decode cX11_chosen 24 = .ok (.iload_n 1, 1) := by decide +kernel
theorem dX11_chosen_25 : decode cX11_chosen 25 = .ok (.ishr, 1) := by decide +kernel
theorem dX11_chosen_26 : decode cX11_chosen 26 = .ok (.iconst 1, 1) := by decide +kernel
theorem dX11_chosen_27 : decode cX11_chosen 27 = .ok (.iand, 1) := by decide +kernel
theorem dX11_chosen_28 : decode cX11_chosen 28 = .ok (.goto 4, 3) := by decide +kernel
theorem dX11_chosen_31 : decode cX11_chosen 31 = .ok (.iconst (-1), 1) := by decide +kernel
theorem dX11_chosen_32 : decode cX11_chosen 32 = .ok (.ireturn, 1) := by decide +kernel
theorem dX11_over_0 : decode cX11_over 0 = .ok (.iload_n 1, 1) := by decide +kernel
theorem dX11_over_1 : decode cX11_over 1 = .ok (.ifCond .lt 8, 3) := by decide +kernel
theorem dX11_over_4 : decode cX11_over 4 = .ok (.iload_n 1, 1) := by decide +kernel
theorem dX11_over_5 : decode cX11_over 5 = .ok (.iload_n 0, 1) := by decide +kernel
theorem dX11_over_6 : decode cX11_over 6 = .ok (.if_icmp .le 5, 3) := by decide +kernel
theorem dX11_over_9 : decode cX11_over 9 = .ok (.lconst 0, 1) := by decide +kernel
theorem dX11_over_10 : decode cX11_over 10 = .ok (.lreturn, 1) := by decide +kernel
theorem dX11_over_11 : decode cX11_over 11 = .ok (.lconst 1, 1) := by decide +kernel
theorem dX11_over_12 : decode cX11_over 12 = .ok (.lstore_n 2, 1) := by decide +kernel
theorem dX11_over_13 : decode cX11_over 13 = .ok (.iconst 1, 1) := by decide +kernel
theorem dX11_over_14 : decode cX11_over 14 = .ok (.istore 4, 2) := by decide +kernel
theorem dX11_over_16 : decode cX11_over 16 = .ok (.iload 4, 2) := by decide +kernel
theorem dX11_over_18 : decode cX11_over 18 = .ok (.iload_n 1, 1) := by decide +kernel
theorem dX11_over_19 : decode cX11_over 19 = .ok (.if_icmp .gt 23, 3) := by decide +kernel
theorem dX11_over_22 : decode cX11_over 22 = .ok (.lload_n 2, 1) := by decide +kernel
theorem dX11_over_23 : decode cX11_over 23 = .ok (.iload_n 0, 1) := by decide +kernel
theorem dX11_over_24 : decode cX11_over 24 = .ok (.iconst 1, 1) := by decide +kernel
theorem dX11_over_25 : decode cX11_over 25 = .ok (.iadd, 1) := by decide +kernel
theorem dX11_over_26 : decode cX11_over 26 = .ok (.iload 4, 2) := by decide +kernel
theorem dX11_over_28 : decode cX11_over 28 = .ok (.isub, 1) := by decide +kernel
theorem dX11_over_29 : decode cX11_over 29 = .ok (.i2l, 1) := by decide +kernel
theorem dX11_over_30 : decode cX11_over 30 = .ok (.lmul, 1) := by decide +kernel
theorem dX11_over_31 : decode cX11_over 31 = .ok (.iload 4, 2) := by decide +kernel
theorem dX11_over_33 : decode cX11_over 33 = .ok (.i2l, 1) := by decide +kernel
theorem dX11_over_34 : decode cX11_over 34 = .ok (.ldiv, 1) := by decide +kernel
theorem dX11_over_35 : decode cX11_over 35 = .ok (.lstore_n 2, 1) := by decide +kernel
theorem dX11_over_36 : decode cX11_over 36 = .ok (.iinc 4 1, 3) := by decide +kernel
theorem dX11_over_39 : decode cX11_over 39 = .ok (.goto (-23), 3) := by decide +kernel
theorem dX11_over_42 : decode cX11_over 42 = .ok (.lload_n 2, 1) := by decide +kernel
theorem dX11_over_43 : decode cX11_over 43 = .ok (.lreturn, 1) := by decide +kernel
theorem dX11_waysFrom_0 : decode cX11_waysFrom 0 = .ok (.lconst 0, 1) := by decide +kernel
theorem dX11_waysFrom_1 : decode cX11_waysFrom 1 = .ok (.lstore 4, 2) := by decide +kernel
theorem dX11_waysFrom_3 : decode cX11_waysFrom 3 = .ok (.iload_n 3, 1) := by decide +kernel
theorem dX11_waysFrom_4 : decode cX11_waysFrom 4 = .ok (.istore 6, 2) := by decide +kernel
theorem dX11_waysFrom_6 : decode cX11_waysFrom 6 = .ok (.iload 6, 2) := by decide +kernel
theorem dX11_waysFrom_8 : decode cX11_waysFrom 8 = .ok (.iload_n 2, 1) := by decide +kernel
theorem dX11_waysFrom_9 : decode cX11_waysFrom 9 = .ok (.if_icmp .gt 31, 3) := by decide +kernel
theorem dX11_waysFrom_12 : decode cX11_waysFrom 12 = .ok (.lload 4, 2) := by decide +kernel
theorem dX11_waysFrom_14 : decode cX11_waysFrom 14 = .ok (.iload_n 1, 1) := by decide +kernel
theorem dX11_waysFrom_15 : decode cX11_waysFrom 15 = .ok (.iload 6, 2) := by decide +kernel
theorem dX11_waysFrom_17 : decode cX11_waysFrom 17 = .ok (.invokestatic 577, 3) := by decide +kernel
theorem dX11_waysFrom_20 : decode cX11_waysFrom 20 = .ok (.iload_n 0, 1) := by decide +kernel
theorem dX11_waysFrom_21 : decode cX11_waysFrom 21 = .ok (.iload_n 1, 1) := by decide +kernel
theorem dX11_waysFrom_22 : decode cX11_waysFrom 22 = .ok (.isub, 1) := by decide +kernel
theorem dX11_waysFrom_23 : decode cX11_waysFrom 23 = .ok (.iload_n 2, 1) := by decide +kernel
theorem dX11_waysFrom_24 : decode cX11_waysFrom 24 = .ok (.iload 6, 2) := by decide +kernel
theorem dX11_waysFrom_26 : decode cX11_waysFrom 26 = .ok (.isub, 1) := by decide +kernel
theorem dX11_waysFrom_27 : decode cX11_waysFrom 27 = .ok (.invokestatic 577, 3) := by decide +kernel
theorem dX11_waysFrom_30 : decode cX11_waysFrom 30 = .ok (.lmul, 1) := by decide +kernel
theorem dX11_waysFrom_31 : decode cX11_waysFrom 31 = .ok (.ladd, 1) := by decide +kernel
theorem dX11_waysFrom_32 : decode cX11_waysFrom 32 = .ok (.lstore 4, 2) := by decide +kernel
theorem dX11_waysFrom_34 : decode cX11_waysFrom 34 = .ok (.iinc 6 1, 3) := by decide +kernel
theorem dX11_waysFrom_37 : decode cX11_waysFrom 37 = .ok (.goto (-31), 3) := by decide +kernel
theorem dX11_waysFrom_40 : decode cX11_waysFrom 40 = .ok (.lload 4, 2) := by decide +kernel
theorem dX11_waysFrom_42 : decode cX11_waysFrom 42 = .ok (.lreturn, 1) := by decide +kernel
theorem dX11_found_0 : decode cX11_found 0 = .ok (.iload_n 1, 1) := by decide +kernel
theorem dX11_found_1 : decode cX11_found 1 = .ok (.i2l, 1) := by decide +kernel
theorem dX11_found_2 : decode cX11_found 2 = .ok (.lconst 1, 1) := by decide +kernel
theorem dX11_found_3 : decode cX11_found 3 = .ok (.ldc2_w 581, 3) := by decide +kernel
theorem dX11_found_6 : decode cX11_found 6 = .ok (.invokestatic 300, 3) := by decide +kernel
theorem dX11_found_9 : decode cX11_found 9 = .ok (.ifCond .eq 37, 3) := by decide +kernel
theorem dX11_found_12 : decode cX11_found 12 = .ok (.iload_n 2, 1) := by decide +kernel
theorem dX11_found_13 : decode cX11_found 13 = .ok (.i2l, 1) := by decide +kernel
theorem dX11_found_14 : decode cX11_found 14 = .ok (.lconst 0, 1) := by decide +kernel
theorem dX11_found_15 : decode cX11_found 15 = .ok (.iload_n 1, 1) := by decide +kernel
theorem dX11_found_16 : decode cX11_found 16 = .ok (.i2l, 1) := by decide +kernel
theorem dX11_found_17 : decode cX11_found 17 = .ok (.invokestatic 300, 3) := by decide +kernel
theorem dX11_found_20 : decode cX11_found 20 = .ok (.ifCond .eq 26, 3) := by decide +kernel
theorem dX11_found_23 : decode cX11_found 23 = .ok (.iload_n 3, 1) := by decide +kernel
theorem dX11_found_24 : decode cX11_found 24 = .ok (.i2l, 1) := by decide +kernel
theorem dX11_found_25 : decode cX11_found 25 = .ok (.lconst 0, 1) := by decide +kernel
theorem dX11_found_26 : decode cX11_found 26 = .ok (.iload_n 1, 1) := by decide +kernel
theorem dX11_found_27 : decode cX11_found 27 = .ok (.i2l, 1) := by decide +kernel
theorem dX11_found_28 : decode cX11_found 28 = .ok (.invokestatic 300, 3) := by decide +kernel
theorem dX11_found_31 : decode cX11_found 31 = .ok (.ifCond .eq 15, 3) := by decide +kernel
theorem dX11_found_34 : decode cX11_found 34 = .ok (.iload 4, 2) := by decide +kernel
theorem dX11_found_36 : decode cX11_found 36 = .ok (.i2l, 1) := by decide +kernel
theorem dX11_found_37 : decode cX11_found 37 = .ok (.lconst 0, 1) := by decide +kernel
theorem dX11_found_38 : decode cX11_found 38 = .ok (.iload_n 3, 1) := by decide +kernel
theorem dX11_found_39 : decode cX11_found 39 = .ok (.i2l, 1) := by decide +kernel
theorem dX11_found_40 : decode cX11_found 40 = .ok (.invokestatic 300, 3) := by decide +kernel
theorem dX11_found_43 : decode cX11_found 43 = .ok (.ifCond .ne 7, 3) := by decide +kernel
theorem dX11_found_46 : decode cX11_found 46 = .ok (.ldc2_w 439, 3) := by decide +kernel
theorem dX11_found_49 : decode cX11_found 49 = .ok (.lreturn, 1) := by decide +kernel
theorem dX11_found_50 : decode cX11_found 50 = .ok (.iload 5, 2) := by decide +kernel
theorem dX11_found_52 : decode cX11_found 52 = .ok (.ifCond .eq 14, 3) := by decide +kernel
theorem dX11_found_55 : decode cX11_found 55 = .ok (.iload_n 1, 1) := by decide +kernel
theorem dX11_found_56 : decode cX11_found 56 = .ok (.iload_n 2, 1) := by decide +kernel
theorem dX11_found_57 : decode cX11_found 57 = .ok (.iload_n 3, 1) := by decide +kernel
theorem dX11_found_58 : decode cX11_found 58 = .ok (.iload 4, 2) := by decide +kernel
theorem dX11_found_60 : decode cX11_found 60 = .ok (.invokestatic 583, 3) := by decide +kernel
theorem dX11_found_63 : decode cX11_found 63 = .ok (.goto 8, 3) := by decide +kernel
theorem dX11_found_66 : decode cX11_found 66 = .ok (.iload_n 1, 1) := by decide +kernel
theorem dX11_found_67 : decode cX11_found 67 = .ok (.iload_n 3, 1) := by decide +kernel
theorem dX11_found_68 : decode cX11_found 68 = .ok (.invokestatic 577, 3) := by decide +kernel
theorem dX11_found_71 : decode cX11_found 71 = .ok (.lreturn, 1) := by decide +kernel
theorem dX11_tests_0 : decode cX11_tests 0 = .ok (.iload_n 1, 1) := by decide +kernel
theorem dX11_tests_1 : decode cX11_tests 1 = .ok (.i2l, 1) := by decide +kernel
theorem dX11_tests_2 : decode cX11_tests 2 = .ok (.lconst 1, 1) := by decide +kernel
theorem dX11_tests_3 : decode cX11_tests 3 = .ok (.ldc2_w 581, 3) := by decide +kernel
theorem dX11_tests_6 : decode cX11_tests 6 = .ok (.invokestatic 300, 3) := by decide +kernel
theorem dX11_tests_9 : decode cX11_tests 9 = .ok (.ifCond .eq 26, 3) := by decide +kernel
theorem dX11_tests_12 : decode cX11_tests 12 = .ok (.iload_n 2, 1) := by decide +kernel
theorem dX11_tests_13 : decode cX11_tests 13 = .ok (.i2l, 1) := by decide +kernel
theorem dX11_tests_14 : decode cX11_tests 14 = .ok (.lconst 0, 1) := by decide +kernel
theorem dX11_tests_15 : decode cX11_tests 15 = .ok (.iload_n 1, 1) := by decide +kernel
theorem dX11_tests_16 : decode cX11_tests 16 = .ok (.i2l, 1) := by decide +kernel
theorem dX11_tests_17 : decode cX11_tests 17 = .ok (.invokestatic 300, 3) := by decide +kernel
theorem dX11_tests_20 : decode cX11_tests 20 = .ok (.ifCond .eq 15, 3) := by decide +kernel
theorem dX11_tests_23 : decode cX11_tests 23 = .ok (.iload_n 3, 1) := by decide +kernel
theorem dX11_tests_24 : decode cX11_tests 24 = .ok (.i2l, 1) := by decide +kernel
theorem dX11_tests_25 : decode cX11_tests 25 = .ok (.lconst 1, 1) := by decide +kernel
theorem dX11_tests_26 : decode cX11_tests 26 = .ok (.ldc2_w 505, 3) := by decide +kernel
theorem dX11_tests_29 : decode cX11_tests 29 = .ok (.invokestatic 300, 3) := by decide +kernel
theorem dX11_tests_32 : decode cX11_tests 32 = .ok (.ifCond .ne 5, 3) := by decide +kernel
theorem dX11_tests_35 : decode cX11_tests 35 = .ok (.iconst (-1), 1) := by decide +kernel
theorem dX11_tests_36 : decode cX11_tests 36 = .ok (.ireturn, 1) := by decide +kernel
theorem dX11_tests_37 : decode cX11_tests 37 = .ok (.iconst 0, 1) := by decide +kernel
theorem dX11_tests_38 : decode cX11_tests 38 = .ok (.istore 4, 2) := by decide +kernel
theorem dX11_tests_40 : decode cX11_tests 40 = .ok (.iload 4, 2) := by decide +kernel
theorem dX11_tests_42 : decode cX11_tests 42 = .ok (.iload_n 1, 1) := by decide +kernel
theorem dX11_tests_43 : decode cX11_tests 43 = .ok (.if_icmp .gt 37, 3) := by decide +kernel
theorem dX11_tests_46 : decode cX11_tests 46 = .ok (.iload_n 1, 1) := by decide +kernel
theorem dX11_tests_47 : decode cX11_tests 47 = .ok (.iload_n 2, 1) := by decide +kernel
theorem dX11_tests_48 : decode cX11_tests 48 = .ok (.iload 4, 2) := by decide +kernel
theorem dX11_tests_50 : decode cX11_tests 50 = .ok (.iconst 1, 1) := by decide +kernel
theorem dX11_tests_51 : decode cX11_tests 51 = .ok (.invokestatic 583, 3) := by decide +kernel
theorem dX11_tests_54 : decode cX11_tests 54 = .ok (.ldc2_w 505, 3) := by decide +kernel
theorem dX11_tests_57 : decode cX11_tests 57 = .ok (.lmul, 1) := by decide +kernel
theorem dX11_tests_58 : decode cX11_tests 58 = .ok (.iload_n 3, 1) := by decide +kernel
theorem dX11_tests_59 : decode cX11_tests 59 = .ok (.i2l, 1) := by decide +kernel
theorem dX11_tests_60 : decode cX11_tests 60 = .ok (.iload_n 1, 1) := by decide +kernel
theorem dX11_tests_61 : decode cX11_tests 61 = .ok (.iload 4, 2) := by decide +kernel
theorem dX11_tests_63 : decode cX11_tests 63 = .ok (.invokestatic 577, 3) := by decide +kernel
theorem dX11_tests_66 : decode cX11_tests 66 = .ok (.lmul, 1) := by decide +kernel
theorem dX11_tests_67 : decode cX11_tests 67 = .ok (.lcmp, 1) := by decide +kernel
theorem dX11_tests_68 : decode cX11_tests 68 = .ok (.ifCond .lt 6, 3) := by decide +kernel
theorem dX11_tests_71 : decode cX11_tests 71 = .ok (.iload 4, 2) := by decide +kernel
theorem dX11_tests_73 : decode cX11_tests 73 = .ok (.ireturn, 1) := by decide +kernel
theorem dX11_tests_74 : decode cX11_tests 74 = .ok (.iinc 4 1, 3) := by decide +kernel
theorem dX11_tests_77 : decode cX11_tests 77 = .ok (.goto (-37), 3) := by decide +kernel
theorem dX11_tests_80 : decode cX11_tests 80 = .ok (.iconst (-1), 1) := by decide +kernel
theorem dX11_tests_81 : decode cX11_tests 81 = .ok (.ireturn, 1) := by decide +kernel
theorem dX11_all_0 : decode cX11_all 0 = .ok (.iconst 0, 1) := by decide +kernel
theorem dX11_all_1 : decode cX11_all 1 = .ok (.istore_n 2, 1) := by decide +kernel
theorem dX11_all_2 : decode cX11_all 2 = .ok (.iload_n 1, 1) := by decide +kernel
theorem dX11_all_3 : decode cX11_all 3 = .ok (.tableswitch 108 0 6 #[41, 46, 53, 58, 63, 98, 103], 41) := by decide +kernel
theorem dX11_all_44 : decode cX11_all 44 = .ok (.aload_n 0, 1) := by decide +kernel
theorem dX11_all_45 : decode cX11_all 45 = .ok (.invokevirtual 419, 3) := by decide +kernel
theorem dX11_all_48 : decode cX11_all 48 = .ok (.ireturn, 1) := by decide +kernel
theorem dX11_all_49 : decode cX11_all 49 = .ok (.aload_n 0, 1) := by decide +kernel
theorem dX11_all_50 : decode cX11_all 50 = .ok (.getfield 81, 3) := by decide +kernel
theorem dX11_all_53 : decode cX11_all 53 = .ok (.iconst 1, 1) := by decide +kernel
theorem dX11_all_54 : decode cX11_all 54 = .ok (.iaload, 1) := by decide +kernel
theorem dX11_all_55 : decode cX11_all 55 = .ok (.ireturn, 1) := by decide +kernel
theorem dX11_all_56 : decode cX11_all 56 = .ok (.aload_n 0, 1) := by decide +kernel
theorem dX11_all_57 : decode cX11_all 57 = .ok (.getfield 412, 3) := by decide +kernel
theorem dX11_all_60 : decode cX11_all 60 = .ok (.ireturn, 1) := by decide +kernel
theorem dX11_all_61 : decode cX11_all 61 = .ok (.aload_n 0, 1) := by decide +kernel
theorem dX11_all_62 : decode cX11_all 62 = .ok (.invokevirtual 441, 3) := by decide +kernel
theorem dX11_all_65 : decode cX11_all 65 = .ok (.ireturn, 1) := by decide +kernel
theorem dX11_all_66 : decode cX11_all 66 = .ok (.aload_n 0, 1) := by decide +kernel
theorem dX11_all_67 : decode cX11_all 67 = .ok (.invokevirtual 472, 3) := by decide +kernel
theorem dX11_all_70 : decode cX11_all 70 = .ok (.iconst 0, 1) := by decide +kernel
theorem dX11_all_71 : decode cX11_all 71 = .ok (.istore_n 3, 1) := by decide +kernel
theorem dX11_all_72 : decode cX11_all 72 = .ok (.iload_n 3, 1) := by decide +kernel
theorem dX11_all_73 : decode cX11_all 73 = .ok (.aload_n 0, 1) := by decide +kernel
theorem dX11_all_74 : decode cX11_all 74 = .ok (.invokevirtual 419, 3) := by decide +kernel
theorem dX11_all_77 : decode cX11_all 77 = .ok (.if_icmp .ge 22, 3) := by decide +kernel
theorem dX11_all_80 : decode cX11_all 80 = .ok (.aload_n 0, 1) := by decide +kernel
theorem dX11_all_81 : decode cX11_all 81 = .ok (.getfield 151, 3) := by decide +kernel
theorem dX11_all_84 : decode cX11_all 84 = .ok (.iload_n 3, 1) := by decide +kernel
theorem dX11_all_85 : decode cX11_all 85 = .ok (.iaload, 1) := by decide +kernel
theorem dX11_all_86 : decode cX11_all 86 = .ok (.iconst (-1), 1) := by decide +kernel
theorem dX11_all_87 : decode cX11_all 87 = .ok (.if_icmp .eq 6, 3) := by decide +kernel
theorem dX11_all_90 : decode cX11_all 90 = .ok (.iinc 2 1, 3) := by decide +kernel
theorem dX11_all_93 : decode cX11_all 93 = .ok (.iinc 3 1, 3) := by decide +kernel
theorem dX11_all_96 : decode cX11_all 96 = .ok (.goto (-24), 3) := by decide +kernel
theorem dX11_all_99 : decode cX11_all 99 = .ok (.iload_n 2, 1) := by decide +kernel
theorem dX11_all_100 : decode cX11_all 100 = .ok (.ireturn, 1) := by decide +kernel
theorem dX11_all_101 : decode cX11_all 101 = .ok (.aload_n 0, 1) := by decide +kernel
theorem dX11_all_102 : decode cX11_all 102 = .ok (.getfield 554, 3) := by decide +kernel
theorem dX11_all_105 : decode cX11_all 105 = .ok (.ireturn, 1) := by decide +kernel
theorem dX11_all_106 : decode cX11_all 106 = .ok (.aload_n 0, 1) := by decide +kernel
theorem dX11_all_107 : decode cX11_all 107 = .ok (.getfield 559, 3) := by decide +kernel
theorem dX11_all_110 : decode cX11_all 110 = .ok (.ireturn, 1) := by decide +kernel
theorem dX11_all_111 : decode cX11_all 111 = .ok (.iconst (-1), 1) := by decide +kernel
theorem dX11_all_112 : decode cX11_all 112 = .ok (.ireturn, 1) := by decide +kernel
theorem dJ9_floorDiv_7cf53_0 : decode cJ9_floorDiv_7cf53 0 = .ok (.iload_n 0, 1) := by decide +kernel
theorem dJ9_floorDiv_7cf53_1 : decode cJ9_floorDiv_7cf53 1 = .ok (.iload_n 1, 1) := by decide +kernel
theorem dJ9_floorDiv_7cf53_2 : decode cJ9_floorDiv_7cf53 2 = .ok (.idiv, 1) := by decide +kernel
theorem dJ9_floorDiv_7cf53_3 : decode cJ9_floorDiv_7cf53 3 = .ok (.istore_n 2, 1) := by decide +kernel
theorem dJ9_floorDiv_7cf53_4 : decode cJ9_floorDiv_7cf53 4 = .ok (.iload_n 0, 1) := by decide +kernel
theorem dJ9_floorDiv_7cf53_5 : decode cJ9_floorDiv_7cf53 5 = .ok (.iload_n 1, 1) := by decide +kernel
theorem dJ9_floorDiv_7cf53_6 : decode cJ9_floorDiv_7cf53 6 = .ok (.ixor, 1) := by decide +kernel
theorem dJ9_floorDiv_7cf53_7 : decode cJ9_floorDiv_7cf53 7 = .ok (.ifCond .ge 14, 3) := by decide +kernel
theorem dJ9_floorDiv_7cf53_10 : decode cJ9_floorDiv_7cf53 10 = .ok (.iload_n 2, 1) := by decide +kernel
theorem dJ9_floorDiv_7cf53_11 : decode cJ9_floorDiv_7cf53 11 = .ok (.iload_n 1, 1) := by decide +kernel
theorem dJ9_floorDiv_7cf53_12 : decode cJ9_floorDiv_7cf53 12 = .ok (.imul, 1) := by decide +kernel
theorem dJ9_floorDiv_7cf53_13 : decode cJ9_floorDiv_7cf53 13 = .ok (.iload_n 0, 1) := by decide +kernel
theorem dJ9_floorDiv_7cf53_14 : decode cJ9_floorDiv_7cf53 14 = .ok (.if_icmp .eq 7, 3) := by decide +kernel
theorem dJ9_floorDiv_7cf53_17 : decode cJ9_floorDiv_7cf53 17 = .ok (.iload_n 2, 1) := by decide +kernel
theorem dJ9_floorDiv_7cf53_18 : decode cJ9_floorDiv_7cf53 18 = .ok (.iconst 1, 1) := by decide +kernel
theorem dJ9_floorDiv_7cf53_19 : decode cJ9_floorDiv_7cf53 19 = .ok (.isub, 1) := by decide +kernel
theorem dJ9_floorDiv_7cf53_20 : decode cJ9_floorDiv_7cf53 20 = .ok (.ireturn, 1) := by decide +kernel
theorem dJ9_floorDiv_7cf53_21 : decode cJ9_floorDiv_7cf53 21 = .ok (.iload_n 2, 1) := by decide +kernel
theorem dJ9_floorDiv_7cf53_22 : decode cJ9_floorDiv_7cf53 22 = .ok (.ireturn, 1) := by decide +kernel
theorem dJ0_length_8abf5_0 : decode cJ0_length_8abf5 0 = .ok (.aload_n 0, 1) := by decide +kernel
theorem dJ0_length_8abf5_1 : decode cJ0_length_8abf5 1 = .ok (.getfield 9, 3) := by decide +kernel
theorem dJ0_length_8abf5_4 : decode cJ0_length_8abf5 4 = .ok (.arraylength, 1) := by decide +kernel
theorem dJ0_length_8abf5_5 : decode cJ0_length_8abf5 5 = .ok (.aload_n 0, 1) := by decide +kernel
theorem dJ0_length_8abf5_6 : decode cJ0_length_8abf5 6 = .ok (.invokevirtual 335, 3) := by decide +kernel
theorem dJ0_length_8abf5_9 : decode cJ0_length_8abf5 9 = .ok (.ishr, 1) := by decide +kernel
theorem dJ0_length_8abf5_10 : decode cJ0_length_8abf5 10 = .ok (.ireturn, 1) := by decide +kernel
theorem dJ0_charAt_5068e_0 : decode cJ0_charAt_5068e 0 = .ok (.aload_n 0, 1) := by decide +kernel
theorem dJ0_charAt_5068e_1 : decode cJ0_charAt_5068e 1 = .ok (.invokevirtual 492, 3) := by decide +kernel
theorem dJ0_charAt_5068e_4 : decode cJ0_charAt_5068e 4 = .ok (.ifCond .eq 12, 3) := by decide +kernel
theorem dJ0_charAt_5068e_7 : decode cJ0_charAt_5068e 7 = .ok (.aload_n 0, 1) := by decide +kernel
theorem dJ0_charAt_5068e_8 : decode cJ0_charAt_5068e 8 = .ok (.getfield 9, 3) := by decide +kernel
theorem dJ0_charAt_5068e_11 : decode cJ0_charAt_5068e 11 = .ok (.iload_n 1, 1) := by decide +kernel
theorem dJ0_charAt_5068e_12 : decode cJ0_charAt_5068e 12 = .ok (.invokestatic 495, 3) := by decide +kernel
theorem dJ0_charAt_5068e_15 : decode cJ0_charAt_5068e 15 = .ok (.ireturn, 1) := by decide +kernel
theorem dJ0_charAt_5068e_16 : decode cJ0_charAt_5068e 16 = .ok (.aload_n 0, 1) := by decide +kernel
theorem dJ0_charAt_5068e_17 : decode cJ0_charAt_5068e 17 = .ok (.getfield 9, 3) := by decide +kernel
theorem dJ0_charAt_5068e_20 : decode cJ0_charAt_5068e 20 = .ok (.iload_n 1, 1) := by decide +kernel
theorem dJ0_charAt_5068e_21 : decode cJ0_charAt_5068e 21 = .ok (.invokestatic 498, 3) := by decide +kernel
theorem dJ0_charAt_5068e_24 : decode cJ0_charAt_5068e 24 = .ok (.ireturn, 1) := by decide +kernel
theorem dJ0_coder_7d493_0 : decode cJ0_coder_7d493 0 = .ok (.getstatic 38, 3) := by decide +kernel
theorem dJ0_coder_7d493_3 : decode cJ0_coder_7d493 3 = .ok (.ifCond .eq 10, 3) := by decide +kernel
theorem dJ0_coder_7d493_6 : decode cJ0_coder_7d493 6 = .ok (.aload_n 0, 1) := by decide +kernel
theorem dJ0_coder_7d493_7 : decode cJ0_coder_7d493 7 = .ok (.getfield 15, 3) := by decide +kernel
theorem dJ0_coder_7d493_10 : decode cJ0_coder_7d493 10 = .ok (.goto 4, 3) := by decide +kernel
theorem dJ0_coder_7d493_13 : decode cJ0_coder_7d493 13 = .ok (.iconst 1, 1) := by decide +kernel
theorem dJ0_coder_7d493_14 : decode cJ0_coder_7d493 14 = .ok (.ireturn, 1) := by decide +kernel
theorem dJ0_isLatin1_aae02_0 : decode cJ0_isLatin1_aae02 0 = .ok (.getstatic 38, 3) := by decide +kernel
theorem dJ0_isLatin1_aae02_3 : decode cJ0_isLatin1_aae02 3 = .ok (.ifCond .eq 14, 3) := by decide +kernel
theorem dJ0_isLatin1_aae02_6 : decode cJ0_isLatin1_aae02 6 = .ok (.aload_n 0, 1) := by decide +kernel
theorem dJ0_isLatin1_aae02_7 : decode cJ0_isLatin1_aae02 7 = .ok (.getfield 15, 3) := by decide +kernel
theorem dJ0_isLatin1_aae02_10 : decode cJ0_isLatin1_aae02 10 = .ok (.ifCond .ne 7, 3) := by decide +kernel
theorem dJ0_isLatin1_aae02_13 : decode cJ0_isLatin1_aae02 13 = .ok (.iconst 1, 1) := by decide +kernel
theorem dJ0_isLatin1_aae02_14 : decode cJ0_isLatin1_aae02 14 = .ok (.goto 4, 3) := by decide +kernel
theorem dJ0_isLatin1_aae02_17 : decode cJ0_isLatin1_aae02 17 = .ok (.iconst 0, 1) := by decide +kernel
theorem dJ0_isLatin1_aae02_18 : decode cJ0_isLatin1_aae02 18 = .ok (.ireturn, 1) := by decide +kernel
theorem dJ0_checkIndex_df160_0 : decode cJ0_checkIndex_df160 0 = .ok (.iload_n 0, 1) := by decide +kernel
theorem dJ0_checkIndex_df160_1 : decode cJ0_checkIndex_df160 1 = .ok (.iload_n 1, 1) := by decide +kernel
theorem dJ0_checkIndex_df160_2 : decode cJ0_checkIndex_df160 2 = .ok (.getstatic 1053, 3) := by decide +kernel
theorem dJ0_checkIndex_df160_5 : decode cJ0_checkIndex_df160 5 = .ok (.invokestatic 1059, 3) := by decide +kernel
theorem dJ0_checkIndex_df160_8 : decode cJ0_checkIndex_df160 8 = .ok (.pop, 1) := by decide +kernel
theorem dJ0_checkIndex_df160_9 : decode cJ0_checkIndex_df160 9 = .ok (.return_, 1) := by decide +kernel
theorem dJ1_charAt_3b067_0 : decode cJ1_charAt_3b067 0 = .ok (.iload_n 1, 1) := by decide +kernel
theorem dJ1_charAt_3b067_1 : decode cJ1_charAt_3b067 1 = .ok (.aload_n 0, 1) := by decide +kernel
theorem dJ1_charAt_3b067_2 : decode cJ1_charAt_3b067 2 = .ok (.arraylength, 1) := by decide +kernel
theorem dJ1_charAt_3b067_3 : decode cJ1_charAt_3b067 3 = .ok (.invokestatic 9, 3) := by decide +kernel
theorem dJ1_charAt_3b067_6 : decode cJ1_charAt_3b067 6 = .ok (.aload_n 0, 1) := by decide +kernel
theorem dJ1_charAt_3b067_7 : decode cJ1_charAt_3b067 7 = .ok (.iload_n 1, 1) := by decide +kernel
theorem dJ1_charAt_3b067_8 : decode cJ1_charAt_3b067 8 = .ok (.baload, 1) := by decide +kernel
theorem dJ1_charAt_3b067_9 : decode cJ1_charAt_3b067 9 = .ok (.sipush 255, 3) := by decide +kernel
theorem dJ1_charAt_3b067_12 : decode cJ1_charAt_3b067 12 = .ok (.iand, 1) := by decide +kernel
theorem dJ1_charAt_3b067_13 : decode cJ1_charAt_3b067 13 = .ok (.i2c, 1) := by decide +kernel
theorem dJ1_charAt_3b067_14 : decode cJ1_charAt_3b067 14 = .ok (.ireturn, 1) := by decide +kernel
theorem dJ7_fill_53178_0 : decode cJ7_fill_53178 0 = .ok (.iconst 0, 1) := by decide +kernel
theorem dJ7_fill_53178_1 : decode cJ7_fill_53178 1 = .ok (.istore_n 2, 1) := by decide +kernel
theorem dJ7_fill_53178_2 : decode cJ7_fill_53178 2 = .ok (.aload_n 0, 1) := by decide +kernel
theorem dJ7_fill_53178_3 : decode cJ7_fill_53178 3 = .ok (.arraylength, 1) := by decide +kernel
theorem dJ7_fill_53178_4 : decode cJ7_fill_53178 4 = .ok (.istore_n 3, 1) := by decide +kernel
theorem dJ7_fill_53178_5 : decode cJ7_fill_53178 5 = .ok (.iload_n 2, 1) := by decide +kernel
theorem dJ7_fill_53178_6 : decode cJ7_fill_53178 6 = .ok (.iload_n 3, 1) := by decide +kernel
theorem dJ7_fill_53178_7 : decode cJ7_fill_53178 7 = .ok (.if_icmp .ge 13, 3) := by decide +kernel
theorem dJ7_fill_53178_10 : decode cJ7_fill_53178 10 = .ok (.aload_n 0, 1) := by decide +kernel
theorem dJ7_fill_53178_11 : decode cJ7_fill_53178 11 = .ok (.iload_n 2, 1) := by decide +kernel
theorem dJ7_fill_53178_12 : decode cJ7_fill_53178 12 = .ok (.iload_n 1, 1) := by decide +kernel
theorem dJ7_fill_53178_13 : decode cJ7_fill_53178 13 = .ok (.iastore, 1) := by decide +kernel
theorem dJ7_fill_53178_14 : decode cJ7_fill_53178 14 = .ok (.iinc 2 1, 3) := by decide +kernel
theorem dJ7_fill_53178_17 : decode cJ7_fill_53178 17 = .ok (.goto (-12), 3) := by decide +kernel
theorem dJ7_fill_53178_20 : decode cJ7_fill_53178 20 = .ok (.return_, 1) := by decide +kernel
theorem dJ3_checkIndex_8e157_0 : decode cJ3_checkIndex_8e157 0 = .ok (.iload_n 0, 1) := by decide +kernel
theorem dJ3_checkIndex_8e157_1 : decode cJ3_checkIndex_8e157 1 = .ok (.ifCond .lt 8, 3) := by decide +kernel
theorem dJ3_checkIndex_8e157_4 : decode cJ3_checkIndex_8e157 4 = .ok (.iload_n 0, 1) := by decide +kernel
theorem dJ3_checkIndex_8e157_5 : decode cJ3_checkIndex_8e157 5 = .ok (.iload_n 1, 1) := by decide +kernel
theorem dJ3_checkIndex_8e157_6 : decode cJ3_checkIndex_8e157 6 = .ok (.if_icmp .lt 10, 3) := by decide +kernel
theorem dJ3_checkIndex_8e157_9 : decode cJ3_checkIndex_8e157 9 = .ok (.aload_n 2, 1) := by decide +kernel
theorem dJ3_checkIndex_8e157_10 : decode cJ3_checkIndex_8e157 10 = .ok (.iload_n 0, 1) := by decide +kernel
theorem dJ3_checkIndex_8e157_11 : decode cJ3_checkIndex_8e157 11 = .ok (.iload_n 1, 1) := by decide +kernel
theorem dJ3_checkIndex_8e157_12 : decode cJ3_checkIndex_8e157 12 = .ok (.invokestatic 95, 3) := by decide +kernel
theorem dJ3_checkIndex_8e157_15 : decode cJ3_checkIndex_8e157 15 = .ok (.athrow, 1) := by decide +kernel
theorem dJ3_checkIndex_8e157_16 : decode cJ3_checkIndex_8e157 16 = .ok (.iload_n 0, 1) := by decide +kernel
theorem dJ3_checkIndex_8e157_17 : decode cJ3_checkIndex_8e157 17 = .ok (.ireturn, 1) := by decide +kernel
