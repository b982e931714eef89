theorem dJ7_fill_53178_0 : decode cJ7_fill_53178 0 = .ok (.iconst 0, 1) := by decide +kernel
theorem dJ7_fill_53178_1 : decode cJ7_fill_53178 1 = .ok (.istore_n 2, 1) := by decide +kernel
theorem dJ7_fill_53178_2 : decode cJ7_fill_53178 2 = .ok (.aload_n 0, 1) := by decide +kernel
theorem dJ7_fill_53178_3 : decode cJ7_fill_53178 3 = .ok (.arraylength, 1) := by decide +kernel
theorem dJ7_fill_53178_4 : decode cJ7_fill_53178 4 = .ok (.istore_n 3, 1) := by decide +kernel
theorem dJ7_fill_53178_5 : decode cJ7_fill_53178 5 = .ok (.iload_n 2, 1) := by decide +kernel
theorem dJ7_fill_53178_6 : decode cJ7_fill_53178 6 = .ok (.iload_n 3, 1) := by decide +kernel
theorem dJ7_fill_53178_7 : decode cJ7_fill_53178 7 = .ok (.if_icmp .ge 13, 3) := by decide +kernel
theorem dJ7_fill_53178_10 : decode cJ7_fill_53178 10 = .ok (.aload_n 0, 1) := by decide +kernel
theorem dJ7_fill_53178_11 : decode cJ7_fill_53178 11 = .ok (.iload_n 2, 1) := by decide +kernel
theorem dJ7_fill_53178_12 : decode cJ7_fill_53178 12 = .ok (.iload_n 1, 1) := by decide +kernel
theorem dJ7_fill_53178_13 : decode cJ7_fill_53178 13 = .ok (.iastore, 1) := by decide +kernel
theorem dJ7_fill_53178_14 : decode cJ7_fill_53178 14 = .ok (.iinc 2 1, 3) := by decide +kernel
theorem dJ7_fill_53178_17 : decode cJ7_fill_53178 17 = .ok (.goto (-12), 3) := by decide +kernel
theorem dJ7_fill_53178_20 : decode cJ7_fill_53178 20 = .ok (.return_, 1) := by decide +kernel
theorem dX10_ways_0 : decode cX10_ways 0 = .ok (.iload_n 1, 1) := by decide +kernel
theorem dX10_ways_1 : decode cX10_ways 1 = .ok (.ifCond .lt 8, 3) := by decide +kernel
theorem dX10_ways_4 : decode cX10_ways 4 = .ok (.iload_n 1, 1) := by decide +kernel
theorem dX10_ways_5 : decode cX10_ways 5 = .ok (.iload_n 0, 1) := by decide +kernel
theorem dX10_ways_6 : decode cX10_ways 6 = .ok (.if_icmp .le 5, 3) := by decide +kernel
theorem dX10_ways_9 : decode cX10_ways 9 = .ok (.lconst 0, 1) := by decide +kernel
theorem dX10_ways_10 : decode cX10_ways 10 = .ok (.lreturn, 1) := by decide +kernel
theorem dX10_ways_11 : decode cX10_ways 11 = .ok (.lconst 1, 1) := by decide +kernel
theorem dX10_ways_12 : decode cX10_ways 12 = .ok (.lstore_n 2, 1) := by decide +kernel
theorem dX10_ways_13 : decode cX10_ways 13 = .ok (.iconst 1, 1) := by decide +kernel
theorem dX10_ways_14 : decode cX10_ways 14 = .ok (.istore 4, 2) := by decide +kernel
theorem dX10_ways_16 : decode cX10_ways 16 = .ok (.iload 4, 2) := by decide +kernel
theorem dX10_ways_18 : decode cX10_ways 18 = .ok (.iload_n 1, 1) := by decide +kernel
theorem dX10_ways_19 : decode cX10_ways 19 = .ok (.if_icmp .gt 23, 3) := by decide +kernel
theorem dX10_ways_22 : decode cX10_ways 22 = .ok (.lload_n 2, 1) := by decide +kernel
theorem dX10_ways_23 : decode cX10_ways 23 = .ok (.iload_n 0, 1) := by decide +kernel
theorem dX10_ways_24 : decode cX10_ways 24 = .ok (.iload_n 1, 1) := by decide +kernel
theorem dX10_ways_25 : decode cX10_ways 25 = .ok (.isub, 1) := by decide +kernel
theorem dX10_ways_26 : decode cX10_ways 26 = .ok (.iload 4, 2) := by decide +kernel
theorem dX10_ways_28 : decode cX10_ways 28 = .ok (.iadd, 1) := by decide +kernel
theorem dX10_ways_29 : decode cX10_ways 29 = .ok (.i2l, 1) := by decide +kernel
theorem dX10_ways_30 : decode cX10_ways 30 = .ok (.lmul, 1) := by decide +kernel
theorem dX10_ways_31 : decode cX10_ways 31 = .ok (.iload 4, 2) := by decide +kernel
theorem dX10_ways_33 : decode cX10_ways 33 = .ok (.i2l, 1) := by decide +kernel
theorem dX10_ways_34 : decode cX10_ways 34 = .ok (.ldiv, 1) := by decide +kernel
theorem dX10_ways_35 : decode cX10_ways 35 = .ok (.lstore_n 2, 1) := by decide +kernel
theorem dX10_ways_36 : decode cX10_ways 36 = .ok (.iinc 4 1, 3) := by decide +kernel
theorem dX10_ways_39 : decode cX10_ways 39 = .ok (.goto (-23), 3) := by decide +kernel
theorem dX10_ways_42 : decode cX10_ways 42 = .ok (.lload_n 2, 1) := by decide +kernel
theorem dX10_ways_43 : decode cX10_ways 43 = .ok (.lreturn, 1) := by decide +kernel
theorem dX11_over_0 : decode cX11_over 0 = .ok (.iload_n 1, 1) := by decide +kernel
theorem dX11_over_1 : decode cX11_over 1 = .ok (.ifCond .lt 8, 3) := by decide +kernel
theorem dX11_over_4 : decode cX11_over 4 = .ok (.iload_n 1, 1) := by decide +kernel
theorem dX11_over_5 : decode cX11_over 5 = .ok (.iload_n 0, 1) := by decide +kernel
theorem dX11_over_6 : decode cX11_over 6 = .ok (.if_icmp .le 5, 3) := by decide +kernel
theorem dX11_over_9 : decode cX11_over 9 = .ok (.lconst 0, 1) := by decide +kernel
theorem dX11_over_10 : decode cX11_over 10 = .ok (.lreturn, 1) := by decide +kernel
theorem dX11_over_11 : decode cX11_over 11 = .ok (.lconst 1, 1) := by decide +kernel
theorem dX11_over_12 : decode cX11_over 12 = .ok (.lstore_n 2, 1) := by decide +kernel
theorem dX11_over_13 : decode cX11_over 13 = .ok (.iconst 1, 1) := by decide +kernel
theorem dX11_over_14 : decode cX11_over 14 = .ok (.istore 4, 2) := by decide +kernel
theorem dX11_over_16 : decode cX11_over 16 = .ok (.iload 4, 2) := by decide +kernel
theorem dX11_over_18 : decode cX11_over 18 = .ok (.iload_n 1, 1) := by decide +kernel
theorem dX11_over_19 : decode cX11_over 19 = .ok (.if_icmp .gt 23, 3) := by decide +kernel
theorem dX11_over_22 : decode cX11_over 22 = .ok (.lload_n 2, 1) := by decide +kernel
theorem dX11_over_23 : decode cX11_over 23 = .ok (.iload_n 0, 1) := by decide +kernel
theorem dX11_over_24 : decode cX11_over 24 = .ok (.iconst 1, 1) := by decide +kernel
theorem dX11_over_25 : decode cX11_over 25 = .ok (.iadd, 1) := by decide +kernel
theorem dX11_over_26 : decode cX11_over 26 = .ok (.iload 4, 2) := by decide +kernel
theorem dX11_over_28 : decode cX11_over 28 = .ok (.isub, 1) := by decide +kernel
theorem dX11_over_29 : decode cX11_over 29 = .ok (.i2l, 1) := by decide +kernel
theorem dX11_over_30 : decode cX11_over 30 = .ok (.lmul, 1) := by decide +kernel
theorem dX11_over_31 : decode cX11_over 31 = .ok (.iload 4, 2) := by decide +kernel
theorem dX11_over_33 : decode cX11_over 33 = .ok (.i2l, 1) := by decide +kernel
theorem dX11_over_34 : decode cX11_over 34 = .ok (.ldiv, 1) := by decide +kernel
theorem dX11_over_35 : decode cX11_over 35 = .ok (.lstore_n 2, 1) := by decide +kernel
theorem dX11_over_36 : decode cX11_over 36 = .ok (.iinc 4 1, 3) := by decide +kernel
theorem dX11_over_39 : decode cX11_over 39 = .ok (.goto (-23), 3) := by decide +kernel
theorem dX11_over_42 : decode cX11_over 42 = .ok (.lload_n 2, 1) := by decide +kernel
theorem dX11_over_43 : decode cX11_over 43 = .ok (.lreturn, 1) := by decide +kernel
theorem dX11_waysFrom_0 : decode cX11_waysFrom 0 = .ok (.lconst 0, 1) := by decide +kernel
theorem dX11_waysFrom_1 : decode cX11_waysFrom 1 = .ok (.lstore 4, 2) := by decide +kernel
theorem dX11_waysFrom_3 : decode cX11_waysFrom 3 = .ok (.iload_n 3, 1) := by decide +kernel
theorem dX11_waysFrom_4 : decode cX11_waysFrom 4 = .ok (.istore 6, 2) := by decide +kernel
theorem dX11_waysFrom_6 : decode cX11_waysFrom 6 = .ok (.iload 6, 2) := by decide +kernel
theorem dX11_waysFrom_8 : decode cX11_waysFrom 8 = .ok (.iload_n 2, 1) := by decide +kernel
theorem dX11_waysFrom_9 : decode cX11_waysFrom 9 = .ok (.if_icmp .gt 31, 3) := by decide +kernel
theorem dX11_waysFrom_12 : decode cX11_waysFrom 12 = .ok (.lload 4, 2) := by decide +kernel
theorem dX11_waysFrom_14 : decode cX11_waysFrom 14 = .ok (.iload_n 1, 1) := by decide +kernel
theorem dX11_waysFrom_15 : decode cX11_waysFrom 15 = .ok (.iload 6, 2) := by decide +kernel
theorem dX11_waysFrom_17 : decode cX11_waysFrom 17 = .ok (.invokestatic 577, 3) := by decide +kernel
theorem dX11_waysFrom_20 : decode cX11_waysFrom 20 = .ok (.iload_n 0, 1) := by decide +kernel
theorem dX11_waysFrom_21 : decode cX11_waysFrom 21 = .ok (.iload_n 1, 1) := by decide +kernel
theorem dX11_waysFrom_22 : decode cX11_waysFrom 22 = .ok (.isub, 1) := by decide +kernel
theorem dX11_waysFrom_23 : decode cX11_waysFrom 23 = .ok (.iload_n 2, 1) := by decide +kernel
theorem dX11_waysFrom_24 : decode cX11_waysFrom 24 = .ok (.iload 6, 2) := by decide +kernel
theorem dX11_waysFrom_26 : decode cX11_waysFrom 26 = .ok (.isub, 1) := by decide +kernel
theorem dX11_waysFrom_27 : decode cX11_waysFrom 27 = .ok (.invokestatic 577, 3) := by decide +kernel
theorem dX11_waysFrom_30 : decode cX11_waysFrom 30 = .ok (.lmul, 1) := by decide +kernel
theorem dX11_waysFrom_31 : decode cX11_waysFrom 31 = .ok (.ladd, 1) := by decide +kernel
theorem dX11_waysFrom_32 : decode cX11_waysFrom 32 = .ok (.lstore 4, 2) := by decide +kernel
theorem dX11_waysFrom_34 : decode cX11_waysFrom 34 = .ok (.iinc 6 1, 3) := by decide +kernel
theorem dX11_waysFrom_37 : decode cX11_waysFrom 37 = .ok (.goto (-31), 3) := by decide +kernel
theorem dX11_waysFrom_40 : decode cX11_waysFrom 40 = .ok (.lload 4, 2) := by decide +kernel
theorem dX11_waysFrom_42 : decode cX11_waysFrom 42 = .ok (.lreturn, 1) := by decide +kernel
theorem dX10_found_0 : decode cX10_found 0 = .ok (.iload_n 1, 1) := by decide +kernel
theorem dX10_found_1 : decode cX10_found 1 = .ok (.iload_n 2, 1) := by decide +kernel
theorem dX10_found_2 : decode cX10_found 2 = .ok (.invokestatic 292, 3) := by decide +kernel
theorem dX10_found_5 : decode cX10_found 5 = .ok (.ifCond .eq 22, 3) := by decide +kernel
theorem dX10_found_8 : decode cX10_found 8 = .ok (.iload_n 3, 1) := by decide +kernel
theorem dX10_found_9 : decode cX10_found 9 = .ok (.iconst 0, 1) := by decide +kernel
theorem dX10_found_10 : decode cX10_found 10 = .ok (.iload_n 1, 1) := by decide +kernel
theorem dX10_found_11 : decode cX10_found 11 = .ok (.invokestatic 108, 3) := by decide +kernel
theorem dX10_found_14 : decode cX10_found 14 = .ok (.ifCond .eq 13, 3) := by decide +kernel
theorem dX10_found_17 : decode cX10_found 17 = .ok (.iload 4, 2) := by decide +kernel
theorem dX10_found_19 : decode cX10_found 19 = .ok (.iconst 0, 1) := by decide +kernel
theorem dX10_found_20 : decode cX10_found 20 = .ok (.iload_n 3, 1) := by decide +kernel
theorem dX10_found_21 : decode cX10_found 21 = .ok (.invokestatic 108, 3) := by decide +kernel
theorem dX10_found_24 : decode cX10_found 24 = .ok (.ifCond .ne 7, 3) := by decide +kernel
theorem dX10_found_27 : decode cX10_found 27 = .ok (.ldc2_w 195, 3) := by decide +kernel
theorem dX10_found_30 : decode cX10_found 30 = .ok (.lreturn, 1) := by decide +kernel
theorem dX10_found_31 : decode cX10_found 31 = .ok (.iload 5, 2) := by decide +kernel
theorem dX10_found_33 : decode cX10_found 33 = .ok (.ifCond .ne 9, 3) := by decide +kernel
theorem dX10_found_36 : decode cX10_found 36 = .ok (.iload_n 1, 1) := by decide +kernel
theorem dX10_found_37 : decode cX10_found 37 = .ok (.iload_n 3, 1) := by decide +kernel
theorem dX10_found_38 : decode cX10_found 38 = .ok (.invokestatic 295, 3) := by decide +kernel
theorem dX10_found_41 : decode cX10_found 41 = .ok (.lreturn, 1) := by decide +kernel
theorem dX10_found_42 : decode cX10_found 42 = .ok (.lconst 0, 1) := by decide +kernel
theorem dX10_found_43 : decode cX10_found 43 = .ok (.lstore 6, 2) := by decide +kernel
theorem dX10_found_45 : decode cX10_found 45 = .ok (.iload 4, 2) := by decide +kernel
theorem dX10_found_47 : decode cX10_found 47 = .ok (.istore 8, 2) := by decide +kernel
theorem dX10_found_49 : decode cX10_found 49 = .ok (.iload 8, 2) := by decide +kernel
theorem dX10_found_51 : decode cX10_found 51 = .ok (.iload_n 3, 1) := by decide +kernel
theorem dX10_found_52 : decode cX10_found 52 = .ok (.if_icmp .gt 31, 3) := by decide +kernel
theorem dX10_found_55 : decode cX10_found 55 = .ok (.lload 6, 2) := by decide +kernel
theorem dX10_found_57 : decode cX10_found 57 = .ok (.iload_n 2, 1) := by decide +kernel
theorem dX10_found_58 : decode cX10_found 58 = .ok (.iload 8, 2) := by decide +kernel
theorem dX10_found_60 : decode cX10_found 60 = .ok (.invokestatic 295, 3) := by decide +kernel
theorem dX10_found_63 : decode cX10_found 63 = .ok (.iload_n 1, 1) := by decide +kernel
theorem dX10_found_64 : decode cX10_found 64 = .ok (.iload_n 2, 1) := by decide +kernel
theorem dX10_found_65 : decode cX10_found 65 = .ok (.isub, 1) := by decide +kernel
theorem dX10_found_66 : decode cX10_found 66 = .ok (.iload_n 3, 1) := by decide +kernel
theorem dX10_found_67 : decode cX10_found 67 = .ok (.iload 8, 2) := by decide +kernel
theorem dX10_found_69 : decode cX10_found 69 = .ok (.isub, 1) := by decide +kernel
theorem dX10_found_70 : decode cX10_found 70 = .ok (.invokestatic 295, 3) := by decide +kernel
theorem dX10_found_73 : decode cX10_found 73 = .ok (.lmul, 1) := by decide +kernel
theorem dX10_found_74 : decode cX10_found 74 = .ok (.ladd, 1) := by decide +kernel
theorem dX10_found_75 : decode cX10_found 75 = .ok (.lstore 6, 2) := by decide +kernel
theorem dX10_found_77 : decode cX10_found 77 = .ok (.iinc 8 1, 3) := by decide +kernel
theorem dX10_found_80 : decode cX10_found 80 = .ok (.goto (-31), 3) := by decide +kernel
theorem dX10_found_83 : decode cX10_found 83 = .ok (.lload 6, 2) := by decide +kernel
theorem dX10_found_85 : decode cX10_found 85 = .ok (.lreturn, 1) := by decide +kernel
theorem dX11_found_0 : decode cX11_found 0 = .ok (.iload_n 1, 1) := by decide +kernel
theorem dX11_found_1 : decode cX11_found 1 = .ok (.i2l, 1) := by decide +kernel
theorem dX11_found_2 : decode cX11_found 2 = .ok (.lconst 1, 1) := by decide +kernel
theorem dX11_found_3 : decode cX11_found 3 = .ok (.ldc2_w 581, 3) := by decide +kernel
theorem dX11_found_6 : decode cX11_found 6 = .ok (.invokestatic 300, 3) := by decide +kernel
theorem dX11_found_9 : decode cX11_found 9 = .ok (.ifCond .eq 37, 3) := by decide +kernel
theorem dX11_found_12 : decode cX11_found 12 = .ok (.iload_n 2, 1) := by decide +kernel
theorem dX11_found_13 : decode cX11_found 13 = .ok (.i2l, 1) := by decide +kernel
theorem dX11_found_14 : decode cX11_found 14 = .ok (.lconst 0, 1) := by decide +kernel
theorem dX11_found_15 : decode cX11_found 15 = .ok (.iload_n 1, 1) := by decide +kernel
theorem dX11_found_16 : decode cX11_found 16 = .ok (.i2l, 1) := by decide +kernel
theorem dX11_found_17 : decode cX11_found 17 = .ok (.invokestatic 300, 3) := by decide +kernel
theorem dX11_found_20 : decode cX11_found 20 = .ok (.ifCond .eq 26, 3) := by decide +kernel
theorem dX11_found_23 : decode cX11_found 23 = .ok (.iload_n 3, 1) := by decide +kernel
theorem dX11_found_24 : decode cX11_found 24 = .ok (.i2l, 1) := by decide +kernel
theorem dX11_found_25 : decode cX11_found 25 = .ok (.lconst 0, 1) := by decide +kernel
theorem dX11_found_26 : decode cX11_found 26 = .ok (.iload_n 1, 1) := by decide +kernel
theorem dX11_found_27 : decode cX11_found 27 = .ok (.i2l, 1) := by decide +kernel
theorem dX11_found_28 : decode cX11_found 28 = .ok (.invokestatic 300, 3) := by decide +kernel
theorem dX11_found_31 : decode cX11_found 31 = .ok (.ifCond .eq 15, 3) := by decide +kernel
theorem dX11_found_34 : decode cX11_found 34 = .ok (.iload 4, 2) := by decide +kernel
theorem dX11_found_36 : decode cX11_found 36 = .ok (.i2l, 1) := by decide +kernel
theorem dX11_found_37 : decode cX11_found 37 = .ok (.lconst 0, 1) := by decide +kernel
theorem dX11_found_38 : decode cX11_found 38 = .ok (.iload_n 3, 1) := by decide +kernel
theorem dX11_found_39 : decode cX11_found 39 = .ok (.i2l, 1) := by decide +kernel
theorem dX11_found_40 : decode cX11_found 40 = .ok (.invokestatic 300, 3) := by decide +kernel
theorem dX11_found_43 : decode cX11_found 43 = .ok (.ifCond .ne 7, 3) := by decide +kernel
theorem dX11_found_46 : decode cX11_found 46 = .ok (.ldc2_w 439, 3) := by decide +kernel
theorem dX11_found_49 : decode cX11_found 49 = .ok (.lreturn, 1) := by decide +kernel
theorem dX11_found_50 : decode cX11_found 50 = .ok (.iload 5, 2) := by decide +kernel
theorem dX11_found_52 : decode cX11_found 52 = .ok (.ifCond .eq 14, 3) := by decide +kernel
theorem dX11_found_55 : decode cX11_found 55 = .ok (.iload_n 1, 1) := by decide +kernel
theorem dX11_found_56 : decode cX11_found 56 = .ok (.iload_n 2, 1) := by decide +kernel
theorem dX11_found_57 : decode cX11_found 57 = .ok (.iload_n 3, 1) := by decide +kernel
theorem dX11_found_58 : decode cX11_found 58 = .ok (.iload 4, 2) := by decide +kernel
theorem dX11_found_60 : decode cX11_found 60 = .ok (.invokestatic 583, 3) := by decide +kernel
theorem dX11_found_63 : decode cX11_found 63 = .ok (.goto 8, 3) := by decide +kernel
theorem dX11_found_66 : decode cX11_found 66 = .ok (.iload_n 1, 1) := by decide +kernel
theorem dX11_found_67 : decode cX11_found 67 = .ok (.iload_n 3, 1) := by decide +kernel
theorem dX11_found_68 : decode cX11_found 68 = .ok (.invokestatic 577, 3) := by decide +kernel
theorem dX11_found_71 : decode cX11_found 71 = .ok (.lreturn, 1) := by decide +kernel
theorem dX10_tests_0 : decode cX10_tests 0 = .ok (.iload_n 1, 1) := by decide +kernel
theorem dX10_tests_1 : decode cX10_tests 1 = .ok (.iload_n 2, 1) := by decide +kernel
theorem dX10_tests_2 : decode cX10_tests 2 = .ok (.invokestatic 292, 3) := by decide +kernel
theorem dX10_tests_5 : decode cX10_tests 5 = .ok (.ifCond .eq 14, 3) := by decide +kernel
theorem dX10_tests_8 : decode cX10_tests 8 = .ok (.iload_n 3, 1) := by decide +kernel
theorem dX10_tests_9 : decode cX10_tests 9 = .ok (.iconst 1, 1) := by decide +kernel
theorem dX10_tests_10 : decode cX10_tests 10 = .ok (.sipush 1000, 3) := by decide +kernel
theorem dX10_tests_13 : decode cX10_tests 13 = .ok (.invokestatic 108, 3) := by decide +kernel
theorem dX10_tests_16 : decode cX10_tests 16 = .ok (.ifCond .ne 5, 3) := by decide +kernel
theorem dX10_tests_19 : decode cX10_tests 19 = .ok (.iconst (-1), 1) := by decide +kernel
theorem dX10_tests_20 : decode cX10_tests 20 = .ok (.ireturn, 1) := by decide +kernel
theorem dX10_tests_21 : decode cX10_tests 21 = .ok (.iconst 0, 1) := by decide +kernel
theorem dX10_tests_22 : decode cX10_tests 22 = .ok (.istore 4, 2) := by decide +kernel
theorem dX10_tests_24 : decode cX10_tests 24 = .ok (.iload 4, 2) := by decide +kernel
theorem dX10_tests_26 : decode cX10_tests 26 = .ok (.iload_n 1, 1) := by decide +kernel
theorem dX10_tests_27 : decode cX10_tests 27 = .ok (.if_icmp .gt 48, 3) := by decide +kernel
theorem dX10_tests_30 : decode cX10_tests 30 = .ok (.iload_n 1, 1) := by decide +kernel
theorem dX10_tests_31 : decode cX10_tests 31 = .ok (.iload 4, 2) := by decide +kernel
theorem dX10_tests_33 : decode cX10_tests 33 = .ok (.invokestatic 295, 3) := by decide +kernel
theorem dX10_tests_36 : decode cX10_tests 36 = .ok (.lstore 5, 2) := by decide +kernel
theorem dX10_tests_38 : decode cX10_tests 38 = .ok (.lload 5, 2) := by decide +kernel
theorem dX10_tests_40 : decode cX10_tests 40 = .ok (.iload_n 1, 1) := by decide +kernel
theorem dX10_tests_41 : decode cX10_tests 41 = .ok (.iload_n 2, 1) := by decide +kernel
theorem dX10_tests_42 : decode cX10_tests 42 = .ok (.isub, 1) := by decide +kernel
theorem dX10_tests_43 : decode cX10_tests 43 = .ok (.iload 4, 2) := by decide +kernel
theorem dX10_tests_45 : decode cX10_tests 45 = .ok (.invokestatic 295, 3) := by decide +kernel
theorem dX10_tests_48 : decode cX10_tests 48 = .ok (.lsub, 1) := by decide +kernel
theorem dX10_tests_49 : decode cX10_tests 49 = .ok (.lstore 7, 2) := by decide +kernel
theorem dX10_tests_51 : decode cX10_tests 51 = .ok (.lload 7, 2) := by decide +kernel
theorem dX10_tests_53 : decode cX10_tests 53 = .ok (.ldc2_w 299, 3) := by decide +kernel
theorem dX10_tests_56 : decode cX10_tests 56 = .ok (.lmul, 1) := by decide +kernel
theorem dX10_tests_57 : decode cX10_tests 57 = .ok (.lload 5, 2) := by decide +kernel
theorem dX10_tests_59 : decode cX10_tests 59 = .ok (.iload_n 3, 1) := by decide +kernel
theorem dX10_tests_60 : decode cX10_tests 60 = .ok (.i2l, 1) := by decide +kernel
theorem dX10_tests_61 : decode cX10_tests 61 = .ok (.lmul, 1) := by decide +kernel
theorem dX10_tests_62 : decode cX10_tests 62 = .ok (.lcmp, 1) := by decide +kernel
theorem dX10_tests_63 : decode cX10_tests 63 = .ok (.ifCond .lt 6, 3) := by decide +kernel
theorem dX10_tests_66 : decode cX10_tests 66 = .ok (.iload 4, 2) := by decide +kernel
theorem dX10_tests_68 : decode cX10_tests 68 = .ok (.ireturn, 1) := by decide +kernel
theorem dX10_tests_69 : decode cX10_tests 69 = .ok (.iinc 4 1, 3) := by decide +kernel
theorem dX10_tests_72 : decode cX10_tests 72 = .ok (.goto (-48), 3) := by decide +kernel
theorem dX10_tests_75 : decode cX10_tests 75 = .ok (.iconst (-1), 1) := by decide +kernel
theorem dX10_tests_76 : decode cX10_tests 76 = .ok (.ireturn, 1) := by decide +kernel
theorem dX11_tests_0 : decode cX11_tests 0 = .ok (.iload_n 1, 1) := by decide +kernel
theorem dX11_tests_1 : decode cX11_tests 1 = .ok (.i2l, 1) := by decide +kernel
theorem dX11_tests_2 : decode cX11_tests 2 = .ok (.lconst 1, 1) := by decide +kernel
theorem dX11_tests_3 : decode cX11_tests 3 = .ok (.ldc2_w 581, 3) := by decide +kernel
theorem dX11_tests_6 : decode cX11_tests 6 = .ok (.invokestatic 300, 3) := by decide +kernel
theorem dX11_tests_9 : decode cX11_tests 9 = .ok (.ifCond .eq 26, 3) := by decide +kernel
theorem dX11_tests_12 : decode cX11_tests 12 = .ok (.iload_n 2, 1) := by decide +kernel
theorem dX11_tests_13 : decode cX11_tests 13 = .ok (.i2l, 1) := by decide +kernel
theorem dX11_tests_14 : decode cX11_tests 14 = .ok (.lconst 0, 1) := by decide +kernel
theorem dX11_tests_15 : decode cX11_tests 15 = .ok (.iload_n 1, 1) := by decide +kernel
theorem dX11_tests_16 : decode cX11_tests 16 = .ok (.i2l, 1) := by decide +kernel
theorem dX11_tests_17 : decode cX11_tests 17 = .ok (.invokestatic 300, 3) := by decide +kernel
theorem dX11_tests_20 : decode cX11_tests 20 = .ok (.ifCond .eq 15, 3) := by decide +kernel
theorem dX11_tests_23 : decode cX11_tests 23 = .ok (.iload_n 3, 1) := by decide +kernel
theorem dX11_tests_24 : decode cX11_tests 24 = .ok (.i2l, 1) := by decide +kernel
theorem dX11_tests_25 : decode cX11_tests 25 = .ok (.lconst 1, 1) := by decide +kernel
theorem dX11_tests_26 : decode cX11_tests 26 = .ok (.ldc2_w 505, 3) := by decide +kernel
theorem dX11_tests_29 : decode cX11_tests 29 = .ok (.invokestatic 300, 3) := by decide +kernel
theorem dX11_tests_32 : decode cX11_tests 32 = .ok (.ifCond .ne 5, 3) := by decide +kernel
theorem dX11_tests_35 : decode cX11_tests 35 = .ok (.iconst (-1), 1) := by decide +kernel
theorem dX11_tests_36 : decode cX11_tests 36 = .ok (.ireturn, 1) := by decide +kernel
theorem dX11_tests_37 : decode cX11_tests 37 = .ok (.iconst 0, 1) := by decide +kernel
theorem dX11_tests_38 : decode cX11_tests 38 = .ok (.istore 4, 2) := by decide +kernel
theorem dX11_tests_40 : decode cX11_tests 40 = .ok (.iload 4, 2) := by decide +kernel
theorem dX11_tests_42 : decode cX11_tests 42 = .ok (.iload_n 1, 1) := by decide +kernel
theorem dX11_tests_43 : decode cX11_tests 43 = .ok (.if_icmp .gt 37, 3) := by decide +kernel
theorem dX11_tests_46 : decode cX11_tests 46 = .ok (.iload_n 1, 1) := by decide +kernel
theorem dX11_tests_47 : decode cX11_tests 47 = .ok (.iload_n 2, 1) := by decide +kernel
theorem dX11_tests_48 : decode cX11_tests 48 = .ok (.iload 4, 2) := by decide +kernel
theorem dX11_tests_50 : decode cX11_tests 50 = .ok (.iconst 1, 1) := by decide +kernel
theorem dX11_tests_51 : decode cX11_tests 51 = .ok (.invokestatic 583, 3) := by decide +kernel
theorem dX11_tests_54 : decode cX11_tests 54 = .ok (.ldc2_w 505, 3) := by decide +kernel
theorem dX11_tests_57 : decode cX11_tests 57 = .ok (.lmul, 1) := by decide +kernel
theorem dX11_tests_58 : decode cX11_tests 58 = .ok (.iload_n 3, 1) := by decide +kernel
theorem dX11_tests_59 : decode cX11_tests 59 = .ok (.i2l, 1) := by decide +kernel
theorem dX11_tests_60 : decode cX11_tests 60 = .ok (.iload_n 1, 1) := by decide +kernel
theorem dX11_tests_61 : decode cX11_tests 61 = .ok (.iload 4, 2) := by decide +kernel
theorem dX11_tests_63 : decode cX11_tests 63 = .ok (.invokestatic 577, 3) := by decide +kernel
theorem dX11_tests_66 : decode cX11_tests 66 = .ok (.lmul, 1) := by decide +kernel
theorem dX11_tests_67 : decode cX11_tests 67 = .ok (.lcmp, 1) := by decide +kernel
theorem dX11_tests_68 : decode cX11_tests 68 = .ok (.ifCond .lt 6, 3) := by decide +kernel
theorem dX11_tests_71 : decode cX11_tests 71 = .ok (.iload 4, 2) := by decide +kernel
theorem dX11_tests_73 : decode cX11_tests 73 = .ok (.ireturn, 1) := by decide +kernel
theorem dX11_tests_74 : decode cX11_tests 74 = .ok (.iinc 4 1, 3) := by decide +kernel
theorem dX11_tests_77 : decode cX11_tests 77 = .ok (.goto (-37), 3) := by decide +kernel
theorem dX11_tests_80 : decode cX11_tests 80 = .ok (.iconst (-1), 1) := by decide +kernel
theorem dX11_tests_81 : decode cX11_tests 81 = .ok (.ireturn, 1) := by decide +kernel
theorem dX10_init_0 : decode cX10_init 0 = .ok (.aload_n 0, 1) := by decide +kernel
theorem dX10_init_1 : decode cX10_init 1 = .ok (.invokespecial 3, 3) := by decide +kernel
theorem dX10_init_4 : decode cX10_init 4 = .ok (.aload_n 0, 1) := by decide +kernel
theorem dX10_init_5 : decode cX10_init 5 = .ok (.new 9, 3) := by decide +kernel
theorem dX10_init_8 : decode cX10_init 8 = .ok (.dup, 1) := by decide +kernel
theorem dX10_init_9 : decode cX10_init 9 = .ok (.invokespecial 11, 3) := by decide +kernel
theorem dX10_init_12 : decode cX10_init 12 = .ok (.putfield 12, 3) := by decide +kernel
theorem dX10_init_15 : decode cX10_init 15 = .ok (.aload_n 0, 1) := by decide +kernel
theorem dX10_init_16 : decode cX10_init 16 = .ok (.new 16, 3) := by decide +kernel
theorem dX10_init_19 : decode cX10_init 19 = .ok (.dup, 1) := by decide +kernel
theorem dX10_init_20 : decode cX10_init 20 = .ok (.invokespecial 18, 3) := by decide +kernel
theorem dX10_init_23 : decode cX10_init 23 = .ok (.putfield 19, 3) := by decide +kernel
theorem dX10_init_26 : decode cX10_init 26 = .ok (.aload_n 0, 1) := by decide +kernel
theorem dX10_init_27 : decode cX10_init 27 = .ok (.new 23, 3) := by decide +kernel
theorem dX10_init_30 : decode cX10_init 30 = .ok (.dup, 1) := by decide +kernel
theorem dX10_init_31 : decode cX10_init 31 = .ok (.invokespecial 25, 3) := by decide +kernel
theorem dX10_init_34 : decode cX10_init 34 = .ok (.putfield 26, 3) := by decide +kernel
theorem dX10_init_37 : decode cX10_init 37 = .ok (.aload_n 0, 1) := by decide +kernel
theorem dX10_init_38 : decode cX10_init 38 = .ok (.new 30, 3) := by decide +kernel
theorem dX10_init_41 : decode cX10_init 41 = .ok (.dup, 1) := by decide +kernel
theorem dX10_init_42 : decode cX10_init 42 = .ok (.invokespecial 32, 3) := by decide +kernel
theorem dX10_init_45 : decode cX10_init 45 = .ok (.putfield 33, 3) := by decide +kernel
theorem dX10_init_48 : decode cX10_init 48 = .ok (.aload_n 0, 1) := by decide +kernel
theorem dX10_init_49 : decode cX10_init 49 = .ok (.new 37, 3) := by decide +kernel
theorem dX10_init_52 : decode cX10_init 52 = .ok (.dup, 1) := by decide +kernel
theorem dX10_init_53 : decode cX10_init 53 = .ok (.invokespecial 39, 3) := by decide +kernel
theorem dX10_init_56 : decode cX10_init 56 = .ok (.putfield 40, 3) := by decide +kernel
theorem dX10_init_59 : decode cX10_init 59 = .ok (.aload_n 0, 1) := by decide +kernel
theorem dX10_init_60 : decode cX10_init 60 = .ok (.new 44, 3) := by decide +kernel
theorem dX10_init_63 : decode cX10_init 63 = .ok (.dup, 1) := by decide +kernel
theorem dX10_init_64 : decode cX10_init 64 = .ok (.invokespecial 46, 3) := by decide +kernel
theorem dX10_init_67 : decode cX10_init 67 = .ok (.putfield 47, 3) := by decide +kernel
theorem dX10_init_70 : decode cX10_init 70 = .ok (.aload_n 0, 1) := by decide +kernel
theorem dX10_init_71 : decode cX10_init 71 = .ok (.new 51, 3) := by decide +kernel
theorem dX10_init_74 : decode cX10_init 74 = .ok (.dup, 1) := by decide +kernel
theorem dX10_init_75 : decode cX10_init 75 = .ok (.invokespecial 53, 3) := by decide +kernel
theorem dX10_init_78 : decode cX10_init 78 = .ok (.putfield 54, 3) := by decide +kernel
theorem dX10_init_81 : decode cX10_init 81 = .ok (.aload_n 0, 1) := by decide +kernel
theorem dX10_init_82 : decode cX10_init 82 = .ok (.new 58, 3) := by decide +kernel
theorem dX10_init_85 : decode cX10_init 85 = .ok (.dup, 1) := by decide +kernel
theorem dX10_init_86 : decode cX10_init 86 = .ok (.invokespecial 60, 3) := by decide +kernel
theorem dX10_init_89 : decode cX10_init 89 = .ok (.putfield 61, 3) := by decide +kernel
theorem dX10_init_92 : decode cX10_init 92 = .ok (.aload_n 0, 1) := by decide +kernel
theorem dX10_init_93 : decode cX10_init 93 = .ok (.new 65, 3) := by decide +kernel
theorem dX10_init_96 : decode cX10_init 96 = .ok (.dup, 1) := by decide +kernel
theorem dX10_init_97 : decode cX10_init 97 = .ok (.invokespecial 67, 3) := by decide +kernel
theorem dX10_init_100 : decode cX10_init 100 = .ok (.putfield 68, 3) := by decide +kernel
theorem dX10_init_103 : decode cX10_init 103 = .ok (.aload_n 0, 1) := by decide +kernel
theorem dX10_init_104 : decode cX10_init 104 = .ok (.new 65, 3) := by decide +kernel
theorem dX10_init_107 : decode cX10_init 107 = .ok (.dup, 1) := by decide +kernel
theorem dX10_init_108 : decode cX10_init 108 = .ok (.invokespecial 67, 3) := by decide +kernel
theorem dX10_init_111 : decode cX10_init 111 = .ok (.putfield 72, 3) := by decide +kernel
theorem dX10_init_114 : decode cX10_init 114 = .ok (.aload_n 0, 1) := by decide +kernel
theorem dX10_init_115 : decode cX10_init 115 = .ok (.new 75, 3) := by decide +kernel
theorem dX10_init_118 : decode cX10_init 118 = .ok (.dup, 1) := by decide +kernel
theorem dX10_init_119 : decode cX10_init 119 = .ok (.aload_n 0, 1) := by decide +kernel
theorem dX10_init_120 : decode cX10_init 120 = .ok (.getfield 12, 3) := by decide +kernel
theorem dX10_init_123 : decode cX10_init 123 = .ok (.aload_n 0, 1) := by decide +kernel
theorem dX10_init_124 : decode cX10_init 124 = .ok (.getfield 72, 3) := by decide +kernel
theorem dX10_init_127 : decode cX10_init 127 = .ok (.invokespecial 77, 3) := by decide +kernel
theorem dX10_init_130 : decode cX10_init 130 = .ok (.putfield 80, 3) := by decide +kernel
theorem dX10_init_133 : decode cX10_init 133 = .ok (.aload_n 0, 1) := by decide +kernel
theorem dX10_init_134 : decode cX10_init 134 = .ok (.iconst 1, 1) := by decide +kernel
theorem dX10_init_135 : decode cX10_init 135 = .ok (.putfield 84, 3) := by decide +kernel
theorem dX10_init_138 : decode cX10_init 138 = .ok (.aload_n 0, 1) := by decide +kernel
theorem dX10_init_139 : decode cX10_init 139 = .ok (.iconst (-1), 1) := by decide +kernel
theorem dX10_init_140 : decode cX10_init 140 = .ok (.putfield 88, 3) := by decide +kernel
theorem dX10_init_143 : decode cX10_init 143 = .ok (.aload_n 0, 1) := by decide +kernel
theorem dX10_init_144 : decode cX10_init 144 = .ok (.iconst 0, 1) := by decide +kernel
theorem dX10_init_145 : decode cX10_init 145 = .ok (.putfield 91, 3) := by decide +kernel
theorem dX10_init_148 : decode cX10_init 148 = .ok (.aload_n 0, 1) := by decide +kernel
theorem dX10_init_149 : decode cX10_init 149 = .ok (.iconst (-1), 1) := by decide +kernel
theorem dX10_init_150 : decode cX10_init 150 = .ok (.putfield 94, 3) := by decide +kernel
theorem dX10_init_153 : decode cX10_init 153 = .ok (.aload_n 0, 1) := by decide +kernel
theorem dX10_init_154 : decode cX10_init 154 = .ok (.getfield 26, 3) := by decide +kernel
theorem dX10_init_157 : decode cX10_init 157 = .ok (.iconst 1, 1) := by decide +kernel
theorem dX10_init_158 : decode cX10_init 158 = .ok (.iconst 1, 1) := by decide +kernel
theorem dX10_init_159 : decode cX10_init 159 = .ok (.invokevirtual 97, 3) := by decide +kernel
theorem dX10_init_162 : decode cX10_init 162 = .ok (.return_, 1) := by decide +kernel
theorem dX9_init_0 : decode cX9_init 0 = .ok (.aload_n 0, 1) := by decide +kernel
theorem dX9_init_1 : decode cX9_init 1 = .ok (.invokespecial 3, 3) := by decide +kernel
theorem dX9_init_4 : decode cX9_init 4 = .ok (.aload_n 0, 1) := by decide +kernel
theorem dX9_init_5 : decode cX9_init 5 = .ok (.sipush 700, 3) := by decide +kernel
theorem dX9_init_8 : decode cX9_init 8 = .ok (.newarray .byte, 2) := by decide +kernel
theorem dX9_init_10 : decode cX9_init 10 = .ok (.putfield 11, 3) := by decide +kernel
theorem dX9_init_13 : decode cX9_init 13 = .ok (.aload_n 0, 1) := by decide +kernel
theorem dX9_init_14 : decode cX9_init 14 = .ok (.iconst 0, 1) := by decide +kernel
theorem dX9_init_15 : decode cX9_init 15 = .ok (.putfield 15, 3) := by decide +kernel
theorem dX9_init_18 : decode cX9_init 18 = .ok (.return_, 1) := by decide +kernel
theorem dX0_init_0 : decode cX0_init 0 = .ok (.aload_n 0, 1) := by decide +kernel
theorem dX0_init_1 : decode cX0_init 1 = .ok (.invokespecial 3, 3) := by decide +kernel
theorem dX0_init_4 : decode cX0_init 4 = .ok (.aload_n 0, 1) := by decide +kernel
theorem dX0_init_5 : decode cX0_init 5 = .ok (.bipush 121, 2) := by decide +kernel
theorem dX0_init_7 : decode cX0_init 7 = .ok (.newarray .int, 2) := by decide +kernel
theorem dX0_init_9 : decode cX0_init 9 = .ok (.putfield 11, 3) := by decide +kernel
theorem dX0_init_12 : decode cX0_init 12 = .ok (.aload_n 0, 1) := by decide +kernel
theorem dX0_init_13 : decode cX0_init 13 = .ok (.bipush 121, 2) := by decide +kernel
theorem dX0_init_15 : decode cX0_init 15 = .ok (.newarray .int, 2) := by decide +kernel
theorem dX0_init_17 : decode cX0_init 17 = .ok (.putfield 15, 3) := by decide +kernel
theorem dX0_init_20 : decode cX0_init 20 = .ok (.aload_n 0, 1) := by decide +kernel
theorem dX0_init_21 : decode cX0_init 21 = .ok (.bipush 121, 2) := by decide +kernel
theorem dX0_init_23 : decode cX0_init 23 = .ok (.newarray .int, 2) := by decide +kernel
theorem dX0_init_25 : decode cX0_init 25 = .ok (.putfield 18, 3) := by decide +kernel
theorem dX0_init_28 : decode cX0_init 28 = .ok (.aload_n 0, 1) := by decide +kernel
theorem dX0_init_29 : decode cX0_init 29 = .ok (.bipush 121, 2) := by decide +kernel
theorem dX0_init_31 : decode cX0_init 31 = .ok (.newarray .int, 2) := by decide +kernel
theorem dX0_init_33 : decode cX0_init 33 = .ok (.putfield 21, 3) := by decide +kernel
theorem dX0_init_36 : decode cX0_init 36 = .ok (.aload_n 0, 1) := by decide +kernel
theorem dX0_init_37 : decode cX0_init 37 = .ok (.bipush 121, 2) := by decide +kernel
theorem dX0_init_39 : decode cX0_init 39 = .ok (.newarray .int, 2) := by decide +kernel
theorem dX0_init_41 : decode cX0_init 41 = .ok (.putfield 24, 3) := by decide +kernel
theorem dX0_init_44 : decode cX0_init 44 = .ok (.aload_n 0, 1) := by decide +kernel
theorem dX0_init_45 : decode cX0_init 45 = .ok (.bipush 121, 2) := by decide +kernel
theorem dX0_init_47 : decode cX0_init 47 = .ok (.newarray .int, 2) := by decide +kernel
theorem dX0_init_49 : decode cX0_init 49 = .ok (.putfield 27, 3) := by decide +kernel
theorem dX0_init_52 : decode cX0_init 52 = .ok (.aload_n 0, 1) := by decide +kernel
theorem dX0_init_53 : decode cX0_init 53 = .ok (.iconst 0, 1) := by decide +kernel
theorem dX0_init_54 : decode cX0_init 54 = .ok (.putfield 30, 3) := by decide +kernel
theorem dX0_init_57 : decode cX0_init 57 = .ok (.return_, 1) := by decide +kernel
theorem dX2_init_0 : decode cX2_init 0 = .ok (.aload_n 0, 1) := by decide +kernel
theorem dX2_init_1 : decode cX2_init 1 = .ok (.invokespecial 3, 3) := by decide +kernel
theorem dX2_init_4 : decode cX2_init 4 = .ok (.aload_n 0, 1) := by decide +kernel
theorem dX2_init_5 : decode cX2_init 5 = .ok (.bipush 64, 2) := by decide +kernel
theorem dX2_init_7 : decode cX2_init 7 = .ok (.newarray .int, 2) := by decide +kernel
theorem dX2_init_9 : decode cX2_init 9 = .ok (.putfield 9, 3) := by decide +kernel
theorem dX2_init_12 : decode cX2_init 12 = .ok (.aload_n 0, 1) := by decide +kernel
theorem dX2_init_13 : decode cX2_init 13 = .ok (.bipush 64, 2) := by decide +kernel
theorem dX2_init_15 : decode cX2_init 15 = .ok (.newarray .int, 2) := by decide +kernel
theorem dX2_init_17 : decode cX2_init 17 = .ok (.putfield 15, 3) := by decide +kernel
theorem dX2_init_20 : decode cX2_init 20 = .ok (.aload_n 0, 1) := by decide +kernel
theorem dX2_init_21 : decode cX2_init 21 = .ok (.bipush 64, 2) := by decide +kernel
theorem dX2_init_23 : decode cX2_init 23 = .ok (.newarray .int, 2) := by decide +kernel
theorem dX2_init_25 : decode cX2_init 25 = .ok (.putfield 18, 3) := by decide +kernel
theorem dX2_init_28 : decode cX2_init 28 = .ok (.aload_n 0, 1) := by decide +kernel
theorem dX2_init_29 : decode cX2_init 29 = .ok (.bipush 64, 2) := by decide +kernel
theorem dX2_init_31 : decode cX2_init 31 = .ok (.newarray .int, 2) := by decide +kernel
theorem dX2_init_33 : decode cX2_init 33 = .ok (.putfield 21, 3) := by decide +kernel
theorem dX2_init_36 : decode cX2_init 36 = .ok (.aload_n 0, 1) := by decide +kernel
theorem dX2_init_37 : decode cX2_init 37 = .ok (.bipush 64, 2) := by decide +kernel
theorem dX2_init_39 : decode cX2_init 39 = .ok (.newarray .int, 2) := by decide +kernel
theorem dX2_init_41 : decode cX2_init 41 = .ok (.putfield 24, 3) := by decide +kernel
theorem dX2_init_44 : decode cX2_init 44 = .ok (.aload_n 0, 1) := by decide +kernel
theorem dX2_init_45 : decode cX2_init 45 = .ok (.sipush 1200, 3) := by decide +kernel
theorem dX2_init_48 : decode cX2_init 48 = .ok (.newarray .int, 2) := by decide +kernel
theorem dX2_init_50 : decode cX2_init 50 = .ok (.putfield 29, 3) := by decide +kernel
theorem dX2_init_53 : decode cX2_init 53 = .ok (.aload_n 0, 1) := by decide +kernel
theorem dX2_init_54 : decode cX2_init 54 = .ok (.new 32, 3) := by decide +kernel
theorem dX2_init_57 : decode cX2_init 57 = .ok (.dup, 1) := by decide +kernel
theorem dX2_init_58 : decode cX2_init 58 = .ok (.invokespecial 34, 3) := by decide +kernel
theorem dX2_init_61 : decode cX2_init 61 = .ok (.putfield 35, 3) := by decide +kernel
theorem dX2_init_64 : decode cX2_init 64 = .ok (.aload_n 0, 1) := by decide +kernel
theorem dX2_init_65 : decode cX2_init 65 = .ok (.new 39, 3) := by decide +kernel
theorem dX2_init_68 : decode cX2_init 68 = .ok (.dup, 1) := by decide +kernel
theorem dX2_init_69 : decode cX2_init 69 = .ok (.invokespecial 41, 3) := by decide +kernel
theorem dX2_init_72 : decode cX2_init 72 = .ok (.putfield 42, 3) := by decide +kernel
theorem dX2_init_75 : decode cX2_init 75 = .ok (.aload_n 0, 1) := by decide +kernel
theorem dX2_init_76 : decode cX2_init 76 = .ok (.iconst 0, 1) := by decide +kernel
theorem dX2_init_77 : decode cX2_init 77 = .ok (.putfield 46, 3) := by decide +kernel
theorem dX2_init_80 : decode cX2_init 80 = .ok (.aload_n 0, 1) := by decide +kernel
theorem dX2_init_81 : decode cX2_init 81 = .ok (.iconst 1, 1) := by decide +kernel
theorem dX2_init_82 : decode cX2_init 82 = .ok (.putfield 50, 3) := by decide +kernel
theorem dX2_init_85 : decode cX2_init 85 = .ok (.aload_n 0, 1) := by decide +kernel
theorem dX2_init_86 : decode cX2_init 86 = .ok (.iconst 1, 1) := by decide +kernel
theorem dX2_init_87 : decode cX2_init 87 = .ok (.putfield 53, 3) := by decide +kernel
theorem dX2_init_90 : decode cX2_init 90 = .ok (.aload_n 0, 1) := by decide +kernel
theorem dX2_init_91 : decode cX2_init 91 = .ok (.iconst 0, 1) := by decide +kernel
theorem dX2_init_92 : decode cX2_init 92 = .ok (.putfield 56, 3) := by decide +kernel
theorem dX2_init_95 : decode cX2_init 95 = .ok (.return_, 1) := by decide +kernel
theorem dX1_init_0 : decode cX1_init 0 = .ok (.aload_n 0, 1) := by decide +kernel
theorem dX1_init_1 : decode cX1_init 1 = .ok (.invokespecial 3, 3) := by decide +kernel
theorem dX1_init_4 : decode cX1_init 4 = .ok (.aload_n 0, 1) := by decide +kernel
theorem dX1_init_5 : decode cX1_init 5 = .ok (.bipush 64, 2) := by decide +kernel
theorem dX1_init_7 : decode cX1_init 7 = .ok (.newarray .int, 2) := by decide +kernel
theorem dX1_init_9 : decode cX1_init 9 = .ok (.putfield 9, 3) := by decide +kernel
theorem dX1_init_12 : decode cX1_init 12 = .ok (.aload_n 0, 1) := by decide +kernel
theorem dX1_init_13 : decode cX1_init 13 = .ok (.bipush 64, 2) := by decide +kernel
theorem dX1_init_15 : decode cX1_init 15 = .ok (.newarray .int, 2) := by decide +kernel
theorem dX1_init_17 : decode cX1_init 17 = .ok (.putfield 15, 3) := by decide +kernel
theorem dX1_init_20 : decode cX1_init 20 = .ok (.aload_n 0, 1) := by decide +kernel
theorem dX1_init_21 : decode cX1_init 21 = .ok (.bipush 64, 2) := by decide +kernel
theorem dX1_init_23 : decode cX1_init 23 = .ok (.newarray .int, 2) := by decide +kernel
theorem dX1_init_25 : decode cX1_init 25 = .ok (.putfield 18, 3) := by decide +kernel
theorem dX1_init_28 : decode cX1_init 28 = .ok (.aload_n 0, 1) := by decide +kernel
theorem dX1_init_29 : decode cX1_init 29 = .ok (.bipush 64, 2) := by decide +kernel
theorem dX1_init_31 : decode cX1_init 31 = .ok (.newarray .int, 2) := by decide +kernel
theorem dX1_init_33 : decode cX1_init 33 = .ok (.putfield 21, 3) := by decide +kernel
theorem dX1_init_36 : decode cX1_init 36 = .ok (.aload_n 0, 1) := by decide +kernel
theorem dX1_init_37 : decode cX1_init 37 = .ok (.iconst 0, 1) := by decide +kernel
theorem dX1_init_38 : decode cX1_init 38 = .ok (.putfield 24, 3) := by decide +kernel
theorem dX1_init_41 : decode cX1_init 41 = .ok (.aload_n 0, 1) := by decide +kernel
theorem dX1_init_42 : decode cX1_init 42 = .ok (.iconst 1, 1) := by decide +kernel
theorem dX1_init_43 : decode cX1_init 43 = .ok (.putfield 28, 3) := by decide +kernel
theorem dX1_init_46 : decode cX1_init 46 = .ok (.aload_n 0, 1) := by decide +kernel
theorem dX1_init_47 : decode cX1_init 47 = .ok (.iconst 0, 1) := by decide +kernel
theorem dX1_init_48 : decode cX1_init 48 = .ok (.putfield 31, 3) := by decide +kernel
theorem dX1_init_51 : decode cX1_init 51 = .ok (.aload_n 0, 1) := by decide +kernel
theorem dX1_init_52 : decode cX1_init 52 = .ok (.iconst 0, 1) := by decide +kernel
theorem dX1_init_53 : decode cX1_init 53 = .ok (.putfield 34, 3) := by decide +kernel
theorem dX1_init_56 : decode cX1_init 56 = .ok (.return_, 1) := by decide +kernel
theorem dX6_init_0 : decode cX6_init 0 = .ok (.aload_n 0, 1) := by decide +kernel
theorem dX6_init_1 : decode cX6_init 1 = .ok (.invokespecial 3, 3) := by decide +kernel
theorem dX6_init_4 : decode cX6_init 4 = .ok (.aload_n 0, 1) := by decide +kernel
theorem dX6_init_5 : decode cX6_init 5 = .ok (.bipush 64, 2) := by decide +kernel
theorem dX6_init_7 : decode cX6_init 7 = .ok (.newarray .int, 2) := by decide +kernel
theorem dX6_init_9 : decode cX6_init 9 = .ok (.putfield 9, 3) := by decide +kernel
theorem dX6_init_12 : decode cX6_init 12 = .ok (.aload_n 0, 1) := by decide +kernel
theorem dX6_init_13 : decode cX6_init 13 = .ok (.bipush 64, 2) := by decide +kernel
theorem dX6_init_15 : decode cX6_init 15 = .ok (.newarray .int, 2) := by decide +kernel
theorem dX6_init_17 : decode cX6_init 17 = .ok (.putfield 15, 3) := by decide +kernel
theorem dX6_init_20 : decode cX6_init 20 = .ok (.aload_n 0, 1) := by decide +kernel
theorem dX6_init_21 : decode cX6_init 21 = .ok (.bipush 64, 2) := by decide +kernel
theorem dX6_init_23 : decode cX6_init 23 = .ok (.newarray .int, 2) := by decide +kernel
theorem dX6_init_25 : decode cX6_init 25 = .ok (.putfield 18, 3) := by decide +kernel
theorem dX6_init_28 : decode cX6_init 28 = .ok (.aload_n 0, 1) := by decide +kernel
theorem dX6_init_29 : decode cX6_init 29 = .ok (.bipush 64, 2) := by decide +kernel
theorem dX6_init_31 : decode cX6_init 31 = .ok (.newarray .int, 2) := by decide +kernel
theorem dX6_init_33 : decode cX6_init 33 = .ok (.putfield 21, 3) := by decide +kernel
theorem dX6_init_36 : decode cX6_init 36 = .ok (.aload_n 0, 1) := by decide +kernel
theorem dX6_init_37 : decode cX6_init 37 = .ok (.iconst 0, 1) := by decide +kernel
theorem dX6_init_38 : decode cX6_init 38 = .ok (.putfield 24, 3) := by decide +kernel
theorem dX6_init_41 : decode cX6_init 41 = .ok (.aload_n 0, 1) := by decide +kernel
theorem dX6_init_42 : decode cX6_init 42 = .ok (.lconst 0, 1) := by decide +kernel
theorem dX6_init_43 : decode cX6_init 43 = .ok (.putfield 28, 3) := by decide +kernel
theorem dX6_init_46 : decode cX6_init 46 = .ok (.aload_n 0, 1) := by decide +kernel
theorem dX6_init_47 : decode cX6_init 47 = .ok (.iconst 0, 1) := by decide +kernel
theorem dX6_init_48 : decode cX6_init 48 = .ok (.putfield 32, 3) := by decide +kernel
theorem dX6_init_51 : decode cX6_init 51 = .ok (.return_, 1) := by decide +kernel
theorem dX3_init_0 : decode cX3_init 0 = .ok (.aload_n 0, 1) := by decide +kernel
theorem dX3_init_1 : decode cX3_init 1 = .ok (.invokespecial 3, 3) := by decide +kernel
theorem dX3_init_4 : decode cX3_init 4 = .ok (.aload_n 0, 1) := by decide +kernel
theorem dX3_init_5 : decode cX3_init 5 = .ok (.bipush 65, 2) := by decide +kernel
theorem dX3_init_7 : decode cX3_init 7 = .ok (.newarray .long, 2) := by decide +kernel
theorem dX3_init_9 : decode cX3_init 9 = .ok (.putfield 9, 3) := by decide +kernel
theorem dX3_init_12 : decode cX3_init 12 = .ok (.aload_n 0, 1) := by decide +kernel
theorem dX3_init_13 : decode cX3_init 13 = .ok (.iconst 0, 1) := by decide +kernel
theorem dX3_init_14 : decode cX3_init 14 = .ok (.putfield 15, 3) := by decide +kernel
theorem dX3_init_17 : decode cX3_init 17 = .ok (.aload_n 0, 1) := by decide +kernel
theorem dX3_init_18 : decode cX3_init 18 = .ok (.iconst 0, 1) := by decide +kernel
theorem dX3_init_19 : decode cX3_init 19 = .ok (.putfield 19, 3) := by decide +kernel
theorem dX3_init_22 : decode cX3_init 22 = .ok (.return_, 1) := by decide +kernel
theorem dX5_init_0 : decode cX5_init 0 = .ok (.aload_n 0, 1) := by decide +kernel
theorem dX5_init_1 : decode cX5_init 1 = .ok (.invokespecial 3, 3) := by decide +kernel
theorem dX5_init_4 : decode cX5_init 4 = .ok (.aload_n 0, 1) := by decide +kernel
theorem dX5_init_5 : decode cX5_init 5 = .ok (.bipush 8, 2) := by decide +kernel
theorem dX5_init_7 : decode cX5_init 7 = .ok (.newarray .int, 2) := by decide +kernel
theorem dX5_init_9 : decode cX5_init 9 = .ok (.putfield 9, 3) := by decide +kernel
theorem dX5_init_12 : decode cX5_init 12 = .ok (.aload_n 0, 1) := by decide +kernel
theorem dX5_init_13 : decode cX5_init 13 = .ok (.bipush 8, 2) := by decide +kernel
theorem dX5_init_15 : decode cX5_init 15 = .ok (.newarray .int, 2) := by decide +kernel
theorem dX5_init_17 : decode cX5_init 17 = .ok (.putfield 15, 3) := by decide +kernel
theorem dX5_init_20 : decode cX5_init 20 = .ok (.aload_n 0, 1) := by decide +kernel
theorem dX5_init_21 : decode cX5_init 21 = .ok (.bipush 8, 2) := by decide +kernel
theorem dX5_init_23 : decode cX5_init 23 = .ok (.newarray .int, 2) := by decide +kernel
theorem dX5_init_25 : decode cX5_init 25 = .ok (.putfield 18, 3) := by decide +kernel
theorem dX5_init_28 : decode cX5_init 28 = .ok (.aload_n 0, 1) := by decide +kernel
theorem dX5_init_29 : decode cX5_init 29 = .ok (.bipush 8, 2) := by decide +kernel
theorem dX5_init_31 : decode cX5_init 31 = .ok (.newarray .int, 2) := by decide +kernel
theorem dX5_init_33 : decode cX5_init 33 = .ok (.putfield 21, 3) := by decide +kernel
theorem dX5_init_36 : decode cX5_init 36 = .ok (.aload_n 0, 1) := by decide +kernel
theorem dX5_init_37 : decode cX5_init 37 = .ok (.iconst 4, 1) := by decide +kernel
theorem dX5_init_38 : decode cX5_init 38 = .ok (.newarray .int, 2) := by decide +kernel
theorem dX5_init_40 : decode cX5_init 40 = .ok (.putfield 24, 3) := by decide +kernel
theorem dX5_init_43 : decode cX5_init 43 = .ok (.aload_n 0, 1) := by decide +kernel
theorem dX5_init_44 : decode cX5_init 44 = .ok (.iconst 0, 1) := by decide +kernel
theorem dX5_init_45 : decode cX5_init 45 = .ok (.putfield 27, 3) := by decide +kernel
theorem dX5_init_48 : decode cX5_init 48 = .ok (.aload_n 0, 1) := by decide +kernel
theorem dX5_init_49 : decode cX5_init 49 = .ok (.lconst 0, 1) := by decide +kernel
theorem dX5_init_50 : decode cX5_init 50 = .ok (.putfield 31, 3) := by decide +kernel
theorem dX5_init_53 : decode cX5_init 53 = .ok (.aload_n 0, 1) := by decide +kernel
theorem dX5_init_54 : decode cX5_init 54 = .ok (.iconst 0, 1) := by decide +kernel
theorem dX5_init_55 : decode cX5_init 55 = .ok (.putfield 35, 3) := by decide +kernel
theorem dX5_init_58 : decode cX5_init 58 = .ok (.return_, 1) := by decide +kernel
theorem dX4_init_0 : decode cX4_init 0 = .ok (.aload_n 0, 1) := by decide +kernel
theorem dX4_init_1 : decode cX4_init 1 = .ok (.invokespecial 3, 3) := by decide +kernel
theorem dX4_init_4 : decode cX4_init 4 = .ok (.aload_n 0, 1) := by decide +kernel
theorem dX4_init_5 : decode cX4_init 5 = .ok (.bipush 12, 2) := by decide +kernel
theorem dX4_init_7 : decode cX4_init 7 = .ok (.newarray .int, 2) := by decide +kernel
theorem dX4_init_9 : decode cX4_init 9 = .ok (.putfield 11, 3) := by decide +kernel
theorem dX4_init_12 : decode cX4_init 12 = .ok (.aload_n 0, 1) := by decide +kernel
theorem dX4_init_13 : decode cX4_init 13 = .ok (.bipush 12, 2) := by decide +kernel
theorem dX4_init_15 : decode cX4_init 15 = .ok (.newarray .int, 2) := by decide +kernel
theorem dX4_init_17 : decode cX4_init 17 = .ok (.putfield 15, 3) := by decide +kernel
theorem dX4_init_20 : decode cX4_init 20 = .ok (.aload_n 0, 1) := by decide +kernel
theorem dX4_init_21 : decode cX4_init 21 = .ok (.bipush 12, 2) := by decide +kernel
theorem dX4_init_23 : decode cX4_init 23 = .ok (.newarray .int, 2) := by decide +kernel
theorem dX4_init_25 : decode cX4_init 25 = .ok (.putfield 18, 3) := by decide +kernel
theorem dX4_init_28 : decode cX4_init 28 = .ok (.aload_n 0, 1) := by decide +kernel
theorem dX4_init_29 : decode cX4_init 29 = .ok (.bipush 8, 2) := by decide +kernel
theorem dX4_init_31 : decode cX4_init 31 = .ok (.newarray .int, 2) := by decide +kernel
theorem dX4_init_33 : decode cX4_init 33 = .ok (.putfield 21, 3) := by decide +kernel
theorem dX4_init_36 : decode cX4_init 36 = .ok (.aload_n 0, 1) := by decide +kernel
theorem dX4_init_37 : decode cX4_init 37 = .ok (.bipush 8, 2) := by decide +kernel
theorem dX4_init_39 : decode cX4_init 39 = .ok (.newarray .int, 2) := by decide +kernel
theorem dX4_init_41 : decode cX4_init 41 = .ok (.putfield 24, 3) := by decide +kernel
theorem dX4_init_44 : decode cX4_init 44 = .ok (.aload_n 0, 1) := by decide +kernel
theorem dX4_init_45 : decode cX4_init 45 = .ok (.iconst 0, 1) := by decide +kernel
theorem dX4_init_46 : decode cX4_init 46 = .ok (.putfield 27, 3) := by decide +kernel
theorem dX4_init_49 : decode cX4_init 49 = .ok (.aload_n 0, 1) := by decide +kernel
theorem dX4_init_50 : decode cX4_init 50 = .ok (.iconst 0, 1) := by decide +kernel
theorem dX4_init_51 : decode cX4_init 51 = .ok (.putfield 31, 3) := by decide +kernel
theorem dX4_init_54 : decode cX4_init 54 = .ok (.aload_n 0, 1) := by decide +kernel
theorem dX4_init_55 : decode cX4_init 55 = .ok (.iconst 0, 1) := by decide +kernel
theorem dX4_init_56 : decode cX4_init 56 = .ok (.putfield 34, 3) := by decide +kernel
theorem dX4_init_59 : decode cX4_init 59 = .ok (.aload_n 0, 1) := by decide +kernel
theorem dX4_init_60 : decode cX4_init 60 = .ok (.iconst 0, 1) := by decide +kernel
theorem dX4_init_61 : decode cX4_init 61 = .ok (.putfield 37, 3) := by decide +kernel
theorem dX4_init_64 : decode cX4_init 64 = .ok (.return_, 1) := by decide +kernel
theorem dX8_init_0 : decode cX8_init 0 = .ok (.aload_n 0, 1) := by decide +kernel
theorem dX8_init_1 : decode cX8_init 1 = .ok (.invokespecial 3, 3) := by decide +kernel
theorem dX8_init_4 : decode cX8_init 4 = .ok (.aload_n 0, 1) := by decide +kernel
theorem dX8_init_5 : decode cX8_init 5 = .ok (.bipush 8, 2) := by decide +kernel
theorem dX8_init_7 : decode cX8_init 7 = .ok (.newarray .long, 2) := by decide +kernel
theorem dX8_init_9 : decode cX8_init 9 = .ok (.putfield 11, 3) := by decide +kernel
theorem dX8_init_12 : decode cX8_init 12 = .ok (.aload_n 0, 1) := by decide +kernel
theorem dX8_init_13 : decode cX8_init 13 = .ok (.bipush 32, 2) := by decide +kernel
theorem dX8_init_15 : decode cX8_init 15 = .ok (.newarray .int, 2) := by decide +kernel
theorem dX8_init_17 : decode cX8_init 17 = .ok (.putfield 15, 3) := by decide +kernel
theorem dX8_init_20 : decode cX8_init 20 = .ok (.aload_n 0, 1) := by decide +kernel
theorem dX8_init_21 : decode cX8_init 21 = .ok (.bipush 24, 2) := by decide +kernel
theorem dX8_init_23 : decode cX8_init 23 = .ok (.newarray .int, 2) := by decide +kernel
theorem dX8_init_25 : decode cX8_init 25 = .ok (.putfield 19, 3) := by decide +kernel
theorem dX8_init_28 : decode cX8_init 28 = .ok (.aload_n 0, 1) := by decide +kernel
theorem dX8_init_29 : decode cX8_init 29 = .ok (.bipush 24, 2) := by decide +kernel
theorem dX8_init_31 : decode cX8_init 31 = .ok (.newarray .int, 2) := by decide +kernel
theorem dX8_init_33 : decode cX8_init 33 = .ok (.putfield 22, 3) := by decide +kernel
theorem dX8_init_36 : decode cX8_init 36 = .ok (.aload_n 0, 1) := by decide +kernel
theorem dX8_init_37 : decode cX8_init 37 = .ok (.bipush 24, 2) := by decide +kernel
theorem dX8_init_39 : decode cX8_init 39 = .ok (.newarray .int, 2) := by decide +kernel
theorem dX8_init_41 : decode cX8_init 41 = .ok (.putfield 25, 3) := by decide +kernel
theorem dX8_init_44 : decode cX8_init 44 = .ok (.aload_n 0, 1) := by decide +kernel
theorem dX8_init_45 : decode cX8_init 45 = .ok (.bipush 24, 2) := by decide +kernel
theorem dX8_init_47 : decode cX8_init 47 = .ok (.newarray .int, 2) := by decide +kernel
theorem dX8_init_49 : decode cX8_init 49 = .ok (.putfield 28, 3) := by decide +kernel
theorem dX8_init_52 : decode cX8_init 52 = .ok (.aload_n 0, 1) := by decide +kernel
theorem dX8_init_53 : decode cX8_init 53 = .ok (.sipush 700, 3) := by decide +kernel
theorem dX8_init_56 : decode cX8_init 56 = .ok (.newarray .int, 2) := by decide +kernel
theorem dX8_init_58 : decode cX8_init 58 = .ok (.putfield 33, 3) := by decide +kernel
theorem dX8_init_61 : decode cX8_init 61 = .ok (.aload_n 0, 1) := by decide +kernel
theorem dX8_init_62 : decode cX8_init 62 = .ok (.bipush 8, 2) := by decide +kernel
theorem dX8_init_64 : decode cX8_init 64 = .ok (.newarray .int, 2) := by decide +kernel
theorem dX8_init_66 : decode cX8_init 66 = .ok (.putfield 36, 3) := by decide +kernel
theorem dX8_init_69 : decode cX8_init 69 = .ok (.aload_n 0, 1) := by decide +kernel
theorem dX8_init_70 : decode cX8_init 70 = .ok (.bipush 64, 2) := by decide +kernel
theorem dX8_init_72 : decode cX8_init 72 = .ok (.newarray .int, 2) := by decide +kernel
theorem dX8_init_74 : decode cX8_init 74 = .ok (.putfield 39, 3) := by decide +kernel
theorem dX8_init_77 : decode cX8_init 77 = .ok (.aload_n 0, 1) := by decide +kernel
theorem dX8_init_78 : decode cX8_init 78 = .ok (.iconst 0, 1) := by decide +kernel
theorem dX8_init_79 : decode cX8_init 79 = .ok (.putfield 42, 3) := by decide +kernel
theorem dX8_init_82 : decode cX8_init 82 = .ok (.aload_n 0, 1) := by decide +kernel
theorem dX8_init_83 : decode cX8_init 83 = .ok (.iconst 0, 1) := by decide +kernel
theorem dX8_init_84 : decode cX8_init 84 = .ok (.putfield 46, 3) := by decide +kernel
theorem dX8_init_87 : decode cX8_init 87 = .ok (.aload_n 0, 1) := by decide +kernel
theorem dX8_init_88 : decode cX8_init 88 = .ok (.iconst 0, 1) := by decide +kernel
theorem dX8_init_89 : decode cX8_init 89 = .ok (.putfield 49, 3) := by decide +kernel
theorem dX8_init_92 : decode cX8_init 92 = .ok (.aload_n 0, 1) := by decide +kernel
theorem dX8_init_93 : decode cX8_init 93 = .ok (.iconst 0, 1) := by decide +kernel
theorem dX8_init_94 : decode cX8_init 94 = .ok (.putfield 52, 3) := by decide +kernel
theorem dX8_init_97 : decode cX8_init 97 = .ok (.return_, 1) := by decide +kernel
theorem dX7_init_0 : decode cX7_init 0 = .ok (.aload_n 0, 1) := by decide +kernel
theorem dX7_init_1 : decode cX7_init 1 = .ok (.invokespecial 3, 3) := by decide +kernel
theorem dX7_init_4 : decode cX7_init 4 = .ok (.aload_n 0, 1) := by decide +kernel
theorem dX7_init_5 : decode cX7_init 5 = .ok (.iconst 0, 1) := by decide +kernel
theorem dX7_init_6 : decode cX7_init 6 = .ok (.putfield 9, 3) := by decide +kernel
theorem dX7_init_9 : decode cX7_init 9 = .ok (.aload_n 0, 1) := by decide +kernel
theorem dX7_init_10 : decode cX7_init 10 = .ok (.iconst (-1), 1) := by decide +kernel
theorem dX7_init_11 : decode cX7_init 11 = .ok (.putfield 15, 3) := by decide +kernel
theorem dX7_init_14 : decode cX7_init 14 = .ok (.aload_n 0, 1) := by decide +kernel
theorem dX7_init_15 : decode cX7_init 15 = .ok (.aload_n 1, 1) := by decide +kernel
theorem dX7_init_16 : decode cX7_init 16 = .ok (.putfield 18, 3) := by decide +kernel
theorem dX7_init_19 : decode cX7_init 19 = .ok (.aload_n 0, 1) := by decide +kernel
theorem dX7_init_20 : decode cX7_init 20 = .ok (.aload_n 2, 1) := by decide +kernel
theorem dX7_init_21 : decode cX7_init 21 = .ok (.putfield 22, 3) := by decide +kernel
theorem dX7_init_24 : decode cX7_init 24 = .ok (.return_, 1) := by decide +kernel
theorem dX2_begin_0 : decode cX2_begin 0 = .ok (.aload_n 0, 1) := by decide +kernel
theorem dX2_begin_1 : decode cX2_begin 1 = .ok (.iconst 1, 1) := by decide +kernel
theorem dX2_begin_2 : decode cX2_begin 2 = .ok (.iload_n 1, 1) := by decide +kernel
theorem dX2_begin_3 : decode cX2_begin 3 = .ok (.invokestatic 59, 3) := by decide +kernel
theorem dX2_begin_6 : decode cX2_begin 6 = .ok (.putfield 53, 3) := by decide +kernel
theorem dX2_begin_9 : decode cX2_begin 9 = .ok (.aload_n 0, 1) := by decide +kernel
theorem dX2_begin_10 : decode cX2_begin 10 = .ok (.bipush 64, 2) := by decide +kernel
theorem dX2_begin_12 : decode cX2_begin 12 = .ok (.aload_n 0, 1) := by decide +kernel
theorem dX2_begin_13 : decode cX2_begin 13 = .ok (.getfield 53, 3) := by decide +kernel
theorem dX2_begin_16 : decode cX2_begin 16 = .ok (.iload_n 2, 1) := by decide +kernel
theorem dX2_begin_17 : decode cX2_begin 17 = .ok (.imul, 1) := by decide +kernel
theorem dX2_begin_18 : decode cX2_begin 18 = .ok (.invokestatic 65, 3) := by decide +kernel
theorem dX2_begin_21 : decode cX2_begin 21 = .ok (.putfield 50, 3) := by decide +kernel
theorem dX2_begin_24 : decode cX2_begin 24 = .ok (.aload_n 0, 1) := by decide +kernel
theorem dX2_begin_25 : decode cX2_begin 25 = .ok (.invokevirtual 68, 3) := by decide +kernel
theorem dX2_begin_28 : decode cX2_begin 28 = .ok (.return_, 1) := by decide +kernel
theorem dX2_forget_0 : decode cX2_forget 0 = .ok (.aload_n 0, 1) := by decide +kernel
theorem dX2_forget_1 : decode cX2_forget 1 = .ok (.getfield 9, 3) := by decide +kernel
theorem dX2_forget_4 : decode cX2_forget 4 = .ok (.iconst (-1), 1) := by decide +kernel
theorem dX2_forget_5 : decode cX2_forget 5 = .ok (.invokestatic 71, 3) := by decide +kernel
theorem dX2_forget_8 : decode cX2_forget 8 = .ok (.aload_n 0, 1) := by decide +kernel
theorem dX2_forget_9 : decode cX2_forget 9 = .ok (.getfield 15, 3) := by decide +kernel
theorem dX2_forget_12 : decode cX2_forget 12 = .ok (.iconst 0, 1) := by decide +kernel
theorem dX2_forget_13 : decode cX2_forget 13 = .ok (.invokestatic 71, 3) := by decide +kernel
theorem dX2_forget_16 : decode cX2_forget 16 = .ok (.aload_n 0, 1) := by decide +kernel
theorem dX2_forget_17 : decode cX2_forget 17 = .ok (.getfield 18, 3) := by decide +kernel
theorem dX2_forget_20 : decode cX2_forget 20 = .ok (.iconst 0, 1) := by decide +kernel
theorem dX2_forget_21 : decode cX2_forget 21 = .ok (.invokestatic 71, 3) := by decide +kernel
theorem dX2_forget_24 : decode cX2_forget 24 = .ok (.aload_n 0, 1) := by decide +kernel
theorem dX2_forget_25 : decode cX2_forget 25 = .ok (.getfield 21, 3) := by decide +kernel
theorem dX2_forget_28 : decode cX2_forget 28 = .ok (.iconst 0, 1) := by decide +kernel
theorem dX2_forget_29 : decode cX2_forget 29 = .ok (.invokestatic 71, 3) := by decide +kernel
theorem dX2_forget_32 : decode cX2_forget 32 = .ok (.aload_n 0, 1) := by decide +kernel
theorem dX2_forget_33 : decode cX2_forget 33 = .ok (.getfield 24, 3) := by decide +kernel
theorem dX2_forget_36 : decode cX2_forget 36 = .ok (.iconst 0, 1) := by decide +kernel
theorem dX2_forget_37 : decode cX2_forget 37 = .ok (.invokestatic 71, 3) := by decide +kernel
theorem dX2_forget_40 : decode cX2_forget 40 = .ok (.aload_n 0, 1) := by decide +kernel
theorem dX2_forget_41 : decode cX2_forget 41 = .ok (.iconst 0, 1) := by decide +kernel
theorem dX2_forget_42 : decode cX2_forget 42 = .ok (.putfield 46, 3) := by decide +kernel
theorem dX2_forget_45 : decode cX2_forget 45 = .ok (.aload_n 0, 1) := by decide +kernel
theorem dX2_forget_46 : decode cX2_forget 46 = .ok (.iconst 0, 1) := by decide +kernel
theorem dX2_forget_47 : decode cX2_forget 47 = .ok (.putfield 56, 3) := by decide +kernel
theorem dX2_forget_50 : decode cX2_forget 50 = .ok (.return_, 1) := by decide +kernel
theorem dX11_init_0 : decode cX11_init 0 = .ok (.aload_n 0, 1) := by decide +kernel
theorem dX11_init_1 : decode cX11_init 1 = .ok (.invokespecial 1, 3) := by decide +kernel
theorem dX11_init_4 : decode cX11_init 4 = .ok (.aload_n 0, 1) := by decide +kernel
theorem dX11_init_5 : decode cX11_init 5 = .ok (.sipush 700, 3) := by decide +kernel
theorem dX11_init_8 : decode cX11_init 8 = .ok (.newarray .int, 2) := by decide +kernel
theorem dX11_init_10 : decode cX11_init 10 = .ok (.putfield 7, 3) := by decide +kernel
theorem dX11_init_13 : decode cX11_init 13 = .ok (.aload_n 0, 1) := by decide +kernel
theorem dX11_init_14 : decode cX11_init 14 = .ok (.iconst (-1), 1) := by decide +kernel
theorem dX11_init_15 : decode cX11_init 15 = .ok (.putfield 13, 3) := by decide +kernel
theorem dX11_init_18 : decode cX11_init 18 = .ok (.aload_n 0, 1) := by decide +kernel
theorem dX11_init_19 : decode cX11_init 19 = .ok (.iconst 4, 1) := by decide +kernel
theorem dX11_init_20 : decode cX11_init 20 = .ok (.newarray .char, 2) := by decide +kernel
theorem dX11_init_22 : decode cX11_init 22 = .ok (.dup, 1) := by decide +kernel
theorem dX11_init_23 : decode cX11_init 23 = .ok (.iconst 0, 1) := by decide +kernel
theorem dX11_init_24 : decode cX11_init 24 = .ok (.bipush 107, 2) := by decide +kernel
theorem dX11_init_26 : decode cX11_init 26 = .ok (.castore, 1) := by decide +kernel
theorem dX11_init_27 : decode cX11_init 27 = .ok (.dup, 1) := by decide +kernel
theorem dX11_init_28 : decode cX11_init 28 = .ok (.iconst 1, 1) := by decide +kernel
theorem dX11_init_29 : decode cX11_init 29 = .ok (.bipush 105, 2) := by decide +kernel
theorem dX11_init_31 : decode cX11_init 31 = .ok (.castore, 1) := by decide +kernel
theorem dX11_init_32 : decode cX11_init 32 = .ok (.dup, 1) := by decide +kernel
theorem dX11_init_33 : decode cX11_init 33 = .ok (.iconst 2, 1) := by decide +kernel
theorem dX11_init_34 : decode cX11_init 34 = .ok (.bipush 110, 2) := by decide +kernel
theorem dX11_init_36 : decode cX11_init 36 = .ok (.castore, 1) := by decide +kernel
theorem dX11_init_37 : decode cX11_init 37 = .ok (.dup, 1) := by decide +kernel
theorem dX11_init_38 : decode cX11_init 38 = .ok (.iconst 3, 1) := by decide +kernel
theorem dX11_init_39 : decode cX11_init 39 = .ok (.bipush 100, 2) := by decide +kernel
theorem dX11_init_41 : decode cX11_init 41 = .ok (.castore, 1) := by decide +kernel
theorem dX11_init_42 : decode cX11_init 42 = .ok (.putfield 17, 3) := by decide +kernel
theorem dX11_init_45 : decode cX11_init 45 = .ok (.aload_n 0, 1) := by decide +kernel
theorem dX11_init_46 : decode cX11_init 46 = .ok (.iconst 5, 1) := by decide +kernel
theorem dX11_init_47 : decode cX11_init 47 = .ok (.newarray .char, 2) := by decide +kernel
theorem dX11_init_49 : decode cX11_init 49 = .ok (.dup, 1) := by decide +kernel
theorem dX11_init_50 : decode cX11_init 50 = .ok (.iconst 0, 1) := by decide +kernel
theorem dX11_init_51 : decode cX11_init 51 = .ok (.bipush 115, 2) := by decide +kernel
theorem dX11_init_53 : decode cX11_init 53 = .ok (.castore, 1) := by decide +kernel
theorem dX11_init_54 : decode cX11_init 54 = .ok (.dup, 1) := by decide +kernel
theorem dX11_init_55 : decode cX11_init 55 = .ok (.iconst 1, 1) := by decide +kernel
theorem dX11_init_56 : decode cX11_init 56 = .ok (.bipush 116, 2) := by decide +kernel
theorem dX11_init_58 : decode cX11_init 58 = .ok (.castore, 1) := by decide +kernel
theorem dX11_init_59 : decode cX11_init 59 = .ok (.dup, 1) := by decide +kernel
theorem dX11_init_60 : decode cX11_init 60 = .ok (.iconst 2, 1) := by decide +kernel
theorem dX11_init_61 : decode cX11_init 61 = .ok (.bipush 105, 2) := by decide +kernel
theorem dX11_init_63 : decode cX11_init 63 = .ok (.castore, 1) := by decide +kernel
theorem dX11_init_64 : decode cX11_init 64 = .ok (.dup, 1) := by decide +kernel
theorem dX11_init_65 : decode cX11_init 65 = .ok (.iconst 3, 1) := by decide +kernel
theorem dX11_init_66 : decode cX11_init 66 = .ok (.bipush 102, 2) := by decide +kernel
theorem dX11_init_68 : decode cX11_init 68 = .ok (.castore, 1) := by decide +kernel
theorem dX11_init_69 : decode cX11_init 69 = .ok (.dup, 1) := by decide +kernel
theorem dX11_init_70 : decode cX11_init 70 = .ok (.iconst 4, 1) := by decide +kernel
theorem dX11_init_71 : decode cX11_init 71 = .ok (.bipush 102, 2) := by decide +kernel
theorem dX11_init_73 : decode cX11_init 73 = .ok (.castore, 1) := by decide +kernel
theorem dX11_init_74 : decode cX11_init 74 = .ok (.putfield 21, 3) := by decide +kernel
theorem dX11_init_77 : decode cX11_init 77 = .ok (.aload_n 0, 1) := by decide +kernel
theorem dX11_init_78 : decode cX11_init 78 = .ok (.iconst 5, 1) := by decide +kernel
theorem dX11_init_79 : decode cX11_init 79 = .ok (.newarray .char, 2) := by decide +kernel
theorem dX11_init_81 : decode cX11_init 81 = .ok (.dup, 1) := by decide +kernel
theorem dX11_init_82 : decode cX11_init 82 = .ok (.iconst 0, 1) := by decide +kernel
theorem dX11_init_83 : decode cX11_init 83 = .ok (.bipush 111, 2) := by decide +kernel
theorem dX11_init_85 : decode cX11_init 85 = .ok (.castore, 1) := by decide +kernel
theorem dX11_init_86 : decode cX11_init 86 = .ok (.dup, 1) := by decide +kernel
theorem dX11_init_87 : decode cX11_init 87 = .ok (.iconst 1, 1) := by decide +kernel
theorem dX11_init_88 : decode cX11_init 88 = .ok (.bipush 112, 2) := by decide +kernel
theorem dX11_init_90 : decode cX11_init 90 = .ok (.castore, 1) := by decide +kernel
theorem dX11_init_91 : decode cX11_init 91 = .ok (.dup, 1) := by decide +kernel
theorem dX11_init_92 : decode cX11_init 92 = .ok (.iconst 2, 1) := by decide +kernel
theorem dX11_init_93 : decode cX11_init 93 = .ok (.bipush 101, 2) := by decide +kernel
theorem dX11_init_95 : decode cX11_init 95 = .ok (.castore, 1) := by decide +kernel
theorem dX11_init_96 : decode cX11_init 96 = .ok (.dup, 1) := by decide +kernel
theorem dX11_init_97 : decode cX11_init 97 = .ok (.iconst 3, 1) := by decide +kernel
theorem dX11_init_98 : decode cX11_init 98 = .ok (.bipush 110, 2) := by decide +kernel
theorem dX11_init_100 : decode cX11_init 100 = .ok (.castore, 1) := by decide +kernel
theorem dX11_init_101 : decode cX11_init 101 = .ok (.dup, 1) := by decide +kernel
theorem dX11_init_102 : decode cX11_init 102 = .ok (.iconst 4, 1) := by decide +kernel
theorem dX11_init_103 : decode cX11_init 103 = .ok (.bipush 115, 2) := by decide +kernel
theorem dX11_init_105 : decode cX11_init 105 = .ok (.castore, 1) := by decide +kernel
theorem dX11_init_106 : decode cX11_init 106 = .ok (.putfield 24, 3) := by decide +kernel
theorem dX11_init_109 : decode cX11_init 109 = .ok (.aload_n 0, 1) := by decide +kernel
theorem dX11_init_110 : decode cX11_init 110 = .ok (.iconst 5, 1) := by decide +kernel
theorem dX11_init_111 : decode cX11_init 111 = .ok (.newarray .char, 2) := by decide +kernel
theorem dX11_init_113 : decode cX11_init 113 = .ok (.dup, 1) := by decide +kernel
theorem dX11_init_114 : decode cX11_init 114 = .ok (.iconst 0, 1) := by decide +kernel
theorem dX11_init_115 : decode cX11_init 115 = .ok (.bipush 116, 2) := by decide +kernel
theorem dX11_init_117 : decode cX11_init 117 = .ok (.castore, 1) := by decide +kernel
theorem dX11_init_118 : decode cX11_init 118 = .ok (.dup, 1) := by decide +kernel
theorem dX11_init_119 : decode cX11_init 119 = .ok (.iconst 1, 1) := by decide +kernel
theorem dX11_init_120 : decode cX11_init 120 = .ok (.bipush 105, 2) := by decide +kernel
theorem dX11_init_122 : decode cX11_init 122 = .ok (.castore, 1) := by decide +kernel
theorem dX11_init_123 : decode cX11_init 123 = .ok (.dup, 1) := by decide +kernel
theorem dX11_init_124 : decode cX11_init 124 = .ok (.iconst 2, 1) := by decide +kernel
theorem dX11_init_125 : decode cX11_init 125 = .ok (.bipush 114, 2) := by decide +kernel
theorem dX11_init_127 : decode cX11_init 127 = .ok (.castore, 1) := by decide +kernel
theorem dX11_init_128 : decode cX11_init 128 = .ok (.dup, 1) := by decide +kernel
theorem dX11_init_129 : decode cX11_init 129 = .ok (.iconst 3, 1) := by decide +kernel
theorem dX11_init_130 : decode cX11_init 130 = .ok (.bipush 101, 2) := by decide +kernel
theorem dX11_init_132 : decode cX11_init 132 = .ok (.castore, 1) := by decide +kernel
theorem dX11_init_133 : decode cX11_init 133 = .ok (.dup, 1) := by decide +kernel
theorem dX11_init_134 : decode cX11_init 134 = .ok (.iconst 4, 1) := by decide +kernel
theorem dX11_init_135 : decode cX11_init 135 = .ok (.bipush 115, 2) := by decide +kernel
theorem dX11_init_137 : decode cX11_init 137 = .ok (.castore, 1) := by decide +kernel
theorem dX11_init_138 : decode cX11_init 138 = .ok (.putfield 27, 3) := by decide +kernel
theorem dX11_init_141 : decode cX11_init 141 = .ok (.aload_n 0, 1) := by decide +kernel
theorem dX11_init_142 : decode cX11_init 142 = .ok (.iconst 5, 1) := by decide +kernel
theorem dX11_init_143 : decode cX11_init 143 = .ok (.newarray .char, 2) := by decide +kernel
theorem dX11_init_145 : decode cX11_init 145 = .ok (.dup, 1) := by decide +kernel
theorem dX11_init_146 : decode cX11_init 146 = .ok (.iconst 0, 1) := by decide +kernel
theorem dX11_init_147 : decode cX11_init 147 = .ok (.bipush 116, 2) := by decide +kernel
theorem dX11_init_149 : decode cX11_init 149 = .ok (.castore, 1) := by decide +kernel
theorem dX11_init_150 : decode cX11_init 150 = .ok (.dup, 1) := by decide +kernel
theorem dX11_init_151 : decode cX11_init 151 = .ok (.iconst 1, 1) := by decide +kernel
theorem dX11_init_152 : decode cX11_init 152 = .ok (.bipush 101, 2) := by decide +kernel
theorem dX11_init_154 : decode cX11_init 154 = .ok (.castore, 1) := by decide +kernel
theorem dX11_init_155 : decode cX11_init 155 = .ok (.dup, 1) := by decide +kernel
theorem dX11_init_156 : decode cX11_init 156 = .ok (.iconst 2, 1) := by decide +kernel
theorem dX11_init_157 : decode cX11_init 157 = .ok (.bipush 97, 2) := by decide +kernel
theorem dX11_init_159 : decode cX11_init 159 = .ok (.castore, 1) := by decide +kernel
theorem dX11_init_160 : decode cX11_init 160 = .ok (.dup, 1) := by decide +kernel
theorem dX11_init_161 : decode cX11_init 161 = .ok (.iconst 3, 1) := by decide +kernel
theorem dX11_init_162 : decode cX11_init 162 = .ok (.bipush 114, 2) := by decide +kernel
theorem dX11_init_164 : decode cX11_init 164 = .ok (.castore, 1) := by decide +kernel
theorem dX11_init_165 : decode cX11_init 165 = .ok (.dup, 1) := by decide +kernel
theorem dX11_init_166 : decode cX11_init 166 = .ok (.iconst 4, 1) := by decide +kernel
theorem dX11_init_167 : decode cX11_init 167 = .ok (.bipush 115, 2) := by decide +kernel
theorem dX11_init_169 : decode cX11_init 169 = .ok (.castore, 1) := by decide +kernel
theorem dX11_init_170 : decode cX11_init 170 = .ok (.putfield 30, 3) := by decide +kernel
theorem dX11_init_173 : decode cX11_init 173 = .ok (.aload_n 0, 1) := by decide +kernel
theorem dX11_init_174 : decode cX11_init 174 = .ok (.iconst 5, 1) := by decide +kernel
theorem dX11_init_175 : decode cX11_init 175 = .ok (.newarray .char, 2) := by decide +kernel
theorem dX11_init_177 : decode cX11_init 177 = .ok (.dup, 1) := by decide +kernel
theorem dX11_init_178 : decode cX11_init 178 = .ok (.iconst 0, 1) := by decide +kernel
theorem dX11_init_179 : decode cX11_init 179 = .ok (.bipush 99, 2) := by decide +kernel
theorem dX11_init_181 : decode cX11_init 181 = .ok (.castore, 1) := by decide +kernel
theorem dX11_init_182 : decode cX11_init 182 = .ok (.dup, 1) := by decide +kernel
theorem dX11_init_183 : decode cX11_init 183 = .ok (.iconst 1, 1) := by decide +kernel
theorem dX11_init_184 : decode cX11_init 184 = .ok (.bipush 97, 2) := by decide +kernel
theorem dX11_init_186 : decode cX11_init 186 = .ok (.castore, 1) := by decide +kernel
theorem dX11_init_187 : decode cX11_init 187 = .ok (.dup, 1) := by decide +kernel
theorem dX11_init_188 : decode cX11_init 188 = .ok (.iconst 2, 1) := by decide +kernel
theorem dX11_init_189 : decode cX11_init 189 = .ok (.bipush 116, 2) := by decide +kernel
theorem dX11_init_191 : decode cX11_init 191 = .ok (.castore, 1) := by decide +kernel
theorem dX11_init_192 : decode cX11_init 192 = .ok (.dup, 1) := by decide +kernel
theorem dX11_init_193 : decode cX11_init 193 = .ok (.iconst 3, 1) := by decide +kernel
theorem dX11_init_194 : decode cX11_init 194 = .ok (.bipush 99, 2) := by decide +kernel
theorem dX11_init_196 : decode cX11_init 196 = .ok (.castore, 1) := by decide +kernel
theorem dX11_init_197 : decode cX11_init 197 = .ok (.dup, 1) := by decide +kernel
theorem dX11_init_198 : decode cX11_init 198 = .ok (.iconst 4, 1) := by decide +kernel
theorem dX11_init_199 : decode cX11_init 199 = .ok (.bipush 104, 2) := by decide +kernel
theorem dX11_init_201 : decode cX11_init 201 = .ok (.castore, 1) := by decide +kernel
theorem dX11_init_202 : decode cX11_init 202 = .ok (.putfield 33, 3) := by decide +kernel
theorem dX11_init_205 : decode cX11_init 205 = .ok (.aload_n 0, 1) := by decide +kernel
theorem dX11_init_206 : decode cX11_init 206 = .ok (.iconst 4, 1) := by decide +kernel
theorem dX11_init_207 : decode cX11_init 207 = .ok (.newarray .char, 2) := by decide +kernel
theorem dX11_init_209 : decode cX11_init 209 = .ok (.dup, 1) := by decide +kernel
theorem dX11_init_210 : decode cX11_init 210 = .ok (.iconst 0, 1) := by decide +kernel
theorem dX11_init_211 : decode cX11_init 211 = .ok (.bipush 119, 2) := by decide +kernel
theorem dX11_init_213 : decode cX11_init 213 = .ok (.castore, 1) := by decide +kernel
theorem dX11_init_214 : decode cX11_init 214 = .ok (.dup, 1) := by decide +kernel
theorem dX11_init_215 : decode cX11_init 215 = .ok (.iconst 1, 1) := by decide +kernel
theorem dX11_init_216 : decode cX11_init 216 = .ok (.bipush 104, 2) := by decide +kernel
theorem dX11_init_218 : decode cX11_init 218 = .ok (.castore, 1) := by decide +kernel
theorem dX11_init_219 : decode cX11_init 219 = .ok (.dup, 1) := by decide +kernel
theorem dX11_init_220 : decode cX11_init 220 = .ok (.iconst 2, 1) := by decide +kernel
theorem dX11_init_221 : decode cX11_init 221 = .ok (.bipush 101, 2) := by decide +kernel
theorem dX11_init_223 : decode cX11_init 223 = .ok (.castore, 1) := by decide +kernel
theorem dX11_init_224 : decode cX11_init 224 = .ok (.dup, 1) := by decide +kernel
theorem dX11_init_225 : decode cX11_init 225 = .ok (.iconst 3, 1) := by decide +kernel
theorem dX11_init_226 : decode cX11_init 226 = .ok (.bipush 110, 2) := by decide +kernel
theorem dX11_init_228 : decode cX11_init 228 = .ok (.castore, 1) := by decide +kernel
theorem dX11_init_229 : decode cX11_init 229 = .ok (.putfield 36, 3) := by decide +kernel
theorem dX11_init_232 : decode cX11_init 232 = .ok (.aload_n 0, 1) := by decide +kernel
theorem dX11_init_233 : decode cX11_init 233 = .ok (.iconst 4, 1) := by decide +kernel
theorem dX11_init_234 : decode cX11_init 234 = .ok (.newarray .char, 2) := by decide +kernel
theorem dX11_init_236 : decode cX11_init 236 = .ok (.dup, 1) := by decide +kernel
theorem dX11_init_237 : decode cX11_init 237 = .ok (.iconst 0, 1) := by decide +kernel
theorem dX11_init_238 : decode cX11_init 238 = .ok (.bipush 108, 2) := by decide +kernel
theorem dX11_init_240 : decode cX11_init 240 = .ok (.castore, 1) := by decide +kernel
theorem dX11_init_241 : decode cX11_init 241 = .ok (.dup, 1) := by decide +kernel
theorem dX11_init_242 : decode cX11_init 242 = .ok (.iconst 1, 1) := by decide +kernel
theorem dX11_init_243 : decode cX11_init 243 = .ok (.bipush 105, 2) := by decide +kernel
theorem dX11_init_245 : decode cX11_init 245 = .ok (.castore, 1) := by decide +kernel
theorem dX11_init_246 : decode cX11_init 246 = .ok (.dup, 1) := by decide +kernel
theorem dX11_init_247 : decode cX11_init 247 = .ok (.iconst 2, 1) := by decide +kernel
theorem dX11_init_248 : decode cX11_init 248 = .ok (.bipush 110, 2) := by decide +kernel
theorem dX11_init_250 : decode cX11_init 250 = .ok (.castore, 1) := by decide +kernel
theorem dX11_init_251 : decode cX11_init 251 = .ok (.dup, 1) := by decide +kernel
theorem dX11_init_252 : decode cX11_init 252 = .ok (.iconst 3, 1) := by decide +kernel
theorem dX11_init_253 : decode cX11_init 253 = .ok (.bipush 116, 2) := by decide +kernel
theorem dX11_init_255 : decode cX11_init 255 = .ok (.castore, 1) := by decide +kernel
theorem dX11_init_256 : decode cX11_init 256 = .ok (.putfield 39, 3) := by decide +kernel
theorem dX11_init_259 : decode cX11_init 259 = .ok (.aload_n 0, 1) := by decide +kernel
theorem dX11_init_260 : decode cX11_init 260 = .ok (.iconst 2, 1) := by decide +kernel
theorem dX11_init_261 : decode cX11_init 261 = .ok (.newarray .char, 2) := by decide +kernel
theorem dX11_init_263 : decode cX11_init 263 = .ok (.dup, 1) := by decide +kernel
theorem dX11_init_264 : decode cX11_init 264 = .ok (.iconst 0, 1) := by decide +kernel
theorem dX11_init_265 : decode cX11_init 265 = .ok (.bipush 111, 2) := by decide +kernel
theorem dX11_init_267 : decode cX11_init 267 = .ok (.castore, 1) := by decide +kernel
theorem dX11_init_268 : decode cX11_init 268 = .ok (.dup, 1) := by decide +kernel
theorem dX11_init_269 : decode cX11_init 269 = .ok (.iconst 1, 1) := by decide +kernel
theorem dX11_init_270 : decode cX11_init 270 = .ok (.bipush 114, 2) := by decide +kernel
theorem dX11_init_272 : decode cX11_init 272 = .ok (.castore, 1) := by decide +kernel
theorem dX11_init_273 : decode cX11_init 273 = .ok (.putfield 42, 3) := by decide +kernel
theorem dX11_init_276 : decode cX11_init 276 = .ok (.aload_n 0, 1) := by decide +kernel
theorem dX11_init_277 : decode cX11_init 277 = .ok (.iconst 3, 1) := by decide +kernel
theorem dX11_init_278 : decode cX11_init 278 = .ok (.newarray .char, 2) := by decide +kernel
theorem dX11_init_280 : decode cX11_init 280 = .ok (.dup, 1) := by decide +kernel
theorem dX11_init_281 : decode cX11_init 281 = .ok (.iconst 0, 1) := by decide +kernel
theorem dX11_init_282 : decode cX11_init 282 = .ok (.bipush 97, 2) := by decide +kernel
theorem dX11_init_284 : decode cX11_init 284 = .ok (.castore, 1) := by decide +kernel
theorem dX11_init_285 : decode cX11_init 285 = .ok (.dup, 1) := by decide +kernel
theorem dX11_init_286 : decode cX11_init 286 = .ok (.iconst 1, 1) := by decide +kernel
theorem dX11_init_287 : decode cX11_init 287 = .ok (.bipush 110, 2) := by decide +kernel
theorem dX11_init_289 : decode cX11_init 289 = .ok (.castore, 1) := by decide +kernel
theorem dX11_init_290 : decode cX11_init 290 = .ok (.dup, 1) := by decide +kernel
theorem dX11_init_291 : decode cX11_init 291 = .ok (.iconst 2, 1) := by decide +kernel
theorem dX11_init_292 : decode cX11_init 292 = .ok (.bipush 100, 2) := by decide +kernel
theorem dX11_init_294 : decode cX11_init 294 = .ok (.castore, 1) := by decide +kernel
theorem dX11_init_295 : decode cX11_init 295 = .ok (.putfield 45, 3) := by decide +kernel
theorem dX11_init_298 : decode cX11_init 298 = .ok (.aload_n 0, 1) := by decide +kernel
theorem dX11_init_299 : decode cX11_init 299 = .ok (.iconst 3, 1) := by decide +kernel
theorem dX11_init_300 : decode cX11_init 300 = .ok (.newarray .char, 2) := by decide +kernel
theorem dX11_init_302 : decode cX11_init 302 = .ok (.dup, 1) := by decide +kernel
theorem dX11_init_303 : decode cX11_init 303 = .ok (.iconst 0, 1) := by decide +kernel
theorem dX11_init_304 : decode cX11_init 304 = .ok (.bipush 110, 2) := by decide +kernel
theorem dX11_init_306 : decode cX11_init 306 = .ok (.castore, 1) := by decide +kernel
theorem dX11_init_307 : decode cX11_init 307 = .ok (.dup, 1) := by decide +kernel
theorem dX11_init_308 : decode cX11_init 308 = .ok (.iconst 1, 1) := by decide +kernel
theorem dX11_init_309 : decode cX11_init 309 = .ok (.bipush 111, 2) := by decide +kernel
theorem dX11_init_311 : decode cX11_init 311 = .ok (.castore, 1) := by decide +kernel
theorem dX11_init_312 : decode cX11_init 312 = .ok (.dup, 1) := by decide +kernel
theorem dX11_init_313 : decode cX11_init 313 = .ok (.iconst 2, 1) := by decide +kernel
theorem dX11_init_314 : decode cX11_init 314 = .ok (.bipush 116, 2) := by decide +kernel
theorem dX11_init_316 : decode cX11_init 316 = .ok (.castore, 1) := by decide +kernel
theorem dX11_init_317 : decode cX11_init 317 = .ok (.putfield 48, 3) := by decide +kernel
theorem dX11_init_320 : decode cX11_init 320 = .ok (.aload_n 0, 1) := by decide +kernel
theorem dX11_init_321 : decode cX11_init 321 = .ok (.iconst 3, 1) := by decide +kernel
theorem dX11_init_322 : decode cX11_init 322 = .ok (.newarray .char, 2) := by decide +kernel
theorem dX11_init_324 : decode cX11_init 324 = .ok (.dup, 1) := by decide +kernel
theorem dX11_init_325 : decode cX11_init 325 = .ok (.iconst 0, 1) := by decide +kernel
theorem dX11_init_326 : decode cX11_init 326 = .ok (.bipush 97, 2) := by decide +kernel
theorem dX11_init_328 : decode cX11_init 328 = .ok (.castore, 1) := by decide +kernel
theorem dX11_init_329 : decode cX11_init 329 = .ok (.dup, 1) := by decide +kernel
theorem dX11_init_330 : decode cX11_init 330 = .ok (.iconst 1, 1) := by decide +kernel
theorem dX11_init_331 : decode cX11_init 331 = .ok (.bipush 108, 2) := by decide +kernel
theorem dX11_init_333 : decode cX11_init 333 = .ok (.castore, 1) := by decide +kernel
theorem dX11_init_334 : decode cX11_init 334 = .ok (.dup, 1) := by decide +kernel
theorem dX11_init_335 : decode cX11_init 335 = .ok (.iconst 2, 1) := by decide +kernel
theorem dX11_init_336 : decode cX11_init 336 = .ok (.bipush 108, 2) := by decide +kernel
theorem dX11_init_338 : decode cX11_init 338 = .ok (.castore, 1) := by decide +kernel
theorem dX11_init_339 : decode cX11_init 339 = .ok (.putfield 51, 3) := by decide +kernel
theorem dX11_init_342 : decode cX11_init 342 = .ok (.aload_n 0, 1) := by decide +kernel
theorem dX11_init_343 : decode cX11_init 343 = .ok (.iconst 2, 1) := by decide +kernel
theorem dX11_init_344 : decode cX11_init 344 = .ok (.newarray .char, 2) := by decide +kernel
theorem dX11_init_346 : decode cX11_init 346 = .ok (.dup, 1) := by decide +kernel
theorem dX11_init_347 : decode cX11_init 347 = .ok (.iconst 0, 1) := by decide +kernel
theorem dX11_init_348 : decode cX11_init 348 = .ok (.bipush 105, 2) := by decide +kernel
theorem dX11_init_350 : decode cX11_init 350 = .ok (.castore, 1) := by decide +kernel
theorem dX11_init_351 : decode cX11_init 351 = .ok (.dup, 1) := by decide +kernel
theorem dX11_init_352 : decode cX11_init 352 = .ok (.iconst 1, 1) := by decide +kernel
theorem dX11_init_353 : decode cX11_init 353 = .ok (.bipush 115, 2) := by decide +kernel
theorem dX11_init_355 : decode cX11_init 355 = .ok (.castore, 1) := by decide +kernel
theorem dX11_init_356 : decode cX11_init 356 = .ok (.putfield 54, 3) := by decide +kernel
theorem dX11_init_359 : decode cX11_init 359 = .ok (.aload_n 0, 1) := by decide +kernel
theorem dX11_init_360 : decode cX11_init 360 = .ok (.iconst 5, 1) := by decide +kernel
theorem dX11_init_361 : decode cX11_init 361 = .ok (.newarray .char, 2) := by decide +kernel
theorem dX11_init_363 : decode cX11_init 363 = .ok (.dup, 1) := by decide +kernel
theorem dX11_init_364 : decode cX11_init 364 = .ok (.iconst 0, 1) := by decide +kernel
theorem dX11_init_365 : decode cX11_init 365 = .ok (.bipush 112, 2) := by decide +kernel
theorem dX11_init_367 : decode cX11_init 367 = .ok (.castore, 1) := by decide +kernel
theorem dX11_init_368 : decode cX11_init 368 = .ok (.dup, 1) := by decide +kernel
theorem dX11_init_369 : decode cX11_init 369 = .ok (.iconst 1, 1) := by decide +kernel
theorem dX11_init_370 : decode cX11_init 370 = .ok (.bipush 114, 2) := by decide +kernel
theorem dX11_init_372 : decode cX11_init 372 = .ok (.castore, 1) := by decide +kernel
theorem dX11_init_373 : decode cX11_init 373 = .ok (.dup, 1) := by decide +kernel
theorem dX11_init_374 : decode cX11_init 374 = .ok (.iconst 2, 1) := by decide +kernel
theorem dX11_init_375 : decode cX11_init 375 = .ok (.bipush 101, 2) := by decide +kernel
theorem dX11_init_377 : decode cX11_init 377 = .ok (.castore, 1) := by decide +kernel
theorem dX11_init_378 : decode cX11_init 378 = .ok (.dup, 1) := by decide +kernel
theorem dX11_init_379 : decode cX11_init 379 = .ok (.iconst 3, 1) := by decide +kernel
theorem dX11_init_380 : decode cX11_init 380 = .ok (.bipush 115, 2) := by decide +kernel
theorem dX11_init_382 : decode cX11_init 382 = .ok (.castore, 1) := by decide +kernel
theorem dX11_init_383 : decode cX11_init 383 = .ok (.dup, 1) := by decide +kernel
theorem dX11_init_384 : decode cX11_init 384 = .ok (.iconst 4, 1) := by decide +kernel
theorem dX11_init_385 : decode cX11_init 385 = .ok (.bipush 115, 2) := by decide +kernel
theorem dX11_init_387 : decode cX11_init 387 = .ok (.castore, 1) := by decide +kernel
theorem dX11_init_388 : decode cX11_init 388 = .ok (.putfield 57, 3) := by decide +kernel
theorem dX11_init_391 : decode cX11_init 391 = .ok (.aload_n 0, 1) := by decide +kernel
theorem dX11_init_392 : decode cX11_init 392 = .ok (.iconst 5, 1) := by decide +kernel
theorem dX11_init_393 : decode cX11_init 393 = .ok (.newarray .char, 2) := by decide +kernel
theorem dX11_init_395 : decode cX11_init 395 = .ok (.dup, 1) := by decide +kernel
theorem dX11_init_396 : decode cX11_init 396 = .ok (.iconst 0, 1) := by decide +kernel
theorem dX11_init_397 : decode cX11_init 397 = .ok (.bipush 115, 2) := by decide +kernel
theorem dX11_init_399 : decode cX11_init 399 = .ok (.castore, 1) := by decide +kernel
theorem dX11_init_400 : decode cX11_init 400 = .ok (.dup, 1) := by decide +kernel
theorem dX11_init_401 : decode cX11_init 401 = .ok (.iconst 1, 1) := by decide +kernel
theorem dX11_init_402 : decode cX11_init 402 = .ok (.bipush 104, 2) := by decide +kernel
theorem dX11_init_404 : decode cX11_init 404 = .ok (.castore, 1) := by decide +kernel
theorem dX11_init_405 : decode cX11_init 405 = .ok (.dup, 1) := by decide +kernel
theorem dX11_init_406 : decode cX11_init 406 = .ok (.iconst 2, 1) := by decide +kernel
theorem dX11_init_407 : decode cX11_init 407 = .ok (.bipush 97, 2) := by decide +kernel
theorem dX11_init_409 : decode cX11_init 409 = .ok (.castore, 1) := by decide +kernel
theorem dX11_init_410 : decode cX11_init 410 = .ok (.dup, 1) := by decide +kernel
theorem dX11_init_411 : decode cX11_init 411 = .ok (.iconst 3, 1) := by decide +kernel
theorem dX11_init_412 : decode cX11_init 412 = .ok (.bipush 107, 2) := by decide +kernel
theorem dX11_init_414 : decode cX11_init 414 = .ok (.castore, 1) := by decide +kernel
theorem dX11_init_415 : decode cX11_init 415 = .ok (.dup, 1) := by decide +kernel
theorem dX11_init_416 : decode cX11_init 416 = .ok (.iconst 4, 1) := by decide +kernel
theorem dX11_init_417 : decode cX11_init 417 = .ok (.bipush 101, 2) := by decide +kernel
theorem dX11_init_419 : decode cX11_init 419 = .ok (.castore, 1) := by decide +kernel
theorem dX11_init_420 : decode cX11_init 420 = .ok (.putfield 60, 3) := by decide +kernel
theorem dX11_init_423 : decode cX11_init 423 = .ok (.aload_n 0, 1) := by decide +kernel
theorem dX11_init_424 : decode cX11_init 424 = .ok (.iconst 5, 1) := by decide +kernel
theorem dX11_init_425 : decode cX11_init 425 = .ok (.newarray .char, 2) := by decide +kernel
theorem dX11_init_427 : decode cX11_init 427 = .ok (.dup, 1) := by decide +kernel
theorem dX11_init_428 : decode cX11_init 428 = .ok (.iconst 0, 1) := by decide +kernel
theorem dX11_init_429 : decode cX11_init 429 = .ok (.bipush 108, 2) := by decide +kernel
theorem dX11_init_431 : decode cX11_init 431 = .ok (.castore, 1) := by decide +kernel
theorem dX11_init_432 : decode cX11_init 432 = .ok (.dup, 1) := by decide +kernel
theorem dX11_init_433 : decode cX11_init 433 = .ok (.iconst 1, 1) := by decide +kernel
theorem dX11_init_434 : decode cX11_init 434 = .ok (.bipush 111, 2) := by decide +kernel
theorem dX11_init_436 : decode cX11_init 436 = .ok (.castore, 1) := by decide +kernel
theorem dX11_init_437 : decode cX11_init 437 = .ok (.dup, 1) := by decide +kernel
theorem dX11_init_438 : decode cX11_init 438 = .ok (.iconst 2, 1) := by decide +kernel
theorem dX11_init_439 : decode cX11_init 439 = .ok (.bipush 111, 2) := by decide +kernel
theorem dX11_init_441 : decode cX11_init 441 = .ok (.castore, 1) := by decide +kernel
theorem dX11_init_442 : decode cX11_init 442 = .ok (.dup, 1) := by decide +kernel
theorem dX11_init_443 : decode cX11_init 443 = .ok (.iconst 3, 1) := by decide +kernel
theorem dX11_init_444 : decode cX11_init 444 = .ok (.bipush 112, 2) := by decide +kernel
theorem dX11_init_446 : decode cX11_init 446 = .ok (.castore, 1) := by decide +kernel
theorem dX11_init_447 : decode cX11_init 447 = .ok (.dup, 1) := by decide +kernel
theorem dX11_init_448 : decode cX11_init 448 = .ok (.iconst 4, 1) := by decide +kernel
theorem dX11_init_449 : decode cX11_init 449 = .ok (.bipush 115, 2) := by decide +kernel
theorem dX11_init_451 : decode cX11_init 451 = .ok (.castore, 1) := by decide +kernel
theorem dX11_init_452 : decode cX11_init 452 = .ok (.putfield 63, 3) := by decide +kernel
theorem dX11_init_455 : decode cX11_init 455 = .ok (.aload_n 0, 1) := by decide +kernel
theorem dX11_init_456 : decode cX11_init 456 = .ok (.iconst 4, 1) := by decide +kernel
theorem dX11_init_457 : decode cX11_init 457 = .ok (.newarray .char, 2) := by decide +kernel
theorem dX11_init_459 : decode cX11_init 459 = .ok (.dup, 1) := by decide +kernel
theorem dX11_init_460 : decode cX11_init 460 = .ok (.iconst 0, 1) := by decide +kernel
theorem dX11_init_461 : decode cX11_init 461 = .ok (.bipush 119, 2) := by decide +kernel
theorem dX11_init_463 : decode cX11_init 463 = .ok (.castore, 1) := by decide +kernel
theorem dX11_init_464 : decode cX11_init 464 = .ok (.dup, 1) := by decide +kernel
theorem dX11_init_465 : decode cX11_init 465 = .ok (.iconst 1, 1) := by decide +kernel
theorem dX11_init_466 : decode cX11_init 466 = .ok (.bipush 111, 2) := by decide +kernel
theorem dX11_init_468 : decode cX11_init 468 = .ok (.castore, 1) := by decide +kernel
theorem dX11_init_469 : decode cX11_init 469 = .ok (.dup, 1) := by decide +kernel
theorem dX11_init_470 : decode cX11_init 470 = .ok (.iconst 2, 1) := by decide +kernel
theorem dX11_init_471 : decode cX11_init 471 = .ok (.bipush 114, 2) := by decide +kernel
theorem dX11_init_473 : decode cX11_init 473 = .ok (.castore, 1) := by decide +kernel
theorem dX11_init_474 : decode cX11_init 474 = .ok (.dup, 1) := by decide +kernel
theorem dX11_init_475 : decode cX11_init 475 = .ok (.iconst 3, 1) := by decide +kernel
theorem dX11_init_476 : decode cX11_init 476 = .ok (.bipush 110, 2) := by decide +kernel
theorem dX11_init_478 : decode cX11_init 478 = .ok (.castore, 1) := by decide +kernel
theorem dX11_init_479 : decode cX11_init 479 = .ok (.putfield 66, 3) := by decide +kernel
theorem dX11_init_482 : decode cX11_init 482 = .ok (.aload_n 0, 1) := by decide +kernel
theorem dX11_init_483 : decode cX11_init 483 = .ok (.iconst 3, 1) := by decide +kernel
theorem dX11_init_484 : decode cX11_init 484 = .ok (.newarray .char, 2) := by decide +kernel
theorem dX11_init_486 : decode cX11_init 486 = .ok (.dup, 1) := by decide +kernel
theorem dX11_init_487 : decode cX11_init 487 = .ok (.iconst 0, 1) := by decide +kernel
theorem dX11_init_488 : decode cX11_init 488 = .ok (.bipush 114, 2) := by decide +kernel
theorem dX11_init_490 : decode cX11_init 490 = .ok (.castore, 1) := by decide +kernel
theorem dX11_init_491 : decode cX11_init 491 = .ok (.dup, 1) := by decide +kernel
theorem dX11_init_492 : decode cX11_init 492 = .ok (.iconst 1, 1) := by decide +kernel
theorem dX11_init_493 : decode cX11_init 493 = .ok (.bipush 111, 2) := by decide +kernel
theorem dX11_init_495 : decode cX11_init 495 = .ok (.castore, 1) := by decide +kernel
theorem dX11_init_496 : decode cX11_init 496 = .ok (.dup, 1) := by decide +kernel
theorem dX11_init_497 : decode cX11_init 497 = .ok (.iconst 2, 1) := by decide +kernel
theorem dX11_init_498 : decode cX11_init 498 = .ok (.bipush 119, 2) := by decide +kernel
theorem dX11_init_500 : decode cX11_init 500 = .ok (.castore, 1) := by decide +kernel
theorem dX11_init_501 : decode cX11_init 501 = .ok (.putfield 69, 3) := by decide +kernel
theorem dX11_init_504 : decode cX11_init 504 = .ok (.aload_n 0, 1) := by decide +kernel
theorem dX11_init_505 : decode cX11_init 505 = .ok (.bipush 6, 2) := by decide +kernel
theorem dX11_init_507 : decode cX11_init 507 = .ok (.newarray .char, 2) := by decide +kernel
theorem dX11_init_509 : decode cX11_init 509 = .ok (.dup, 1) := by decide +kernel
theorem dX11_init_510 : decode cX11_init 510 = .ok (.iconst 0, 1) := by decide +kernel
theorem dX11_init_511 : decode cX11_init 511 = .ok (.bipush 99, 2) := by decide +kernel
theorem dX11_init_513 : decode cX11_init 513 = .ok (.castore, 1) := by decide +kernel
theorem dX11_init_514 : decode cX11_init 514 = .ok (.dup, 1) := by decide +kernel
theorem dX11_init_515 : decode cX11_init 515 = .ok (.iconst 1, 1) := by decide +kernel
theorem dX11_init_516 : decode cX11_init 516 = .ok (.bipush 111, 2) := by decide +kernel
theorem dX11_init_518 : decode cX11_init 518 = .ok (.castore, 1) := by decide +kernel
theorem dX11_init_519 : decode cX11_init 519 = .ok (.dup, 1) := by decide +kernel
theorem dX11_init_520 : decode cX11_init 520 = .ok (.iconst 2, 1) := by decide +kernel
theorem dX11_init_521 : decode cX11_init 521 = .ok (.bipush 108, 2) := by decide +kernel
theorem dX11_init_523 : decode cX11_init 523 = .ok (.castore, 1) := by decide +kernel
theorem dX11_init_524 : decode cX11_init 524 = .ok (.dup, 1) := by decide +kernel
theorem dX11_init_525 : decode cX11_init 525 = .ok (.iconst 3, 1) := by decide +kernel
theorem dX11_init_526 : decode cX11_init 526 = .ok (.bipush 117, 2) := by decide +kernel
theorem dX11_init_528 : decode cX11_init 528 = .ok (.castore, 1) := by decide +kernel
theorem dX11_init_529 : decode cX11_init 529 = .ok (.dup, 1) := by decide +kernel
theorem dX11_init_530 : decode cX11_init 530 = .ok (.iconst 4, 1) := by decide +kernel
theorem dX11_init_531 : decode cX11_init 531 = .ok (.bipush 109, 2) := by decide +kernel
theorem dX11_init_533 : decode cX11_init 533 = .ok (.castore, 1) := by decide +kernel
theorem dX11_init_534 : decode cX11_init 534 = .ok (.dup, 1) := by decide +kernel
theorem dX11_init_535 : decode cX11_init 535 = .ok (.iconst 5, 1) := by decide +kernel
theorem dX11_init_536 : decode cX11_init 536 = .ok (.bipush 110, 2) := by decide +kernel
theorem dX11_init_538 : decode cX11_init 538 = .ok (.castore, 1) := by decide +kernel
theorem dX11_init_539 : decode cX11_init 539 = .ok (.putfield 72, 3) := by decide +kernel
theorem dX11_init_542 : decode cX11_init 542 = .ok (.aload_n 0, 1) := by decide +kernel
theorem dX11_init_543 : decode cX11_init 543 = .ok (.iconst 3, 1) := by decide +kernel
theorem dX11_init_544 : decode cX11_init 544 = .ok (.newarray .char, 2) := by decide +kernel
theorem dX11_init_546 : decode cX11_init 546 = .ok (.dup, 1) := by decide +kernel
theorem dX11_init_547 : decode cX11_init 547 = .ok (.iconst 0, 1) := by decide +kernel
theorem dX11_init_548 : decode cX11_init 548 = .ok (.bipush 109, 2) := by decide +kernel
theorem dX11_init_550 : decode cX11_init 550 = .ok (.castore, 1) := by decide +kernel
theorem dX11_init_551 : decode cX11_init 551 = .ok (.dup, 1) := by decide +kernel
theorem dX11_init_552 : decode cX11_init 552 = .ok (.iconst 1, 1) := by decide +kernel
theorem dX11_init_553 : decode cX11_init 553 = .ok (.bipush 105, 2) := by decide +kernel
theorem dX11_init_555 : decode cX11_init 555 = .ok (.castore, 1) := by decide +kernel
theorem dX11_init_556 : decode cX11_init 556 = .ok (.dup, 1) := by decide +kernel
theorem dX11_init_557 : decode cX11_init 557 = .ok (.iconst 2, 1) := by decide +kernel
theorem dX11_init_558 : decode cX11_init 558 = .ok (.bipush 110, 2) := by decide +kernel
theorem dX11_init_560 : decode cX11_init 560 = .ok (.castore, 1) := by decide +kernel
theorem dX11_init_561 : decode cX11_init 561 = .ok (.putfield 75, 3) := by decide +kernel
theorem dX11_init_564 : decode cX11_init 564 = .ok (.aload_n 0, 1) := by decide +kernel
theorem dX11_init_565 : decode cX11_init 565 = .ok (.iconst 3, 1) := by decide +kernel
theorem dX11_init_566 : decode cX11_init 566 = .ok (.newarray .char, 2) := by decide +kernel
theorem dX11_init_568 : decode cX11_init 568 = .ok (.dup, 1) := by decide +kernel
theorem dX11_init_569 : decode cX11_init 569 = .ok (.iconst 0, 1) := by decide +kernel
theorem dX11_init_570 : decode cX11_init 570 = .ok (.bipush 109, 2) := by decide +kernel
theorem dX11_init_572 : decode cX11_init 572 = .ok (.castore, 1) := by decide +kernel
theorem dX11_init_573 : decode cX11_init 573 = .ok (.dup, 1) := by decide +kernel
theorem dX11_init_574 : decode cX11_init 574 = .ok (.iconst 1, 1) := by decide +kernel
theorem dX11_init_575 : decode cX11_init 575 = .ok (.bipush 97, 2) := by decide +kernel
theorem dX11_init_577 : decode cX11_init 577 = .ok (.castore, 1) := by decide +kernel
theorem dX11_init_578 : decode cX11_init 578 = .ok (.dup, 1) := by decide +kernel
theorem dX11_init_579 : decode cX11_init 579 = .ok (.iconst 2, 1) := by decide +kernel
theorem dX11_init_580 : decode cX11_init 580 = .ok (.bipush 120, 2) := by decide +kernel
theorem dX11_init_582 : decode cX11_init 582 = .ok (.castore, 1) := by decide +kernel
theorem dX11_init_583 : decode cX11_init 583 = .ok (.putfield 78, 3) := by decide +kernel
theorem dX11_init_586 : decode cX11_init 586 = .ok (.aload_n 0, 1) := by decide +kernel
theorem dX11_init_587 : decode cX11_init 587 = .ok (.iconst 2, 1) := by decide +kernel
theorem dX11_init_588 : decode cX11_init 588 = .ok (.newarray .int, 2) := by decide +kernel
theorem dX11_init_590 : decode cX11_init 590 = .ok (.putfield 81, 3) := by decide +kernel
theorem dX11_init_593 : decode cX11_init 593 = .ok (.aload_n 0, 1) := by decide +kernel
theorem dX11_init_594 : decode cX11_init 594 = .ok (.bipush 8, 2) := by decide +kernel
theorem dX11_init_596 : decode cX11_init 596 = .ok (.newarray .long, 2) := by decide +kernel
theorem dX11_init_598 : decode cX11_init 598 = .ok (.putfield 84, 3) := by decide +kernel
theorem dX11_init_601 : decode cX11_init 601 = .ok (.aload_n 0, 1) := by decide +kernel
theorem dX11_init_602 : decode cX11_init 602 = .ok (.bipush 16, 2) := by decide +kernel
theorem dX11_init_604 : decode cX11_init 604 = .ok (.newarray .int, 2) := by decide +kernel
theorem dX11_init_606 : decode cX11_init 606 = .ok (.putfield 88, 3) := by decide +kernel
theorem dX11_init_609 : decode cX11_init 609 = .ok (.aload_n 0, 1) := by decide +kernel
theorem dX11_init_610 : decode cX11_init 610 = .ok (.bipush 16, 2) := by decide +kernel
theorem dX11_init_612 : decode cX11_init 612 = .ok (.newarray .int, 2) := by decide +kernel
theorem dX11_init_614 : decode cX11_init 614 = .ok (.putfield 91, 3) := by decide +kernel
theorem dX11_init_617 : decode cX11_init 617 = .ok (.aload_n 0, 1) := by decide +kernel
theorem dX11_init_618 : decode cX11_init 618 = .ok (.bipush 16, 2) := by decide +kernel
theorem dX11_init_620 : decode cX11_init 620 = .ok (.newarray .int, 2) := by decide +kernel
theorem dX11_init_622 : decode cX11_init 622 = .ok (.putfield 94, 3) := by decide +kernel
theorem dX11_init_625 : decode cX11_init 625 = .ok (.aload_n 0, 1) := by decide +kernel
theorem dX11_init_626 : decode cX11_init 626 = .ok (.bipush 16, 2) := by decide +kernel
theorem dX11_init_628 : decode cX11_init 628 = .ok (.newarray .int, 2) := by decide +kernel
theorem dX11_init_630 : decode cX11_init 630 = .ok (.putfield 97, 3) := by decide +kernel
theorem dX11_init_633 : decode cX11_init 633 = .ok (.aload_n 0, 1) := by decide +kernel
theorem dX11_init_634 : decode cX11_init 634 = .ok (.iconst 2, 1) := by decide +kernel
theorem dX11_init_635 : decode cX11_init 635 = .ok (.newarray .int, 2) := by decide +kernel
theorem dX11_init_637 : decode cX11_init 637 = .ok (.putfield 100, 3) := by decide +kernel
theorem dX11_init_640 : decode cX11_init 640 = .ok (.aload_n 0, 1) := by decide +kernel
theorem dX11_init_641 : decode cX11_init 641 = .ok (.bipush 48, 2) := by decide +kernel
theorem dX11_init_643 : decode cX11_init 643 = .ok (.newarray .int, 2) := by decide +kernel
theorem dX11_init_645 : decode cX11_init 645 = .ok (.putfield 103, 3) := by decide +kernel
theorem dX11_init_648 : decode cX11_init 648 = .ok (.aload_n 0, 1) := by decide +kernel
theorem dX11_init_649 : decode cX11_init 649 = .ok (.bipush 48, 2) := by decide +kernel
theorem dX11_init_651 : decode cX11_init 651 = .ok (.newarray .int, 2) := by decide +kernel
theorem dX11_init_653 : decode cX11_init 653 = .ok (.putfield 106, 3) := by decide +kernel
theorem dX11_init_656 : decode cX11_init 656 = .ok (.aload_n 0, 1) := by decide +kernel
theorem dX11_init_657 : decode cX11_init 657 = .ok (.bipush 48, 2) := by decide +kernel
theorem dX11_init_659 : decode cX11_init 659 = .ok (.newarray .int, 2) := by decide +kernel
theorem dX11_init_661 : decode cX11_init 661 = .ok (.putfield 109, 3) := by decide +kernel
theorem dX11_init_664 : decode cX11_init 664 = .ok (.aload_n 0, 1) := by decide +kernel
theorem dX11_init_665 : decode cX11_init 665 = .ok (.bipush 48, 2) := by decide +kernel
theorem dX11_init_667 : decode cX11_init 667 = .ok (.newarray .int, 2) := by decide +kernel
theorem dX11_init_669 : decode cX11_init 669 = .ok (.putfield 112, 3) := by decide +kernel
theorem dX11_init_672 : decode cX11_init 672 = .ok (.aload_n 0, 1) := by decide +kernel
theorem dX11_init_673 : decode cX11_init 673 = .ok (.sipush 1400, 3) := by decide +kernel
theorem dX11_init_676 : decode cX11_init 676 = .ok (.newarray .int, 2) := by decide +kernel
theorem dX11_init_678 : decode cX11_init 678 = .ok (.putfield 115, 3) := by decide +kernel
theorem dX11_init_681 : decode cX11_init 681 = .ok (.aload_n 0, 1) := by decide +kernel
theorem dX11_init_682 : decode cX11_init 682 = .ok (.sipush 800, 3) := by decide +kernel
theorem dX11_init_685 : decode cX11_init 685 = .ok (.newarray .int, 2) := by decide +kernel
theorem dX11_init_687 : decode cX11_init 687 = .ok (.putfield 118, 3) := by decide +kernel
theorem dX11_init_690 : decode cX11_init 690 = .ok (.aload_n 0, 1) := by decide +kernel
theorem dX11_init_691 : decode cX11_init 691 = .ok (.iconst 1, 1) := by decide +kernel
theorem dX11_init_692 : decode cX11_init 692 = .ok (.putfield 121, 3) := by decide +kernel
theorem dX11_init_695 : decode cX11_init 695 = .ok (.aload_n 0, 1) := by decide +kernel
theorem dX11_init_696 : decode cX11_init 696 = .ok (.iconst 1, 1) := by decide +kernel
theorem dX11_init_697 : decode cX11_init 697 = .ok (.putfield 124, 3) := by decide +kernel
theorem dX11_init_700 : decode cX11_init 700 = .ok (.aload_n 0, 1) := by decide +kernel
theorem dX11_init_701 : decode cX11_init 701 = .ok (.bipush 121, 2) := by decide +kernel
theorem dX11_init_703 : decode cX11_init 703 = .ok (.newarray .int, 2) := by decide +kernel
theorem dX11_init_705 : decode cX11_init 705 = .ok (.putfield 127, 3) := by decide +kernel
theorem dX11_init_708 : decode cX11_init 708 = .ok (.aload_n 0, 1) := by decide +kernel
theorem dX11_init_709 : decode cX11_init 709 = .ok (.bipush 121, 2) := by decide +kernel
theorem dX11_init_711 : decode cX11_init 711 = .ok (.newarray .int, 2) := by decide +kernel
theorem dX11_init_713 : decode cX11_init 713 = .ok (.putfield 130, 3) := by decide +kernel
theorem dX11_init_716 : decode cX11_init 716 = .ok (.aload_n 0, 1) := by decide +kernel
theorem dX11_init_717 : decode cX11_init 717 = .ok (.bipush 121, 2) := by decide +kernel
theorem dX11_init_719 : decode cX11_init 719 = .ok (.newarray .int, 2) := by decide +kernel
theorem dX11_init_721 : decode cX11_init 721 = .ok (.putfield 133, 3) := by decide +kernel
theorem dX11_init_724 : decode cX11_init 724 = .ok (.aload_n 0, 1) := by decide +kernel
theorem dX11_init_725 : decode cX11_init 725 = .ok (.bipush 121, 2) := by decide +kernel
theorem dX11_init_727 : decode cX11_init 727 = .ok (.newarray .int, 2) := by decide +kernel
theorem dX11_init_729 : decode cX11_init 729 = .ok (.putfield 136, 3) := by decide +kernel
theorem dX11_init_732 : decode cX11_init 732 = .ok (.aload_n 0, 1) := by decide +kernel
theorem dX11_init_733 : decode cX11_init 733 = .ok (.bipush 121, 2) := by decide +kernel
theorem dX11_init_735 : decode cX11_init 735 = .ok (.newarray .int, 2) := by decide +kernel
