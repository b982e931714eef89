theorem dX10_annul_1 : decode cX10_annul 1 = .ok (.getfield 19, 3) := by decide +kernel
theorem dX10_annul_4 : decode cX10_annul 4 = .ok (.iload_n 1, 1) := by decide +kernel
theorem dX10_annul_5 : decode cX10_annul 5 = .ok (.invokevirtual 155, 3) := by decide +kernel
theorem dX10_annul_8 : decode cX10_annul 8 = .ok (.ifCond .eq 14, 3) := by decide +kernel
theorem dX10_annul_11 : decode cX10_annul 11 = .ok (.aload_n 0, 1) := by decide +kernel
theorem dX10_annul_12 : decode cX10_annul 12 = .ok (.getfield 19, 3) := by decide +kernel
theorem dX10_annul_15 : decode cX10_annul 15 = .ok (.iload_n 1, 1) := by decide +kernel
theorem dX10_annul_16 : decode cX10_annul 16 = .ok (.invokevirtual 158, 3) := by decide +kernel
theorem dX10_annul_19 : decode cX10_annul 19 = .ok (.goto 4, 3) := by decide +kernel
theorem dX10_annul_22 : decode cX10_annul 22 = .ok (.iconst (-1), 1) := by decide +kernel
theorem dX10_annul_23 : decode cX10_annul 23 = .ok (.ireturn, 1) := by decide +kernel
theorem dX10_as_0 : decode cX10_as 0 = .ok (.iload_n 1, 1) := by decide +kernel
theorem dX10_as_1 : decode cX10_as 1 = .ok (.iconst (-1), 1) := by decide +kernel
theorem dX10_as_2 : decode cX10_as 2 = .ok (.aload_n 0, 1) := by decide +kernel
theorem dX10_as_3 : decode cX10_as 3 = .ok (.getfield 19, 3) := by decide +kernel
theorem dX10_as_6 : decode cX10_as 6 = .ok (.getfield 126, 3) := by decide +kernel
theorem dX10_as_9 : decode cX10_as 9 = .ok (.invokestatic 108, 3) := by decide +kernel
theorem dX10_as_12 : decode cX10_as 12 = .ok (.ifCond .ne 5, 3) := by decide +kernel
theorem dX10_as_15 : decode cX10_as 15 = .ok (.iconst 0, 1) := by decide +kernel
theorem dX10_as_16 : decode cX10_as 16 = .ok (.ireturn, 1) := by decide +kernel
theorem dX10_as_17 : decode cX10_as 17 = .ok (.aload_n 0, 1) := by decide +kernel
theorem dX10_as_18 : decode cX10_as 18 = .ok (.iload_n 1, 1) := by decide +kernel
theorem dX10_as_19 : decode cX10_as 19 = .ok (.putfield 88, 3) := by decide +kernel
theorem dX10_as_22 : decode cX10_as 22 = .ok (.iconst 1, 1) := by decide +kernel
theorem dX10_as_23 : decode cX10_as 23 = .ok (.ireturn, 1) := by decide +kernel
theorem dX10_cell_0 : decode cX10_cell 0 = .ok (.aload_n 0, 1) := by decide +kernel
theorem dX10_cell_1 : decode cX10_cell 1 = .ok (.iload_n 1, 1) := by decide +kernel
theorem dX10_cell_2 : decode cX10_cell 2 = .ok (.invokevirtual 143, 3) := by decide +kernel
theorem dX10_cell_5 : decode cX10_cell 5 = .ok (.ifCond .ne 5, 3) := by decide +kernel
theorem dX10_cell_8 : decode cX10_cell 8 = .ok (.iconst (-1), 1) := by decide +kernel
theorem dX10_cell_9 : decode cX10_cell 9 = .ok (.ireturn, 1) := by decide +kernel
theorem dX10_cell_10 : decode cX10_cell 10 = .ok (.aload_n 0, 1) := by decide +kernel
theorem dX10_cell_11 : decode cX10_cell 11 = .ok (.invokevirtual 162, 3) := by decide +kernel
theorem dX10_cell_14 : decode cX10_cell 14 = .ok (.astore_n 3, 1) := by decide +kernel
theorem dX10_cell_15 : decode cX10_cell 15 = .ok (.aload_n 3, 1) := by decide +kernel
theorem dX10_cell_16 : decode cX10_cell 16 = .ok (.iload_n 1, 1) := by decide +kernel
theorem dX10_cell_17 : decode cX10_cell 17 = .ok (.invokevirtual 166, 3) := by decide +kernel
theorem dX10_cell_20 : decode cX10_cell 20 = .ok (.istore 4, 2) := by decide +kernel
theorem dX10_cell_22 : decode cX10_cell 22 = .ok (.iload_n 2, 1) := by decide +kernel
theorem dX10_cell_23 : decode cX10_cell 23 = .ok (.tableswitch 109 0 5 #[37, 44, 60, 76, 95, 102], 37) := by decide +kernel
theorem dX10_cell_60 : decode cX10_cell 60 = .ok (.aload_n 3, 1) := by decide +kernel
theorem dX10_cell_61 : decode cX10_cell 61 = .ok (.getfield 169, 3) := by decide +kernel
theorem dX10_cell_64 : decode cX10_cell 64 = .ok (.iload_n 1, 1) := by decide +kernel
theorem dX10_cell_65 : decode cX10_cell 65 = .ok (.iaload, 1) := by decide +kernel
theorem dX10_cell_66 : decode cX10_cell 66 = .ok (.ireturn, 1) := by decide +kernel
theorem dX10_cell_67 : decode cX10_cell 67 = .ok (.iload 4, 2) := by decide +kernel
theorem dX10_cell_69 : decode cX10_cell 69 = .ok (.ifCond .eq 12, 3) := by decide +kernel
theorem dX10_cell_72 : decode cX10_cell 72 = .ok (.aload_n 3, 1) := by decide +kernel
theorem dX10_cell_73 : decode cX10_cell 73 = .ok (.getfield 173, 3) := by decide +kernel
theorem dX10_cell_76 : decode cX10_cell 76 = .ok (.iload_n 1, 1) := by decide +kernel
theorem dX10_cell_77 : decode cX10_cell 77 = .ok (.iaload, 1) := by decide +kernel
theorem dX10_cell_78 : decode cX10_cell 78 = .ok (.goto 4, 3) := by decide +kernel
theorem dX10_cell_81 : decode cX10_cell 81 = .ok (.iconst (-1), 1) := by decide +kernel
theorem dX10_cell_82 : decode cX10_cell 82 = .ok (.ireturn, 1) := by decide +kernel
theorem dX10_cell_83 : decode cX10_cell 83 = .ok (.iload 4, 2) := by decide +kernel
theorem dX10_cell_85 : decode cX10_cell 85 = .ok (.ifCond .eq 12, 3) := by decide +kernel
theorem dX10_cell_88 : decode cX10_cell 88 = .ok (.aload_n 3, 1) := by decide +kernel
theorem dX10_cell_89 : decode cX10_cell 89 = .ok (.getfield 176, 3) := by decide +kernel
theorem dX10_cell_92 : decode cX10_cell 92 = .ok (.iload_n 1, 1) := by decide +kernel
theorem dX10_cell_93 : decode cX10_cell 93 = .ok (.iaload, 1) := by decide +kernel
theorem dX10_cell_94 : decode cX10_cell 94 = .ok (.goto 4, 3) := by decide +kernel
theorem dX10_cell_97 : decode cX10_cell 97 = .ok (.iconst (-1), 1) := by decide +kernel
theorem dX10_cell_98 : decode cX10_cell 98 = .ok (.ireturn, 1) := by decide +kernel
theorem dX10_cell_99 : decode cX10_cell 99 = .ok (.iload 4, 2) := by decide +kernel
theorem dX10_cell_101 : decode cX10_cell 101 = .ok (.ifCond .eq 15, 3) := by decide +kernel
theorem dX10_cell_104 : decode cX10_cell 104 = .ok (.aload_n 3, 1) := by decide +kernel
theorem dX10_cell_105 : decode cX10_cell 105 = .ok (.aload_n 0, 1) := by decide +kernel
theorem dX10_cell_106 : decode cX10_cell 106 = .ok (.getfield 68, 3) := by decide +kernel
theorem dX10_cell_109 : decode cX10_cell 109 = .ok (.iload_n 1, 1) := by decide +kernel
theorem dX10_cell_110 : decode cX10_cell 110 = .ok (.invokevirtual 179, 3) := by decide +kernel
theorem dX10_cell_113 : decode cX10_cell 113 = .ok (.goto 4, 3) := by decide +kernel
theorem dX10_cell_116 : decode cX10_cell 116 = .ok (.iconst (-1), 1) := by decide +kernel
theorem dX10_cell_117 : decode cX10_cell 117 = .ok (.ireturn, 1) := by decide +kernel
theorem dX10_cell_118 : decode cX10_cell 118 = .ok (.aload_n 3, 1) := by decide +kernel
theorem dX10_cell_119 : decode cX10_cell 119 = .ok (.getfield 183, 3) := by decide +kernel
theorem dX10_cell_122 : decode cX10_cell 122 = .ok (.iload_n 1, 1) := by decide +kernel
theorem dX10_cell_123 : decode cX10_cell 123 = .ok (.iaload, 1) := by decide +kernel
theorem dX10_cell_124 : decode cX10_cell 124 = .ok (.ireturn, 1) := by decide +kernel
theorem dX10_cell_125 : decode cX10_cell 125 = .ok (.aload_n 3, 1) := by decide +kernel
theorem dX10_cell_126 : decode cX10_cell 126 = .ok (.getfield 186, 3) := by decide +kernel
theorem dX10_cell_129 : decode cX10_cell 129 = .ok (.iload_n 1, 1) := by decide +kernel
theorem dX10_cell_130 : decode cX10_cell 130 = .ok (.iaload, 1) := by decide +kernel
theorem dX10_cell_131 : decode cX10_cell 131 = .ok (.ireturn, 1) := by decide +kernel
theorem dX10_cell_132 : decode cX10_cell 132 = .ok (.iconst (-1), 1) := by decide +kernel
theorem dX10_cell_133 : decode cX10_cell 133 = .ok (.ireturn, 1) := by decide +kernel
theorem dX10_listed_0 : decode cX10_listed 0 = .ok (.aload_n 0, 1) := by decide +kernel
theorem dX10_listed_1 : decode cX10_listed 1 = .ok (.invokevirtual 162, 3) := by decide +kernel
theorem dX10_listed_4 : decode cX10_listed 4 = .ok (.getfield 189, 3) := by decide +kernel
theorem dX10_listed_7 : decode cX10_listed 7 = .ok (.ireturn, 1) := by decide +kernel
theorem dX10_list_0 : decode cX10_list 0 = .ok (.aload_n 0, 1) := by decide +kernel
theorem dX10_list_1 : decode cX10_list 1 = .ok (.invokevirtual 162, 3) := by decide +kernel
theorem dX10_list_4 : decode cX10_list 4 = .ok (.astore_n 2, 1) := by decide +kernel
theorem dX10_list_5 : decode cX10_list 5 = .ok (.iload_n 1, 1) := by decide +kernel
theorem dX10_list_6 : decode cX10_list 6 = .ok (.iconst 0, 1) := by decide +kernel
theorem dX10_list_7 : decode cX10_list 7 = .ok (.aload_n 2, 1) := by decide +kernel
theorem dX10_list_8 : decode cX10_list 8 = .ok (.getfield 189, 3) := by decide +kernel
theorem dX10_list_11 : decode cX10_list 11 = .ok (.iconst 1, 1) := by decide +kernel
theorem dX10_list_12 : decode cX10_list 12 = .ok (.isub, 1) := by decide +kernel
theorem dX10_list_13 : decode cX10_list 13 = .ok (.invokestatic 108, 3) := by decide +kernel
theorem dX10_list_16 : decode cX10_list 16 = .ok (.ifCond .eq 13, 3) := by decide +kernel
theorem dX10_list_19 : decode cX10_list 19 = .ok (.aload_n 2, 1) := by decide +kernel
theorem dX10_list_20 : decode cX10_list 20 = .ok (.getfield 192, 3) := by decide +kernel
theorem dX10_list_23 : decode cX10_list 23 = .ok (.iload_n 1, 1) := by decide +kernel
theorem dX10_list_24 : decode cX10_list 24 = .ok (.iaload, 1) := by decide +kernel
theorem dX10_list_25 : decode cX10_list 25 = .ok (.i2l, 1) := by decide +kernel
theorem dX10_list_26 : decode cX10_list 26 = .ok (.goto 6, 3) := by decide +kernel
theorem dX10_list_29 : decode cX10_list 29 = .ok (.ldc2_w 195, 3) := by decide +kernel
theorem dX10_list_32 : decode cX10_list 32 = .ok (.lreturn, 1) := by decide +kernel
theorem dX10_until_0 : decode cX10_until 0 = .ok (.aload_n 0, 1) := by decide +kernel
theorem dX10_until_1 : decode cX10_until 1 = .ok (.invokevirtual 162, 3) := by decide +kernel
theorem dX10_until_4 : decode cX10_until 4 = .ok (.astore_n 3, 1) := by decide +kernel
theorem dX10_until_5 : decode cX10_until 5 = .ok (.iconst 0, 1) := by decide +kernel
theorem dX10_until_6 : decode cX10_until 6 = .ok (.istore 4, 2) := by decide +kernel
theorem dX10_until_8 : decode cX10_until 8 = .ok (.iload 4, 2) := by decide +kernel
theorem dX10_until_10 : decode cX10_until 10 = .ok (.aload_n 3, 1) := by decide +kernel
theorem dX10_until_11 : decode cX10_until 11 = .ok (.getfield 189, 3) := by decide +kernel
theorem dX10_until_14 : decode cX10_until 14 = .ok (.if_icmp .ge 25, 3) := by decide +kernel
theorem dX10_until_17 : decode cX10_until 17 = .ok (.aload_n 3, 1) := by decide +kernel
theorem dX10_until_18 : decode cX10_until 18 = .ok (.getfield 192, 3) := by decide +kernel
theorem dX10_until_21 : decode cX10_until 21 = .ok (.iload 4, 2) := by decide +kernel
theorem dX10_until_23 : decode cX10_until 23 = .ok (.iaload, 1) := by decide +kernel
theorem dX10_until_24 : decode cX10_until 24 = .ok (.i2l, 1) := by decide +kernel
theorem dX10_until_25 : decode cX10_until 25 = .ok (.lload_n 1, 1) := by decide +kernel
theorem dX10_until_26 : decode cX10_until 26 = .ok (.lcmp, 1) := by decide +kernel
theorem dX10_until_27 : decode cX10_until 27 = .ok (.ifCond .ge 6, 3) := by decide +kernel
theorem dX10_until_30 : decode cX10_until 30 = .ok (.iload 4, 2) := by decide +kernel
theorem dX10_until_32 : decode cX10_until 32 = .ok (.ireturn, 1) := by decide +kernel
theorem dX10_until_33 : decode cX10_until 33 = .ok (.iinc 4 1, 3) := by decide +kernel
theorem dX10_until_36 : decode cX10_until 36 = .ok (.goto (-28), 3) := by decide +kernel
theorem dX10_until_39 : decode cX10_until 39 = .ok (.iconst (-1), 1) := by decide +kernel
theorem dX10_until_40 : decode cX10_until 40 = .ok (.ireturn, 1) := by decide +kernel
theorem dX10_chance_0 : decode cX10_chance 0 = .ok (.aload_n 0, 1) := by decide +kernel
theorem dX10_chance_1 : decode cX10_chance 1 = .ok (.iload_n 1, 1) := by decide +kernel
theorem dX10_chance_2 : decode cX10_chance 2 = .ok (.invokevirtual 143, 3) := by decide +kernel
theorem dX10_chance_5 : decode cX10_chance 5 = .ok (.ifCond .eq 11, 3) := by decide +kernel
theorem dX10_chance_8 : decode cX10_chance 8 = .ok (.iload_n 2, 1) := by decide +kernel
theorem dX10_chance_9 : decode cX10_chance 9 = .ok (.iload_n 3, 1) := by decide +kernel
theorem dX10_chance_10 : decode cX10_chance 10 = .ok (.invokestatic 151, 3) := by decide +kernel
theorem dX10_chance_13 : decode cX10_chance 13 = .ok (.ifCond .ne 5, 3) := by decide +kernel
theorem dX10_chance_16 : decode cX10_chance 16 = .ok (.iconst (-1), 1) := by decide +kernel
theorem dX10_chance_17 : decode cX10_chance 17 = .ok (.ireturn, 1) := by decide +kernel
theorem dX10_chance_18 : decode cX10_chance 18 = .ok (.aload_n 0, 1) := by decide +kernel
theorem dX10_chance_19 : decode cX10_chance 19 = .ok (.invokevirtual 162, 3) := by decide +kernel
theorem dX10_chance_22 : decode cX10_chance 22 = .ok (.astore 4, 2) := by decide +kernel
theorem dX10_chance_24 : decode cX10_chance 24 = .ok (.aload 4, 2) := by decide +kernel
theorem dX10_chance_26 : decode cX10_chance 26 = .ok (.iload_n 1, 1) := by decide +kernel
theorem dX10_chance_27 : decode cX10_chance 27 = .ok (.invokevirtual 166, 3) := by decide +kernel
theorem dX10_chance_30 : decode cX10_chance 30 = .ok (.ifCond .eq 18, 3) := by decide +kernel
theorem dX10_chance_33 : decode cX10_chance 33 = .ok (.aload 4, 2) := by decide +kernel
theorem dX10_chance_35 : decode cX10_chance 35 = .ok (.aload_n 0, 1) := by decide +kernel
theorem dX10_chance_36 : decode cX10_chance 36 = .ok (.getfield 68, 3) := by decide +kernel
theorem dX10_chance_39 : decode cX10_chance 39 = .ok (.iload_n 1, 1) := by decide +kernel
theorem dX10_chance_40 : decode cX10_chance 40 = .ok (.iload_n 2, 1) := by decide +kernel
theorem dX10_chance_41 : decode cX10_chance 41 = .ok (.iload_n 3, 1) := by decide +kernel
theorem dX10_chance_42 : decode cX10_chance 42 = .ok (.invokevirtual 197, 3) := by decide +kernel
theorem dX10_chance_45 : decode cX10_chance 45 = .ok (.goto 4, 3) := by decide +kernel
theorem dX10_chance_48 : decode cX10_chance 48 = .ok (.iconst (-1), 1) := by decide +kernel
theorem dX10_chance_49 : decode cX10_chance 49 = .ok (.ireturn, 1) := by decide +kernel
theorem dX10_table_0 : decode cX10_table 0 = .ok (.iload_n 1, 1) := by decide +kernel
theorem dX10_table_1 : decode cX10_table 1 = .ok (.iload_n 2, 1) := by decide +kernel
theorem dX10_table_2 : decode cX10_table 2 = .ok (.invokestatic 151, 3) := by decide +kernel
theorem dX10_table_5 : decode cX10_table 5 = .ok (.ifCond .ne 5, 3) := by decide +kernel
theorem dX10_table_8 : decode cX10_table 8 = .ok (.iconst (-1), 1) := by decide +kernel
theorem dX10_table_9 : decode cX10_table 9 = .ok (.ireturn, 1) := by decide +kernel
theorem dX10_table_10 : decode cX10_table 10 = .ok (.aload_n 0, 1) := by decide +kernel
theorem dX10_table_11 : decode cX10_table 11 = .ok (.invokevirtual 162, 3) := by decide +kernel
theorem dX10_table_14 : decode cX10_table 14 = .ok (.astore_n 3, 1) := by decide +kernel
theorem dX10_table_15 : decode cX10_table 15 = .ok (.aload_n 0, 1) := by decide +kernel
theorem dX10_table_16 : decode cX10_table 16 = .ok (.getfield 33, 3) := by decide +kernel
theorem dX10_table_19 : decode cX10_table 19 = .ok (.invokevirtual 201, 3) := by decide +kernel
theorem dX10_table_22 : decode cX10_table 22 = .ok (.iconst 0, 1) := by decide +kernel
theorem dX10_table_23 : decode cX10_table 23 = .ok (.istore 4, 2) := by decide +kernel
theorem dX10_table_25 : decode cX10_table 25 = .ok (.iload 4, 2) := by decide +kernel
theorem dX10_table_27 : decode cX10_table 27 = .ok (.aload_n 0, 1) := by decide +kernel
theorem dX10_table_28 : decode cX10_table 28 = .ok (.getfield 84, 3) := by decide +kernel
theorem dX10_table_31 : decode cX10_table 31 = .ok (.if_icmp .ge 37, 3) := by decide +kernel
theorem dX10_table_34 : decode cX10_table 34 = .ok (.aload_n 3, 1) := by decide +kernel
theorem dX10_table_35 : decode cX10_table 35 = .ok (.iload 4, 2) := by decide +kernel
theorem dX10_table_37 : decode cX10_table 37 = .ok (.invokevirtual 166, 3) := by decide +kernel
theorem dX10_table_40 : decode cX10_table 40 = .ok (.ifCond .eq 22, 3) := by decide +kernel
theorem dX10_table_43 : decode cX10_table 43 = .ok (.aload_n 0, 1) := by decide +kernel
theorem dX10_table_44 : decode cX10_table 44 = .ok (.getfield 33, 3) := by decide +kernel
theorem dX10_table_47 : decode cX10_table 47 = .ok (.aload_n 3, 1) := by decide +kernel
theorem dX10_table_48 : decode cX10_table 48 = .ok (.aload_n 0, 1) := by decide +kernel
theorem dX10_table_49 : decode cX10_table 49 = .ok (.getfield 68, 3) := by decide +kernel
theorem dX10_table_52 : decode cX10_table 52 = .ok (.iload 4, 2) := by decide +kernel
theorem dX10_table_54 : decode cX10_table 54 = .ok (.iload_n 1, 1) := by decide +kernel
theorem dX10_table_55 : decode cX10_table 55 = .ok (.iload_n 2, 1) := by decide +kernel
theorem dX10_table_56 : decode cX10_table 56 = .ok (.invokevirtual 197, 3) := by decide +kernel
theorem dX10_table_59 : decode cX10_table 59 = .ok (.invokevirtual 203, 3) := by decide +kernel
theorem dX10_table_62 : decode cX10_table 62 = .ok (.iinc 4 1, 3) := by decide +kernel
theorem dX10_table_65 : decode cX10_table 65 = .ok (.goto (-40), 3) := by decide +kernel
theorem dX10_table_68 : decode cX10_table 68 = .ok (.aload_n 0, 1) := by decide +kernel
theorem dX10_table_69 : decode cX10_table 69 = .ok (.getfield 33, 3) := by decide +kernel
theorem dX10_table_72 : decode cX10_table 72 = .ok (.getfield 206, 3) := by decide +kernel
theorem dX10_table_75 : decode cX10_table 75 = .ok (.ireturn, 1) := by decide +kernel
theorem dX10_odds_0 : decode cX10_odds 0 = .ok (.aload_n 0, 1) := by decide +kernel
theorem dX10_odds_1 : decode cX10_odds 1 = .ok (.getfield 33, 3) := by decide +kernel
theorem dX10_odds_4 : decode cX10_odds 4 = .ok (.getfield 129, 3) := by decide +kernel
theorem dX10_odds_7 : decode cX10_odds 7 = .ok (.ifCond .eq 29, 3) := by decide +kernel
theorem dX10_odds_10 : decode cX10_odds 10 = .ok (.iload_n 1, 1) := by decide +kernel
theorem dX10_odds_11 : decode cX10_odds 11 = .ok (.iconst 0, 1) := by decide +kernel
theorem dX10_odds_12 : decode cX10_odds 12 = .ok (.aload_n 0, 1) := by decide +kernel
theorem dX10_odds_13 : decode cX10_odds 13 = .ok (.getfield 33, 3) := by decide +kernel
theorem dX10_odds_16 : decode cX10_odds 16 = .ok (.getfield 206, 3) := by decide +kernel
theorem dX10_odds_19 : decode cX10_odds 19 = .ok (.invokestatic 108, 3) := by decide +kernel
theorem dX10_odds_22 : decode cX10_odds 22 = .ok (.ifCond .eq 14, 3) := by decide +kernel
theorem dX10_odds_25 : decode cX10_odds 25 = .ok (.aload_n 0, 1) := by decide +kernel
theorem dX10_odds_26 : decode cX10_odds 26 = .ok (.getfield 33, 3) := by decide +kernel
theorem dX10_odds_29 : decode cX10_odds 29 = .ok (.iload_n 1, 1) := by decide +kernel
theorem dX10_odds_30 : decode cX10_odds 30 = .ok (.invokevirtual 209, 3) := by decide +kernel
theorem dX10_odds_33 : decode cX10_odds 33 = .ok (.goto 6, 3) := by decide +kernel
theorem dX10_odds_36 : decode cX10_odds 36 = .ok (.ldc2_w 195, 3) := by decide +kernel
theorem dX10_odds_39 : decode cX10_odds 39 = .ok (.lreturn, 1) := by decide +kernel
theorem dX10_sure_0 : decode cX10_sure 0 = .ok (.aload_n 0, 1) := by decide +kernel
theorem dX10_sure_1 : decode cX10_sure 1 = .ok (.getfield 33, 3) := by decide +kernel
theorem dX10_sure_4 : decode cX10_sure 4 = .ok (.getfield 129, 3) := by decide +kernel
theorem dX10_sure_7 : decode cX10_sure 7 = .ok (.ifCond .eq 25, 3) := by decide +kernel
theorem dX10_sure_10 : decode cX10_sure 10 = .ok (.iload_n 1, 1) := by decide +kernel
theorem dX10_sure_11 : decode cX10_sure 11 = .ok (.iconst 1, 1) := by decide +kernel
theorem dX10_sure_12 : decode cX10_sure 12 = .ok (.sipush 1000, 3) := by decide +kernel
theorem dX10_sure_15 : decode cX10_sure 15 = .ok (.invokestatic 108, 3) := by decide +kernel
theorem dX10_sure_18 : decode cX10_sure 18 = .ok (.ifCond .eq 14, 3) := by decide +kernel
theorem dX10_sure_21 : decode cX10_sure 21 = .ok (.aload_n 0, 1) := by decide +kernel
theorem dX10_sure_22 : decode cX10_sure 22 = .ok (.getfield 33, 3) := by decide +kernel
theorem dX10_sure_25 : decode cX10_sure 25 = .ok (.iload_n 1, 1) := by decide +kernel
theorem dX10_sure_26 : decode cX10_sure 26 = .ok (.invokevirtual 213, 3) := by decide +kernel
theorem dX10_sure_29 : decode cX10_sure 29 = .ok (.goto 4, 3) := by decide +kernel
theorem dX10_sure_32 : decode cX10_sure 32 = .ok (.iconst (-1), 1) := by decide +kernel
theorem dX10_sure_33 : decode cX10_sure 33 = .ok (.ireturn, 1) := by decide +kernel
theorem dX10_draw_0 : decode cX10_draw 0 = .ok (.iload_n 1, 1) := by decide +kernel
theorem dX10_draw_1 : decode cX10_draw 1 = .ok (.iload_n 2, 1) := by decide +kernel
theorem dX10_draw_2 : decode cX10_draw 2 = .ok (.invokestatic 151, 3) := by decide +kernel
theorem dX10_draw_5 : decode cX10_draw 5 = .ok (.ifCond .eq 7, 3) := by decide +kernel
theorem dX10_draw_8 : decode cX10_draw 8 = .ok (.iload_n 3, 1) := by decide +kernel
theorem dX10_draw_9 : decode cX10_draw 9 = .ok (.ifCond .ge 5, 3) := by decide +kernel
theorem dX10_draw_12 : decode cX10_draw 12 = .ok (.iconst (-1), 1) := by decide +kernel
theorem dX10_draw_13 : decode cX10_draw 13 = .ok (.ireturn, 1) := by decide +kernel
theorem dX10_draw_14 : decode cX10_draw 14 = .ok (.aload_n 0, 1) := by decide +kernel
theorem dX10_draw_15 : decode cX10_draw 15 = .ok (.getfield 40, 3) := by decide +kernel
theorem dX10_draw_18 : decode cX10_draw 18 = .ok (.aload_n 0, 1) := by decide +kernel
theorem dX10_draw_19 : decode cX10_draw 19 = .ok (.invokevirtual 162, 3) := by decide +kernel
theorem dX10_draw_22 : decode cX10_draw 22 = .ok (.aload_n 0, 1) := by decide +kernel
theorem dX10_draw_23 : decode cX10_draw 23 = .ok (.getfield 68, 3) := by decide +kernel
theorem dX10_draw_26 : decode cX10_draw 26 = .ok (.iload_n 1, 1) := by decide +kernel
theorem dX10_draw_27 : decode cX10_draw 27 = .ok (.iload_n 2, 1) := by decide +kernel
theorem dX10_draw_28 : decode cX10_draw 28 = .ok (.iload_n 3, 1) := by decide +kernel
theorem dX10_draw_29 : decode cX10_draw 29 = .ok (.i2l, 1) := by decide +kernel
theorem dX10_draw_30 : decode cX10_draw 30 = .ok (.invokevirtual 216, 3) := by decide +kernel
theorem dX10_draw_33 : decode cX10_draw 33 = .ok (.pop2, 1) := by decide +kernel
theorem dX10_draw_34 : decode cX10_draw 34 = .ok (.aload_n 0, 1) := by decide +kernel
theorem dX10_draw_35 : decode cX10_draw 35 = .ok (.getfield 40, 3) := by decide +kernel
theorem dX10_draw_38 : decode cX10_draw 38 = .ok (.getfield 220, 3) := by decide +kernel
theorem dX10_draw_41 : decode cX10_draw 41 = .ok (.ireturn, 1) := by decide +kernel
theorem dX10_caught_0 : decode cX10_caught 0 = .ok (.aload_n 0, 1) := by decide +kernel
theorem dX10_caught_1 : decode cX10_caught 1 = .ok (.getfield 40, 3) := by decide +kernel
theorem dX10_caught_4 : decode cX10_caught 4 = .ok (.getfield 133, 3) := by decide +kernel
theorem dX10_caught_7 : decode cX10_caught 7 = .ok (.ifCond .eq 23, 3) := by decide +kernel
theorem dX10_caught_10 : decode cX10_caught 10 = .ok (.aload_n 0, 1) := by decide +kernel
theorem dX10_caught_11 : decode cX10_caught 11 = .ok (.iload_n 1, 1) := by decide +kernel
theorem dX10_caught_12 : decode cX10_caught 12 = .ok (.invokevirtual 143, 3) := by decide +kernel
theorem dX10_caught_15 : decode cX10_caught 15 = .ok (.ifCond .eq 15, 3) := by decide +kernel
theorem dX10_caught_18 : decode cX10_caught 18 = .ok (.aload_n 0, 1) := by decide +kernel
theorem dX10_caught_19 : decode cX10_caught 19 = .ok (.getfield 40, 3) := by decide +kernel
theorem dX10_caught_22 : decode cX10_caught 22 = .ok (.getfield 221, 3) := by decide +kernel
theorem dX10_caught_25 : decode cX10_caught 25 = .ok (.iload_n 1, 1) := by decide +kernel
theorem dX10_caught_26 : decode cX10_caught 26 = .ok (.iaload, 1) := by decide +kernel
theorem dX10_caught_27 : decode cX10_caught 27 = .ok (.goto 4, 3) := by decide +kernel
theorem dX10_caught_30 : decode cX10_caught 30 = .ok (.iconst (-1), 1) := by decide +kernel
theorem dX10_caught_31 : decode cX10_caught 31 = .ok (.ireturn, 1) := by decide +kernel
theorem dX10_pull_0 : decode cX10_pull 0 = .ok (.aload_n 0, 1) := by decide +kernel
theorem dX10_pull_1 : decode cX10_pull 1 = .ok (.getfield 40, 3) := by decide +kernel
theorem dX10_pull_4 : decode cX10_pull 4 = .ok (.getfield 133, 3) := by decide +kernel
theorem dX10_pull_7 : decode cX10_pull 7 = .ok (.ifCond .ne 5, 3) := by decide +kernel
theorem dX10_pull_10 : decode cX10_pull 10 = .ok (.iconst (-1), 1) := by decide +kernel
theorem dX10_pull_11 : decode cX10_pull 11 = .ok (.ireturn, 1) := by decide +kernel
theorem dX10_pull_12 : decode cX10_pull 12 = .ok (.aload_n 0, 1) := by decide +kernel
theorem dX10_pull_13 : decode cX10_pull 13 = .ok (.getfield 47, 3) := by decide +kernel
theorem dX10_pull_16 : decode cX10_pull 16 = .ok (.aload_n 0, 1) := by decide +kernel
theorem dX10_pull_17 : decode cX10_pull 17 = .ok (.getfield 40, 3) := by decide +kernel
theorem dX10_pull_20 : decode cX10_pull 20 = .ok (.invokevirtual 224, 3) := by decide +kernel
theorem dX10_pull_23 : decode cX10_pull 23 = .ok (.aload_n 0, 1) := by decide +kernel
theorem dX10_pull_24 : decode cX10_pull 24 = .ok (.getfield 47, 3) := by decide +kernel
theorem dX10_pull_27 : decode cX10_pull 27 = .ok (.getfield 228, 3) := by decide +kernel
theorem dX10_pull_30 : decode cX10_pull 30 = .ok (.ireturn, 1) := by decide +kernel
theorem dX10_step_0 : decode cX10_step 0 = .ok (.aload_n 0, 1) := by decide +kernel
theorem dX10_step_1 : decode cX10_step 1 = .ok (.iload_n 1, 1) := by decide +kernel
theorem dX10_step_2 : decode cX10_step 2 = .ok (.invokevirtual 231, 3) := by decide +kernel
theorem dX10_step_5 : decode cX10_step 5 = .ok (.ifCond .eq 15, 3) := by decide +kernel
theorem dX10_step_8 : decode cX10_step 8 = .ok (.aload_n 0, 1) := by decide +kernel
theorem dX10_step_9 : decode cX10_step 9 = .ok (.getfield 47, 3) := by decide +kernel
theorem dX10_step_12 : decode cX10_step 12 = .ok (.getfield 234, 3) := by decide +kernel
theorem dX10_step_15 : decode cX10_step 15 = .ok (.iload_n 1, 1) := by decide +kernel
theorem dX10_step_16 : decode cX10_step 16 = .ok (.iaload, 1) := by decide +kernel
theorem dX10_step_17 : decode cX10_step 17 = .ok (.goto 4, 3) := by decide +kernel
theorem dX10_step_20 : decode cX10_step 20 = .ok (.iconst (-1), 1) := by decide +kernel
theorem dX10_step_21 : decode cX10_step 21 = .ok (.ireturn, 1) := by decide +kernel
theorem dX10_load_0 : decode cX10_load 0 = .ok (.aload_n 0, 1) := by decide +kernel
theorem dX10_load_1 : decode cX10_load 1 = .ok (.iload_n 1, 1) := by decide +kernel
theorem dX10_load_2 : decode cX10_load 2 = .ok (.invokevirtual 231, 3) := by decide +kernel
theorem dX10_load_5 : decode cX10_load 5 = .ok (.ifCond .ne 7, 3) := by decide +kernel
theorem dX10_load_8 : decode cX10_load 8 = .ok (.ldc2_w 195, 3) := by decide +kernel
theorem dX10_load_11 : decode cX10_load 11 = .ok (.lreturn, 1) := by decide +kernel
theorem dX10_load_12 : decode cX10_load 12 = .ok (.iload_n 2, 1) := by decide +kernel
theorem dX10_load_13 : decode cX10_load 13 = .ok (.ifCond .eq 14, 3) := by decide +kernel
theorem dX10_load_16 : decode cX10_load 16 = .ok (.aload_n 0, 1) := by decide +kernel
theorem dX10_load_17 : decode cX10_load 17 = .ok (.getfield 47, 3) := by decide +kernel
theorem dX10_load_20 : decode cX10_load 20 = .ok (.iload_n 1, 1) := by decide +kernel
theorem dX10_load_21 : decode cX10_load 21 = .ok (.invokevirtual 237, 3) := by decide +kernel
theorem dX10_load_24 : decode cX10_load 24 = .ok (.goto 13, 3) := by decide +kernel
theorem dX10_load_27 : decode cX10_load 27 = .ok (.aload_n 0, 1) := by decide +kernel
theorem dX10_load_28 : decode cX10_load 28 = .ok (.getfield 47, 3) := by decide +kernel
theorem dX10_load_31 : decode cX10_load 31 = .ok (.getfield 240, 3) := by decide +kernel
theorem dX10_load_34 : decode cX10_load 34 = .ok (.iload_n 1, 1) := by decide +kernel
theorem dX10_load_35 : decode cX10_load 35 = .ok (.iaload, 1) := by decide +kernel
theorem dX10_load_36 : decode cX10_load 36 = .ok (.i2l, 1) := by decide +kernel
theorem dX10_load_37 : decode cX10_load 37 = .ok (.lreturn, 1) := by decide +kernel
theorem dX10_greatest_0 : decode cX10_greatest 0 = .ok (.aload_n 0, 1) := by decide +kernel
theorem dX10_greatest_1 : decode cX10_greatest 1 = .ok (.getfield 47, 3) := by decide +kernel
theorem dX10_greatest_4 : decode cX10_greatest 4 = .ok (.getfield 134, 3) := by decide +kernel
theorem dX10_greatest_7 : decode cX10_greatest 7 = .ok (.ifCond .eq 13, 3) := by decide +kernel
theorem dX10_greatest_10 : decode cX10_greatest 10 = .ok (.aload_n 0, 1) := by decide +kernel
theorem dX10_greatest_11 : decode cX10_greatest 11 = .ok (.getfield 47, 3) := by decide +kernel
theorem dX10_greatest_14 : decode cX10_greatest 14 = .ok (.getfield 243, 3) := by decide +kernel
theorem dX10_greatest_17 : decode cX10_greatest 17 = .ok (.goto 6, 3) := by decide +kernel
theorem dX10_greatest_20 : decode cX10_greatest 20 = .ok (.ldc2_w 195, 3) := by decide +kernel
theorem dX10_greatest_23 : decode cX10_greatest 23 = .ok (.lreturn, 1) := by decide +kernel
theorem dX10_hung_0 : decode cX10_hung 0 = .ok (.aload_n 0, 1) := by decide +kernel
theorem dX10_hung_1 : decode cX10_hung 1 = .ok (.getfield 47, 3) := by decide +kernel
theorem dX10_hung_4 : decode cX10_hung 4 = .ok (.getfield 134, 3) := by decide +kernel
theorem dX10_hung_7 : decode cX10_hung 7 = .ok (.ifCond .eq 24, 3) := by decide +kernel
theorem dX10_hung_10 : decode cX10_hung 10 = .ok (.iload_n 1, 1) := by decide +kernel
theorem dX10_hung_11 : decode cX10_hung 11 = .ok (.iconst 0, 1) := by decide +kernel
theorem dX10_hung_12 : decode cX10_hung 12 = .ok (.ldc 247, 2) := by decide +kernel
theorem dX10_hung_14 : decode cX10_hung 14 = .ok (.invokestatic 108, 3) := by decide +kernel
theorem dX10_hung_17 : decode cX10_hung 17 = .ok (.ifCond .eq 14, 3) := by decide +kernel
theorem dX10_hung_20 : decode cX10_hung 20 = .ok (.aload_n 0, 1) := by decide +kernel
theorem dX10_hung_21 : decode cX10_hung 21 = .ok (.getfield 47, 3) := by decide +kernel
theorem dX10_hung_24 : decode cX10_hung 24 = .ok (.iload_n 1, 1) := by decide +kernel
theorem dX10_hung_25 : decode cX10_hung 25 = .ok (.invokevirtual 248, 3) := by decide +kernel
theorem dX10_hung_28 : decode cX10_hung 28 = .ok (.goto 4, 3) := by decide +kernel
theorem dX10_hung_31 : decode cX10_hung 31 = .ok (.iconst (-1), 1) := by decide +kernel
theorem dX10_hung_32 : decode cX10_hung 32 = .ok (.ireturn, 1) := by decide +kernel
theorem dX10_peel_0 : decode cX10_peel 0 = .ok (.aload_n 0, 1) := by decide +kernel
theorem dX10_peel_1 : decode cX10_peel 1 = .ok (.getfield 40, 3) := by decide +kernel
theorem dX10_peel_4 : decode cX10_peel 4 = .ok (.getfield 133, 3) := by decide +kernel
theorem dX10_peel_7 : decode cX10_peel 7 = .ok (.ifCond .eq 10, 3) := by decide +kernel
theorem dX10_peel_10 : decode cX10_peel 10 = .ok (.iload_n 2, 1) := by decide +kernel
theorem dX10_peel_11 : decode cX10_peel 11 = .ok (.invokestatic 251, 3) := by decide +kernel
theorem dX10_peel_14 : decode cX10_peel 14 = .ok (.ifCond .ne 5, 3) := by decide +kernel
theorem dX10_peel_17 : decode cX10_peel 17 = .ok (.iconst (-1), 1) := by decide +kernel
theorem dX10_peel_18 : decode cX10_peel 18 = .ok (.ireturn, 1) := by decide +kernel
theorem dX10_peel_19 : decode cX10_peel 19 = .ok (.aload_n 0, 1) := by decide +kernel
theorem dX10_peel_20 : decode cX10_peel 20 = .ok (.getfield 54, 3) := by decide +kernel
theorem dX10_peel_23 : decode cX10_peel 23 = .ok (.aload_n 0, 1) := by decide +kernel
theorem dX10_peel_24 : decode cX10_peel 24 = .ok (.getfield 40, 3) := by decide +kernel
theorem dX10_peel_27 : decode cX10_peel 27 = .ok (.iload_n 1, 1) := by decide +kernel
theorem dX10_peel_28 : decode cX10_peel 28 = .ok (.iload_n 2, 1) := by decide +kernel
theorem dX10_peel_29 : decode cX10_peel 29 = .ok (.invokevirtual 254, 3) := by decide +kernel
theorem dX10_peel_32 : decode cX10_peel 32 = .ok (.aload_n 0, 1) := by decide +kernel
theorem dX10_peel_33 : decode cX10_peel 33 = .ok (.getfield 54, 3) := by decide +kernel
theorem dX10_peel_36 : decode cX10_peel 36 = .ok (.getfield 257, 3) := by decide +kernel
theorem dX10_peel_39 : decode cX10_peel 39 = .ok (.ireturn, 1) := by decide +kernel
theorem dX10_front_0 : decode cX10_front 0 = .ok (.aload_n 0, 1) := by decide +kernel
theorem dX10_front_1 : decode cX10_front 1 = .ok (.getfield 54, 3) := by decide +kernel
theorem dX10_front_4 : decode cX10_front 4 = .ok (.getfield 135, 3) := by decide +kernel
theorem dX10_front_7 : decode cX10_front 7 = .ok (.ifCond .eq 20, 3) := by decide +kernel
theorem dX10_front_10 : decode cX10_front 10 = .ok (.iload_n 1, 1) := by decide +kernel
theorem dX10_front_11 : decode cX10_front 11 = .ok (.iconst 0, 1) := by decide +kernel
theorem dX10_front_12 : decode cX10_front 12 = .ok (.aload_n 0, 1) := by decide +kernel
theorem dX10_front_13 : decode cX10_front 13 = .ok (.getfield 54, 3) := by decide +kernel
theorem dX10_front_16 : decode cX10_front 16 = .ok (.getfield 257, 3) := by decide +kernel
theorem dX10_front_19 : decode cX10_front 19 = .ok (.iconst 1, 1) := by decide +kernel
theorem dX10_front_20 : decode cX10_front 20 = .ok (.isub, 1) := by decide +kernel
theorem dX10_front_21 : decode cX10_front 21 = .ok (.invokestatic 108, 3) := by decide +kernel
theorem dX10_front_24 : decode cX10_front 24 = .ok (.ifCond .ne 5, 3) := by decide +kernel
theorem dX10_front_27 : decode cX10_front 27 = .ok (.iconst (-1), 1) := by decide +kernel
theorem dX10_front_28 : decode cX10_front 28 = .ok (.ireturn, 1) := by decide +kernel
theorem dX10_front_29 : decode cX10_front 29 = .ok (.iload_n 2, 1) := by decide +kernel
theorem dX10_front_30 : decode cX10_front 30 = .ok (.tableswitch 56 0 2 #[26, 36, 46], 26) := by decide +kernel
theorem dX10_front_56 : decode cX10_front 56 = .ok (.aload_n 0, 1) := by decide +kernel
theorem dX10_front_57 : decode cX10_front 57 = .ok (.getfield 54, 3) := by decide +kernel
theorem dX10_front_60 : decode cX10_front 60 = .ok (.getfield 260, 3) := by decide +kernel
theorem dX10_front_63 : decode cX10_front 63 = .ok (.iload_n 1, 1) := by decide +kernel
theorem dX10_front_64 : decode cX10_front 64 = .ok (.iaload, 1) := by decide +kernel
theorem dX10_front_65 : decode cX10_front 65 = .ok (.ireturn, 1) := by decide +kernel
theorem dX10_front_66 : decode cX10_front 66 = .ok (.aload_n 0, 1) := by decide +kernel
theorem dX10_front_67 : decode cX10_front 67 = .ok (.getfield 54, 3) := by decide +kernel
theorem dX10_front_70 : decode cX10_front 70 = .ok (.getfield 263, 3) := by decide +kernel
theorem dX10_front_73 : decode cX10_front 73 = .ok (.iload_n 1, 1) := by decide +kernel
theorem dX10_front_74 : decode cX10_front 74 = .ok (.iaload, 1) := by decide +kernel
theorem dX10_front_75 : decode cX10_front 75 = .ok (.ireturn, 1) := by decide +kernel
theorem dX10_front_76 : decode cX10_front 76 = .ok (.aload_n 0, 1) := by decide +kernel
theorem dX10_front_77 : decode cX10_front 77 = .ok (.getfield 54, 3) := by decide +kernel
theorem dX10_front_80 : decode cX10_front 80 = .ok (.getfield 266, 3) := by decide +kernel
theorem dX10_front_83 : decode cX10_front 83 = .ok (.iload_n 1, 1) := by decide +kernel
theorem dX10_front_84 : decode cX10_front 84 = .ok (.iaload, 1) := by decide +kernel
theorem dX10_front_85 : decode cX10_front 85 = .ok (.ireturn, 1) := by decide +kernel
theorem dX10_front_86 : decode cX10_front 86 = .ok (.iconst (-1), 1) := by decide +kernel
theorem dX10_front_87 : decode cX10_front 87 = .ok (.ireturn, 1) := by decide +kernel
theorem dX10_work_0 : decode cX10_work 0 = .ok (.aload_n 0, 1) := by decide +kernel
theorem dX10_work_1 : decode cX10_work 1 = .ok (.getfield 54, 3) := by decide +kernel
theorem dX10_work_4 : decode cX10_work 4 = .ok (.getfield 135, 3) := by decide +kernel
theorem dX10_work_7 : decode cX10_work 7 = .ok (.ifCond .eq 13, 3) := by decide +kernel
theorem dX10_work_10 : decode cX10_work 10 = .ok (.aload_n 0, 1) := by decide +kernel
theorem dX10_work_11 : decode cX10_work 11 = .ok (.getfield 54, 3) := by decide +kernel
theorem dX10_work_14 : decode cX10_work 14 = .ok (.getfield 269, 3) := by decide +kernel
theorem dX10_work_17 : decode cX10_work 17 = .ok (.goto 6, 3) := by decide +kernel
theorem dX10_work_20 : decode cX10_work 20 = .ok (.ldc2_w 195, 3) := by decide +kernel
theorem dX10_work_23 : decode cX10_work 23 = .ok (.lreturn, 1) := by decide +kernel
theorem dX10_patch_0 : decode cX10_patch 0 = .ok (.iload_n 1, 1) := by decide +kernel
theorem dX10_patch_1 : decode cX10_patch 1 = .ok (.iconst 0, 1) := by decide +kernel
theorem dX10_patch_2 : decode cX10_patch 2 = .ok (.bipush 99, 2) := by decide +kernel
theorem dX10_patch_4 : decode cX10_patch 4 = .ok (.invokestatic 108, 3) := by decide +kernel
theorem dX10_patch_7 : decode cX10_patch 7 = .ok (.ifCond .eq 25, 3) := by decide +kernel
theorem dX10_patch_10 : decode cX10_patch 10 = .ok (.iload_n 2, 1) := by decide +kernel
theorem dX10_patch_11 : decode cX10_patch 11 = .ok (.iconst 1, 1) := by decide +kernel
theorem dX10_patch_12 : decode cX10_patch 12 = .ok (.sipush 999, 3) := by decide +kernel
theorem dX10_patch_15 : decode cX10_patch 15 = .ok (.invokestatic 108, 3) := by decide +kernel
theorem dX10_patch_18 : decode cX10_patch 18 = .ok (.ifCond .eq 14, 3) := by decide +kernel
theorem dX10_patch_21 : decode cX10_patch 21 = .ok (.iload_n 3, 1) := by decide +kernel
theorem dX10_patch_22 : decode cX10_patch 22 = .ok (.iconst 1, 1) := by decide +kernel
theorem dX10_patch_23 : decode cX10_patch 23 = .ok (.sipush 999, 3) := by decide +kernel
theorem dX10_patch_26 : decode cX10_patch 26 = .ok (.invokestatic 108, 3) := by decide +kernel
theorem dX10_patch_29 : decode cX10_patch 29 = .ok (.ifCond .ne 5, 3) := by decide +kernel
theorem dX10_patch_32 : decode cX10_patch 32 = .ok (.iconst (-1), 1) := by decide +kernel
theorem dX10_patch_33 : decode cX10_patch 33 = .ok (.ireturn, 1) := by decide +kernel
theorem dX10_patch_34 : decode cX10_patch 34 = .ok (.aload_n 0, 1) := by decide +kernel
theorem dX10_patch_35 : decode cX10_patch 35 = .ok (.getfield 61, 3) := by decide +kernel
theorem dX10_patch_38 : decode cX10_patch 38 = .ok (.iload_n 1, 1) := by decide +kernel
theorem dX10_patch_39 : decode cX10_patch 39 = .ok (.iload_n 2, 1) := by decide +kernel
theorem dX10_patch_40 : decode cX10_patch 40 = .ok (.iload_n 3, 1) := by decide +kernel
theorem dX10_patch_41 : decode cX10_patch 41 = .ok (.invokevirtual 272, 3) := by decide +kernel
theorem dX10_patch_44 : decode cX10_patch 44 = .ok (.ireturn, 1) := by decide +kernel
theorem dX10_force_0 : decode cX10_force 0 = .ok (.iload_n 1, 1) := by decide +kernel
theorem dX10_force_1 : decode cX10_force 1 = .ok (.iconst 0, 1) := by decide +kernel
theorem dX10_force_2 : decode cX10_force 2 = .ok (.bipush 99, 2) := by decide +kernel
theorem dX10_force_4 : decode cX10_force 4 = .ok (.invokestatic 108, 3) := by decide +kernel
theorem dX10_force_7 : decode cX10_force 7 = .ok (.ifCond .eq 14, 3) := by decide +kernel
theorem dX10_force_10 : decode cX10_force 10 = .ok (.iload_n 2, 1) := by decide +kernel
theorem dX10_force_11 : decode cX10_force 11 = .ok (.iconst 1, 1) := by decide +kernel
theorem dX10_force_12 : decode cX10_force 12 = .ok (.sipush 9999, 3) := by decide +kernel
theorem dX10_force_15 : decode cX10_force 15 = .ok (.invokestatic 108, 3) := by decide +kernel
theorem dX10_force_18 : decode cX10_force 18 = .ok (.ifCond .ne 5, 3) := by decide +kernel
theorem dX10_force_21 : decode cX10_force 21 = .ok (.iconst (-1), 1) := by decide +kernel
theorem dX10_force_22 : decode cX10_force 22 = .ok (.ireturn, 1) := by decide +kernel
theorem dX10_force_23 : decode cX10_force 23 = .ok (.aload_n 0, 1) := by decide +kernel
theorem dX10_force_24 : decode cX10_force 24 = .ok (.getfield 61, 3) := by decide +kernel
theorem dX10_force_27 : decode cX10_force 27 = .ok (.iload_n 1, 1) := by decide +kernel
theorem dX10_force_28 : decode cX10_force 28 = .ok (.iload_n 2, 1) := by decide +kernel
theorem dX10_force_29 : decode cX10_force 29 = .ok (.invokevirtual 276, 3) := by decide +kernel
theorem dX10_force_32 : decode cX10_force 32 = .ok (.ireturn, 1) := by decide +kernel
theorem dX10_clear_0 : decode cX10_clear 0 = .ok (.aload_n 0, 1) := by decide +kernel
theorem dX10_clear_1 : decode cX10_clear 1 = .ok (.getfield 61, 3) := by decide +kernel
theorem dX10_clear_4 : decode cX10_clear 4 = .ok (.getfield 279, 3) := by decide +kernel
theorem dX10_clear_7 : decode cX10_clear 7 = .ok (.istore_n 1, 1) := by decide +kernel
theorem dX10_clear_8 : decode cX10_clear 8 = .ok (.aload_n 0, 1) := by decide +kernel
theorem dX10_clear_9 : decode cX10_clear 9 = .ok (.getfield 61, 3) := by decide +kernel
theorem dX10_clear_12 : decode cX10_clear 12 = .ok (.iconst 0, 1) := by decide +kernel
theorem dX10_clear_13 : decode cX10_clear 13 = .ok (.putfield 279, 3) := by decide +kernel
theorem dX10_clear_16 : decode cX10_clear 16 = .ok (.aload_n 0, 1) := by decide +kernel
theorem dX10_clear_17 : decode cX10_clear 17 = .ok (.getfield 61, 3) := by decide +kernel
theorem dX10_clear_20 : decode cX10_clear 20 = .ok (.iconst 0, 1) := by decide +kernel
theorem dX10_clear_21 : decode cX10_clear 21 = .ok (.putfield 280, 3) := by decide +kernel
theorem dX10_clear_24 : decode cX10_clear 24 = .ok (.iload_n 1, 1) := by decide +kernel
theorem dX10_clear_25 : decode cX10_clear 25 = .ok (.ireturn, 1) := by decide +kernel
theorem dX10_choose_0 : decode cX10_choose 0 = .ok (.iload_n 1, 1) := by decide +kernel
theorem dX10_choose_1 : decode cX10_choose 1 = .ok (.iconst 0, 1) := by decide +kernel
theorem dX10_choose_2 : decode cX10_choose 2 = .ok (.bipush 99, 2) := by decide +kernel
theorem dX10_choose_4 : decode cX10_choose 4 = .ok (.invokestatic 108, 3) := by decide +kernel
theorem dX10_choose_7 : decode cX10_choose 7 = .ok (.ifCond .eq 14, 3) := by decide +kernel
theorem dX10_choose_10 : decode cX10_choose 10 = .ok (.iload_n 2, 1) := by decide +kernel
theorem dX10_choose_11 : decode cX10_choose 11 = .ok (.iconst 0, 1) := by decide +kernel
theorem dX10_choose_12 : decode cX10_choose 12 = .ok (.sipush 20000, 3) := by decide +kernel
theorem dX10_choose_15 : decode cX10_choose 15 = .ok (.invokestatic 108, 3) := by decide +kernel
theorem dX10_choose_18 : decode cX10_choose 18 = .ok (.ifCond .ne 5, 3) := by decide +kernel
theorem dX10_choose_21 : decode cX10_choose 21 = .ok (.iconst (-1), 1) := by decide +kernel
theorem dX10_choose_22 : decode cX10_choose 22 = .ok (.ireturn, 1) := by decide +kernel
theorem dX10_choose_23 : decode cX10_choose 23 = .ok (.aload_n 0, 1) := by decide +kernel
theorem dX10_choose_24 : decode cX10_choose 24 = .ok (.getfield 61, 3) := by decide +kernel
theorem dX10_choose_27 : decode cX10_choose 27 = .ok (.iload_n 1, 1) := by decide +kernel
theorem dX10_choose_28 : decode cX10_choose 28 = .ok (.iload_n 2, 1) := by decide +kernel
theorem dX10_choose_29 : decode cX10_choose 29 = .ok (.invokevirtual 283, 3) := by decide +kernel
theorem dX10_choose_32 : decode cX10_choose 32 = .ok (.ireturn, 1) := by decide +kernel
theorem dX10_chosen_0 : decode cX10_chosen 0 = .ok (.iload_n 1, 1) := by decide +kernel
theorem dX10_chosen_1 : decode cX10_chosen 1 = .ok (.iconst 0, 1) := by decide +kernel
theorem dX10_chosen_2 : decode cX10_chosen 2 = .ok (.aload_n 0, 1) := by decide +kernel
theorem dX10_chosen_3 : decode cX10_chosen 3 = .ok (.getfield 61, 3) := by decide +kernel
theorem dX10_chosen_6 : decode cX10_chosen 6 = .ok (.getfield 286, 3) := by decide +kernel
theorem dX10_chosen_9 : decode cX10_chosen 9 = .ok (.iconst 1, 1) := by decide +kernel
theorem dX10_chosen_10 : decode cX10_chosen 10 = .ok (.isub, 1) := by decide +kernel
theorem dX10_chosen_11 : decode cX10_chosen 11 = .ok (.invokestatic 108, 3) := by decide +kernel
theorem dX10_chosen_14 : decode cX10_chosen 14 = .ok (.ifCond .ne 5, 3) := by decide +kernel
theorem dX10_chosen_17 : decode cX10_chosen 17 = .ok (.iconst (-1), 1) := by decide +kernel
theorem dX10_chosen_18 : decode cX10_chosen 18 = .ok (.ireturn, 1) := by decide +kernel
theorem dX10_chosen_19 : decode cX10_chosen 19 = .ok (.aload_n 0, 1) := by decide +kernel
theorem dX10_chosen_20 : decode cX10_chosen 20 = .ok (.getfield 61, 3) := by decide +kernel
theorem dX10_chosen_23 : decode cX10_chosen 23 = .ok (.getfield 289, 3) := by decide +kernel
theorem dX10_chosen_26 : decode cX10_chosen 26 = .ok (.iload_n 1, 1) := by decide +kernel
theorem dX10_chosen_27 : decode cX10_chosen 27 = .ok (.ishr, 1) := by decide +kernel
theorem dX10_chosen_28 : decode cX10_chosen 28 = .ok (.iconst 1, 1) := by decide +kernel
theorem dX10_chosen_29 : decode cX10_chosen 29 = .ok (.iand, 1) := by decide +kernel
theorem dX10_chosen_30 : decode cX10_chosen 30 = .ok (.ireturn, 1) := by decide +kernel
theorem dX10_found_0 : decode cX10_found 0 = .ok (.iload_n 1, 1) := by decide +kernel
theorem dX10_found_1 : decode cX10_found 1 = .ok (.iload_n 2, 1) := by decide +kernel
theorem dX10_found_2 : decode cX10_found 2 = .ok (.invokestatic 292, 3) := by decide +kernel
theorem dX10_found_5 : decode cX10_found 5 = .ok (.ifCond .eq 22, 3) := by decide +kernel
theorem dX10_found_8 : decode cX10_found 8 = .ok (.iload_n 3, 1) := by decide +kernel
theorem dX10_found_9 : decode cX10_found 9 = .ok (.iconst 0, 1) := by decide +kernel
theorem dX10_found_10 : decode cX10_found 10 = .ok (.iload_n 1, 1) := by decide +kernel
theorem dX10_found_11 : decode cX10_found 11 = .ok (.invokestatic 108, 3) := by decide +kernel
theorem dX10_found_14 : decode cX10_found 14 = .ok (.ifCond .eq 13, 3) := by decide +kernel
theorem dX10_found_17 : decode cX10_found 17 = .ok (.iload 4, 2) := by decide +kernel
theorem dX10_found_19 : decode cX10_found 19 = .ok (.iconst 0, 1) := by decide +kernel
theorem dX10_found_20 : decode cX10_found 20 = .ok (.iload_n 3, 1) := by decide +kernel
theorem dX10_found_21 : decode cX10_found 21 = .ok (.invokestatic 108, 3) := by decide +kernel
theorem dX10_found_24 : decode cX10_found 24 = .ok (.ifCond .ne 7, 3) := by decide +kernel
theorem dX10_found_27 : decode cX10_found 27 = .ok (.ldc2_w 195, 3) := by decide +kernel
theorem dX10_found_30 : decode cX10_found 30 = .ok (.lreturn, 1) := by decide +kernel
theorem dX10_found_31 : decode cX10_found 31 = .ok (.iload 5, 2) := by decide +kernel
theorem dX10_found_33 : decode cX10_found 33 = .ok (.ifCond .ne 9, 3) := by decide +kernel
theorem dX10_found_36 : decode cX10_found 36 = .ok (.iload_n 1, 1) := by decide +kernel
theorem dX10_found_37 : decode cX10_found 37 = .ok (.iload_n 3, 1) := by decide +kernel
theorem dX10_found_38 : decode cX10_found 38 = .ok (.invokestatic 295, 3) := by decide +kernel
theorem dX10_found_41 : decode cX10_found 41 = .ok (.lreturn, 1) := by decide +kernel
theorem dX10_found_42 : decode cX10_found 42 = .ok (.lconst 0, 1) := by decide +kernel
theorem dX10_found_43 : decode cX10_found 43 = .ok (.lstore 6, 2) := by decide +kernel
theorem dX10_found_45 : decode cX10_found 45 = .ok (.iload 4, 2) := by decide +kernel
theorem dX10_found_47 : decode cX10_found 47 = .ok (.istore 8, 2) := by decide +kernel
theorem dX10_found_49 : decode cX10_found 49 = .ok (.iload 8, 2) := by decide +kernel
theorem dX10_found_51 : decode cX10_found 51 = .ok (.iload_n 3, 1) := by decide +kernel
theorem dX10_found_52 : decode cX10_found 52 = .ok (.if_icmp .gt 31, 3) := by decide +kernel
theorem dX10_found_55 : decode cX10_found 55 = .ok (.lload 6, 2) := by decide +kernel
theorem dX10_found_57 : decode cX10_found 57 = .ok (.iload_n 2, 1) := by decide +kernel
theorem dX10_found_58 : decode cX10_found 58 = .ok (.iload 8, 2) := by decide +kernel
theorem dX10_found_60 : decode cX10_found 60 = .ok (.invokestatic 295, 3) := by decide +kernel
theorem dX10_found_63 : decode cX10_found 63 = .ok (.iload_n 1, 1) := by decide +kernel
theorem dX10_found_64 : decode cX10_found 64 = .ok (.iload_n 2, 1) := by decide +kernel
theorem dX10_found_65 : decode cX10_found 65 = .ok (.isub, 1) := by decide +kernel
theorem dX10_found_66 : decode cX10_found 66 = .ok (.iload_n 3, 1) := by decide +kernel
theorem dX10_found_67 : decode cX10_found 67 = .ok (.iload 8, 2) := by decide +kernel
theorem dX10_found_69 : decode cX10_found 69 = .ok (.isub, 1) := by decide +kernel
theorem dX10_found_70 : decode cX10_found 70 = .ok (.invokestatic 295, 3) := by decide +kernel
theorem dX10_found_73 : decode cX10_found 73 = .ok (.lmul, 1) := by decide +kernel
theorem dX10_found_74 : decode cX10_found 74 = .ok (.ladd, 1) := by decide +kernel
theorem dX10_found_75 : decode cX10_found 75 = .ok (.lstore 6, 2) := by decide +kernel
theorem dX10_found_77 : decode cX10_found 77 = .ok (.iinc 8 1, 3) := by decide +kernel
theorem dX10_found_80 : decode cX10_found 80 = .ok (.goto (-31), 3) := by decide +kernel
theorem dX10_found_83 : decode cX10_found 83 = .ok (.lload 6, 2) := by decide +kernel
theorem dX10_found_85 : decode cX10_found 85 = .ok (.lreturn, 1) := by decide +kernel
theorem dX10_tests_0 : decode cX10_tests 0 = .ok (.iload_n 1, 1) := by decide +kernel
theorem dX10_tests_1 : decode cX10_tests 1 = .ok (.iload_n 2, 1) := by decide +kernel
theorem dX10_tests_2 : decode cX10_tests 2 = .ok (.invokestatic 292, 3) := by decide +kernel
theorem dX10_tests_5 : decode cX10_tests 5 = .ok (.ifCond .eq 14, 3) := by decide +kernel
theorem dX10_tests_8 : decode cX10_tests 8 = .ok (.iload_n 3, 1) := by decide +kernel
theorem dX10_tests_9 : decode cX10_tests 9 = .ok (.iconst 1, 1) := by decide +kernel
theorem dX10_tests_10 : decode cX10_tests 10 = .ok (.sipush 1000, 3) := by decide +kernel
theorem dX10_tests_13 : decode cX10_tests 13 = .ok (.invokestatic 108, 3) := by decide +kernel
theorem dX10_tests_16 : decode cX10_tests 16 = .ok (.ifCond .ne 5, 3) := by decide +kernel
theorem dX10_tests_19 : decode cX10_tests 19 = .ok (.iconst (-1), 1) := by decide +kernel
theorem dX10_tests_20 : decode cX10_tests 20 = .ok (.ireturn, 1) := by decide +kernel
theorem dX10_tests_21 : decode cX10_tests 21 = .ok (.iconst 0, 1) := by decide +kernel
theorem dX10_tests_22 : decode cX10_tests 22 = .ok (.istore 4, 2) := by decide +kernel
theorem dX10_tests_24 : decode cX10_tests 24 = .ok (.iload 4, 2) := by decide +kernel
theorem dX10_tests_26 : decode cX10_tests 26 = .ok (.iload_n 1, 1) := by decide +kernel
theorem dX10_tests_27 : decode cX10_tests 27 = .ok (.if_icmp .gt 48, 3) := by decide +kernel
theorem dX10_tests_30 : decode cX10_tests 30 = .ok (.iload_n 1, 1) := by decide +kernel
theorem dX10_tests_31 : decode cX10_tests 31 = .ok (.iload 4, 2) := by decide +kernel
theorem dX10_tests_33 : decode cX10_tests 33 = .ok (.invokestatic 295, 3) := by decide +kernel
theorem dX10_tests_36 : decode cX10_tests 36 = .ok (.lstore 5, 2) := by decide +kernel
theorem dX10_tests_38 : decode cX10_tests 38 = .ok (.lload 5, 2) := by decide +kernel
theorem dX10_tests_40 : decode cX10_tests 40 = .ok (.iload_n 1, 1) := by decide +kernel
theorem dX10_tests_41 : decode cX10_tests 41 = .ok (.iload_n 2, 1) := by decide +kernel
theorem dX10_tests_42 : decode cX10_tests 42 = .ok (.isub, 1) := by decide +kernel
theorem dX10_tests_43 : decode cX10_tests 43 = .ok (.iload 4, 2) := by decide +kernel
theorem dX10_tests_45 : decode cX10_tests 45 = .ok (.invokestatic 295, 3) := by decide +kernel
theorem dX10_tests_48 : decode cX10_tests 48 = .ok (.lsub, 1) := by decide +kernel
theorem dX10_tests_49 : decode cX10_tests 49 = .ok (.lstore 7, 2) := by decide +kernel
theorem dX10_tests_51 : decode cX10_tests 51 = .ok (.lload 7, 2) := by decide +kernel
theorem dX10_tests_53 : decode cX10_tests 53 = .ok (.ldc2_w 299, 3) := by decide +kernel
theorem dX10_tests_56 : decode cX10_tests 56 = .ok (.lmul, 1) := by decide +kernel
theorem dX10_tests_57 : decode cX10_tests 57 = .ok (.lload 5, 2) := by decide +kernel
theorem dX10_tests_59 : decode cX10_tests 59 = .ok (.iload_n 3, 1) := by decide +kernel
theorem dX10_tests_60 : decode cX10_tests 60 = .ok (.i2l, 1) := by decide +kernel
theorem dX10_tests_61 : decode cX10_tests 61 = .ok (.lmul, 1) := by decide +kernel
theorem dX10_tests_62 : decode cX10_tests 62 = .ok (.lcmp, 1) := by decide +kernel
theorem dX10_tests_63 : decode cX10_tests 63 = .ok (.ifCond .lt 6, 3) := by decide +kernel
theorem dX10_tests_66 : decode cX10_tests 66 = .ok (.iload 4, 2) := by decide +kernel
theorem dX10_tests_68 : decode cX10_tests 68 = .ok (.ireturn, 1) := by decide +kernel
theorem dX10_tests_69 : decode cX10_tests 69 = .ok (.iinc 4 1, 3) := by decide +kernel
theorem dX10_tests_72 : decode cX10_tests 72 = .ok (.goto (-48), 3) := by decide +kernel
theorem dX10_tests_75 : decode cX10_tests 75 = .ok (.iconst (-1), 1) := by decide +kernel
theorem dX10_tests_76 : decode cX10_tests 76 = .ok (.ireturn, 1) := by decide +kernel
theorem dX10_all_0 : decode cX10_all 0 = .ok (.iload_n 1, 1) := by decide +kernel
theorem dX10_all_1 : decode cX10_all 1 = .ok (.tableswitch 93 0 6 #[43, 48, 56, 64, 69, 77, 85], 43) := by decide +kernel
theorem dX10_all_44 : decode cX10_all 44 = .ok (.aload_n 0, 1) := by decide +kernel
theorem dX10_all_45 : decode cX10_all 45 = .ok (.getfield 84, 3) := by decide +kernel
theorem dX10_all_48 : decode cX10_all 48 = .ok (.ireturn, 1) := by decide +kernel
theorem dX10_all_49 : decode cX10_all 49 = .ok (.aload_n 0, 1) := by decide +kernel
theorem dX10_all_50 : decode cX10_all 50 = .ok (.getfield 68, 3) := by decide +kernel
theorem dX10_all_53 : decode cX10_all 53 = .ok (.getfield 136, 3) := by decide +kernel
theorem dX10_all_56 : decode cX10_all 56 = .ok (.ireturn, 1) := by decide +kernel
theorem dX10_all_57 : decode cX10_all 57 = .ok (.aload_n 0, 1) := by decide +kernel
theorem dX10_all_58 : decode cX10_all 58 = .ok (.getfield 19, 3) := by decide +kernel
theorem dX10_all_61 : decode cX10_all 61 = .ok (.getfield 126, 3) := by decide +kernel
theorem dX10_all_64 : decode cX10_all 64 = .ok (.ireturn, 1) := by decide +kernel
theorem dX10_all_65 : decode cX10_all 65 = .ok (.aload_n 0, 1) := by decide +kernel
theorem dX10_all_66 : decode cX10_all 66 = .ok (.invokevirtual 301, 3) := by decide +kernel
theorem dX10_all_69 : decode cX10_all 69 = .ok (.ireturn, 1) := by decide +kernel
theorem dX10_all_70 : decode cX10_all 70 = .ok (.aload_n 0, 1) := by decide +kernel
theorem dX10_all_71 : decode cX10_all 71 = .ok (.invokevirtual 162, 3) := by decide +kernel
theorem dX10_all_74 : decode cX10_all 74 = .ok (.invokevirtual 305, 3) := by decide +kernel
theorem dX10_all_77 : decode cX10_all 77 = .ok (.ireturn, 1) := by decide +kernel
theorem dX10_all_78 : decode cX10_all 78 = .ok (.aload_n 0, 1) := by decide +kernel
theorem dX10_all_79 : decode cX10_all 79 = .ok (.getfield 61, 3) := by decide +kernel
theorem dX10_all_82 : decode cX10_all 82 = .ok (.getfield 279, 3) := by decide +kernel
theorem dX10_all_85 : decode cX10_all 85 = .ok (.ireturn, 1) := by decide +kernel
theorem dX10_all_86 : decode cX10_all 86 = .ok (.aload_n 0, 1) := by decide +kernel
theorem dX10_all_87 : decode cX10_all 87 = .ok (.getfield 61, 3) := by decide +kernel
theorem dX10_all_90 : decode cX10_all 90 = .ok (.getfield 280, 3) := by decide +kernel
theorem dX10_all_93 : decode cX10_all 93 = .ok (.ireturn, 1) := by decide +kernel
theorem dX10_all_94 : decode cX10_all 94 = .ok (.iconst (-1), 1) := by decide +kernel
theorem dX10_all_95 : decode cX10_all 95 = .ok (.ireturn, 1) := by decide +kernel
theorem dX10_toldAct_0 : decode cX10_toldAct 0 = .ok (.aload_n 0, 1) := by decide +kernel
theorem dX10_toldAct_1 : decode cX10_toldAct 1 = .ok (.getfield 88, 3) := by decide +kernel
theorem dX10_toldAct_4 : decode cX10_toldAct 4 = .ok (.iconst (-1), 1) := by decide +kernel
theorem dX10_toldAct_5 : decode cX10_toldAct 5 = .ok (.if_icmp .ne 13, 3) := by decide +kernel
theorem dX10_toldAct_8 : decode cX10_toldAct 8 = .ok (.aload_n 0, 1) := by decide +kernel
theorem dX10_toldAct_9 : decode cX10_toldAct 9 = .ok (.getfield 19, 3) := by decide +kernel
theorem dX10_toldAct_12 : decode cX10_toldAct 12 = .ok (.getfield 126, 3) := by decide +kernel
theorem dX10_toldAct_15 : decode cX10_toldAct 15 = .ok (.goto 7, 3) := by decide +kernel
theorem dX10_toldAct_18 : decode cX10_toldAct 18 = .ok (.aload_n 0, 1) := by decide +kernel
theorem dX10_toldAct_19 : decode cX10_toldAct 19 = .ok (.getfield 88, 3) := by decide +kernel
theorem dX10_toldAct_22 : decode cX10_toldAct 22 = .ok (.ireturn, 1) := by decide +kernel
theorem dX10_broughtUp_0 : decode cX10_broughtUp 0 = .ok (.aload_n 0, 1) := by decide +kernel
theorem dX10_broughtUp_1 : decode cX10_broughtUp 1 = .ok (.invokevirtual 301, 3) := by decide +kernel
theorem dX10_broughtUp_4 : decode cX10_broughtUp 4 = .ok (.istore_n 1, 1) := by decide +kernel
theorem dX10_broughtUp_5 : decode cX10_broughtUp 5 = .ok (.aload_n 0, 1) := by decide +kernel
theorem dX10_broughtUp_6 : decode cX10_broughtUp 6 = .ok (.getfield 19, 3) := by decide +kernel
theorem dX10_broughtUp_9 : decode cX10_broughtUp 9 = .ok (.aload_n 0, 1) := by decide +kernel
theorem dX10_broughtUp_10 : decode cX10_broughtUp 10 = .ok (.getfield 26, 3) := by decide +kernel
theorem dX10_broughtUp_13 : decode cX10_broughtUp 13 = .ok (.getfield 308, 3) := by decide +kernel
theorem dX10_broughtUp_16 : decode cX10_broughtUp 16 = .ok (.iload_n 1, 1) := by decide +kernel
theorem dX10_broughtUp_17 : decode cX10_broughtUp 17 = .ok (.invokevirtual 311, 3) := by decide +kernel
theorem dX10_broughtUp_20 : decode cX10_broughtUp 20 = .ok (.ifCond .ne 10, 3) := by decide +kernel
theorem dX10_broughtUp_23 : decode cX10_broughtUp 23 = .ok (.aload_n 0, 1) := by decide +kernel
theorem dX10_broughtUp_24 : decode cX10_broughtUp 24 = .ok (.getfield 26, 3) := by decide +kernel
theorem dX10_broughtUp_27 : decode cX10_broughtUp 27 = .ok (.invokevirtual 314, 3) := by decide +kernel
theorem dX10_broughtUp_30 : decode cX10_broughtUp 30 = .ok (.aload_n 0, 1) := by decide +kernel
theorem dX10_broughtUp_31 : decode cX10_broughtUp 31 = .ok (.getfield 26, 3) := by decide +kernel
theorem dX10_broughtUp_34 : decode cX10_broughtUp 34 = .ok (.getfield 308, 3) := by decide +kernel
theorem dX10_broughtUp_37 : decode cX10_broughtUp 37 = .ok (.iconst 1, 1) := by decide +kernel
theorem dX10_broughtUp_38 : decode cX10_broughtUp 38 = .ok (.iadd, 1) := by decide +kernel
theorem dX10_broughtUp_39 : decode cX10_broughtUp 39 = .ok (.istore_n 2, 1) := by decide +kernel
theorem dX10_broughtUp_40 : decode cX10_broughtUp 40 = .ok (.iload_n 2, 1) := by decide +kernel
theorem dX10_broughtUp_41 : decode cX10_broughtUp 41 = .ok (.iload_n 1, 1) := by decide +kernel
theorem dX10_broughtUp_42 : decode cX10_broughtUp 42 = .ok (.if_icmp .gt 108, 3) := by decide +kernel
theorem dX10_broughtUp_45 : decode cX10_broughtUp 45 = .ok (.iload_n 2, 1) := by decide +kernel
theorem dX10_broughtUp_46 : decode cX10_broughtUp 46 = .ok (.aload_n 0, 1) := by decide +kernel
theorem dX10_broughtUp_47 : decode cX10_broughtUp 47 = .ok (.getfield 19, 3) := by decide +kernel
theorem dX10_broughtUp_50 : decode cX10_broughtUp 50 = .ok (.getfield 126, 3) := by decide +kernel
theorem dX10_broughtUp_53 : decode cX10_broughtUp 53 = .ok (.if_icmp .gt 97, 3) := by decide +kernel
theorem dX10_broughtUp_56 : decode cX10_broughtUp 56 = .ok (.aload_n 0, 1) := by decide +kernel
theorem dX10_broughtUp_57 : decode cX10_broughtUp 57 = .ok (.getfield 19, 3) := by decide +kernel
theorem dX10_broughtUp_60 : decode cX10_broughtUp 60 = .ok (.iload_n 2, 1) := by decide +kernel
theorem dX10_broughtUp_61 : decode cX10_broughtUp 61 = .ok (.iload_n 1, 1) := by decide +kernel
theorem dX10_broughtUp_62 : decode cX10_broughtUp 62 = .ok (.invokevirtual 317, 3) := by decide +kernel
theorem dX10_broughtUp_65 : decode cX10_broughtUp 65 = .ok (.ifCond .eq 79, 3) := by decide +kernel
theorem dX10_broughtUp_68 : decode cX10_broughtUp 68 = .ok (.aload_n 0, 1) := by decide +kernel
theorem dX10_broughtUp_69 : decode cX10_broughtUp 69 = .ok (.getfield 26, 3) := by decide +kernel
theorem dX10_broughtUp_72 : decode cX10_broughtUp 72 = .ok (.aload_n 0, 1) := by decide +kernel
theorem dX10_broughtUp_73 : decode cX10_broughtUp 73 = .ok (.getfield 19, 3) := by decide +kernel
theorem dX10_broughtUp_76 : decode cX10_broughtUp 76 = .ok (.iload_n 2, 1) := by decide +kernel
theorem dX10_broughtUp_77 : decode cX10_broughtUp 77 = .ok (.invokevirtual 320, 3) := by decide +kernel
theorem dX10_broughtUp_80 : decode cX10_broughtUp 80 = .ok (.aload_n 0, 1) := by decide +kernel
theorem dX10_broughtUp_81 : decode cX10_broughtUp 81 = .ok (.getfield 19, 3) := by decide +kernel
theorem dX10_broughtUp_84 : decode cX10_broughtUp 84 = .ok (.getfield 323, 3) := by decide +kernel
theorem dX10_broughtUp_87 : decode cX10_broughtUp 87 = .ok (.iload_n 2, 1) := by decide +kernel
theorem dX10_broughtUp_88 : decode cX10_broughtUp 88 = .ok (.iaload, 1) := by decide +kernel
theorem dX10_broughtUp_89 : decode cX10_broughtUp 89 = .ok (.i2l, 1) := by decide +kernel
theorem dX10_broughtUp_90 : decode cX10_broughtUp 90 = .ok (.lstore_n 3, 1) := by decide +kernel
theorem dX10_broughtUp_91 : decode cX10_broughtUp 91 = .ok (.iconst 0, 1) := by decide +kernel
theorem dX10_broughtUp_92 : decode cX10_broughtUp 92 = .ok (.istore 5, 2) := by decide +kernel
theorem dX10_broughtUp_94 : decode cX10_broughtUp 94 = .ok (.iload 5, 2) := by decide +kernel
theorem dX10_broughtUp_96 : decode cX10_broughtUp 96 = .ok (.aload_n 0, 1) := by decide +kernel
theorem dX10_broughtUp_97 : decode cX10_broughtUp 97 = .ok (.getfield 19, 3) := by decide +kernel
theorem dX10_broughtUp_100 : decode cX10_broughtUp 100 = .ok (.iload_n 2, 1) := by decide +kernel
theorem dX10_broughtUp_101 : decode cX10_broughtUp 101 = .ok (.invokevirtual 326, 3) := by decide +kernel
theorem dX10_broughtUp_104 : decode cX10_broughtUp 104 = .ok (.if_icmp .ge 40, 3) := by decide +kernel
theorem dX10_broughtUp_107 : decode cX10_broughtUp 107 = .ok (.aload_n 0, 1) := by decide +kernel
theorem dX10_broughtUp_108 : decode cX10_broughtUp 108 = .ok (.getfield 26, 3) := by decide +kernel
theorem dX10_broughtUp_111 : decode cX10_broughtUp 111 = .ok (.aload_n 0, 1) := by decide +kernel
theorem dX10_broughtUp_112 : decode cX10_broughtUp 112 = .ok (.getfield 68, 3) := by decide +kernel
theorem dX10_broughtUp_115 : decode cX10_broughtUp 115 = .ok (.aload_n 0, 1) := by decide +kernel
theorem dX10_broughtUp_116 : decode cX10_broughtUp 116 = .ok (.getfield 19, 3) := by decide +kernel
theorem dX10_broughtUp_119 : decode cX10_broughtUp 119 = .ok (.getfield 329, 3) := by decide +kernel
theorem dX10_broughtUp_122 : decode cX10_broughtUp 122 = .ok (.iload_n 2, 1) := by decide +kernel
theorem dX10_broughtUp_123 : decode cX10_broughtUp 123 = .ok (.iaload, 1) := by decide +kernel
theorem dX10_broughtUp_124 : decode cX10_broughtUp 124 = .ok (.aload_n 0, 1) := by decide +kernel
theorem dX10_broughtUp_125 : decode cX10_broughtUp 125 = .ok (.getfield 19, 3) := by decide +kernel
theorem dX10_broughtUp_128 : decode cX10_broughtUp 128 = .ok (.getfield 332, 3) := by decide +kernel
theorem dX10_broughtUp_131 : decode cX10_broughtUp 131 = .ok (.iload_n 2, 1) := by decide +kernel
theorem dX10_broughtUp_132 : decode cX10_broughtUp 132 = .ok (.iaload, 1) := by decide +kernel
theorem dX10_broughtUp_133 : decode cX10_broughtUp 133 = .ok (.lload_n 3, 1) := by decide +kernel
theorem dX10_broughtUp_134 : decode cX10_broughtUp 134 = .ok (.invokevirtual 335, 3) := by decide +kernel
theorem dX10_broughtUp_137 : decode cX10_broughtUp 137 = .ok (.lstore_n 3, 1) := by decide +kernel
theorem dX10_broughtUp_138 : decode cX10_broughtUp 138 = .ok (.iinc 5 1, 3) := by decide +kernel
theorem dX10_broughtUp_141 : decode cX10_broughtUp 141 = .ok (.goto (-47), 3) := by decide +kernel
theorem dX10_broughtUp_144 : decode cX10_broughtUp 144 = .ok (.iinc 2 1, 3) := by decide +kernel
theorem dX10_broughtUp_147 : decode cX10_broughtUp 147 = .ok (.goto (-107), 3) := by decide +kernel
theorem dX10_broughtUp_150 : decode cX10_broughtUp 150 = .ok (.aload_n 0, 1) := by decide +kernel
theorem dX10_broughtUp_151 : decode cX10_broughtUp 151 = .ok (.getfield 26, 3) := by decide +kernel
theorem dX10_broughtUp_154 : decode cX10_broughtUp 154 = .ok (.iload_n 1, 1) := by decide +kernel
theorem dX10_broughtUp_155 : decode cX10_broughtUp 155 = .ok (.putfield 308, 3) := by decide +kernel
theorem dX10_broughtUp_158 : decode cX10_broughtUp 158 = .ok (.aload_n 0, 1) := by decide +kernel
theorem dX10_broughtUp_159 : decode cX10_broughtUp 159 = .ok (.getfield 26, 3) := by decide +kernel
theorem dX10_broughtUp_162 : decode cX10_broughtUp 162 = .ok (.areturn, 1) := by decide +kernel
theorem dX10_isCell_0 : decode cX10_isCell 0 = .ok (.iload_n 1, 1) := by decide +kernel
theorem dX10_isCell_1 : decode cX10_isCell 1 = .ok (.iconst 0, 1) := by decide +kernel
theorem dX10_isCell_2 : decode cX10_isCell 2 = .ok (.aload_n 0, 1) := by decide +kernel
theorem dX10_isCell_3 : decode cX10_isCell 3 = .ok (.getfield 84, 3) := by decide +kernel
theorem dX10_isCell_6 : decode cX10_isCell 6 = .ok (.iconst 1, 1) := by decide +kernel
theorem dX10_isCell_7 : decode cX10_isCell 7 = .ok (.isub, 1) := by decide +kernel
theorem dX10_isCell_8 : decode cX10_isCell 8 = .ok (.invokestatic 108, 3) := by decide +kernel
theorem dX10_isCell_11 : decode cX10_isCell 11 = .ok (.ireturn, 1) := by decide +kernel
theorem dX10_isStep_0 : decode cX10_isStep 0 = .ok (.aload_n 0, 1) := by decide +kernel
theorem dX10_isStep_1 : decode cX10_isStep 1 = .ok (.getfield 47, 3) := by decide +kernel
theorem dX10_isStep_4 : decode cX10_isStep 4 = .ok (.getfield 134, 3) := by decide +kernel
theorem dX10_isStep_7 : decode cX10_isStep 7 = .ok (.ifCond .eq 24, 3) := by decide +kernel
theorem dX10_isStep_10 : decode cX10_isStep 10 = .ok (.iload_n 1, 1) := by decide +kernel
theorem dX10_isStep_11 : decode cX10_isStep 11 = .ok (.iconst 0, 1) := by decide +kernel
theorem dX10_isStep_12 : decode cX10_isStep 12 = .ok (.aload_n 0, 1) := by decide +kernel
theorem dX10_isStep_13 : decode cX10_isStep 13 = .ok (.getfield 47, 3) := by decide +kernel
theorem dX10_isStep_16 : decode cX10_isStep 16 = .ok (.getfield 228, 3) := by decide +kernel
theorem dX10_isStep_19 : decode cX10_isStep 19 = .ok (.iconst 1, 1) := by decide +kernel
theorem dX10_isStep_20 : decode cX10_isStep 20 = .ok (.isub, 1) := by decide +kernel
theorem dX10_isStep_21 : decode cX10_isStep 21 = .ok (.invokestatic 108, 3) := by decide +kernel
theorem dX10_isStep_24 : decode cX10_isStep 24 = .ok (.ifCond .eq 7, 3) := by decide +kernel
theorem dX10_isStep_27 : decode cX10_isStep 27 = .ok (.iconst 1, 1) := by decide +kernel
theorem dX10_isStep_28 : decode cX10_isStep 28 = .ok (.goto 4, 3) := by decide +kernel
theorem dX10_isStep_31 : decode cX10_isStep 31 = .ok (.iconst 0, 1) := by decide +kernel
theorem dX10_isStep_32 : decode cX10_isStep 32 = .ok (.ireturn, 1) := by decide +kernel
theorem dX10_canPress_0 : decode cX10_canPress 0 = .ok (.iload_n 0, 1) := by decide +kernel
theorem dX10_canPress_1 : decode cX10_canPress 1 = .ok (.iconst 0, 1) := by decide +kernel
theorem dX10_canPress_2 : decode cX10_canPress 2 = .ok (.bipush 99, 2) := by decide +kernel
theorem dX10_canPress_4 : decode cX10_canPress 4 = .ok (.invokestatic 108, 3) := by decide +kernel
theorem dX10_canPress_7 : decode cX10_canPress 7 = .ok (.ifCond .eq 17, 3) := by decide +kernel
theorem dX10_canPress_10 : decode cX10_canPress 10 = .ok (.iload_n 1, 1) := by decide +kernel
theorem dX10_canPress_11 : decode cX10_canPress 11 = .ok (.iconst 0, 1) := by decide +kernel
theorem dX10_canPress_12 : decode cX10_canPress 12 = .ok (.bipush 99, 2) := by decide +kernel
theorem dX10_canPress_14 : decode cX10_canPress 14 = .ok (.invokestatic 108, 3) := by decide +kernel
theorem dX10_canPress_17 : decode cX10_canPress 17 = .ok (.ifCond .eq 7, 3) := by decide +kernel
theorem dX10_canPress_20 : decode cX10_canPress 20 = .ok (.iconst 1, 1) := by decide +kernel
theorem dX10_canPress_21 : decode cX10_canPress 21 = .ok (.goto 4, 3) := by decide +kernel
theorem dX10_canPress_24 : decode cX10_canPress 24 = .ok (.iconst 0, 1) := by decide +kernel
theorem dX10_canPress_25 : decode cX10_canPress 25 = .ok (.ireturn, 1) := by decide +kernel
theorem dX10_isBatch_0 : decode cX10_isBatch 0 = .ok (.iload_n 0, 1) := by decide +kernel
theorem dX10_isBatch_1 : decode cX10_isBatch 1 = .ok (.iconst 1, 1) := by decide +kernel
theorem dX10_isBatch_2 : decode cX10_isBatch 2 = .ok (.bipush 50, 2) := by decide +kernel
theorem dX10_isBatch_4 : decode cX10_isBatch 4 = .ok (.invokestatic 108, 3) := by decide +kernel
theorem dX10_isBatch_7 : decode cX10_isBatch 7 = .ok (.ifCond .eq 16, 3) := by decide +kernel
theorem dX10_isBatch_10 : decode cX10_isBatch 10 = .ok (.iload_n 1, 1) := by decide +kernel
theorem dX10_isBatch_11 : decode cX10_isBatch 11 = .ok (.iconst 0, 1) := by decide +kernel
theorem dX10_isBatch_12 : decode cX10_isBatch 12 = .ok (.iload_n 0, 1) := by decide +kernel
theorem dX10_isBatch_13 : decode cX10_isBatch 13 = .ok (.invokestatic 108, 3) := by decide +kernel
theorem dX10_isBatch_16 : decode cX10_isBatch 16 = .ok (.ifCond .eq 7, 3) := by decide +kernel
theorem dX10_isBatch_19 : decode cX10_isBatch 19 = .ok (.iconst 1, 1) := by decide +kernel
theorem dX10_isBatch_20 : decode cX10_isBatch 20 = .ok (.goto 4, 3) := by decide +kernel
theorem dX10_isBatch_23 : decode cX10_isBatch 23 = .ok (.iconst 0, 1) := by decide +kernel
theorem dX10_isBatch_24 : decode cX10_isBatch 24 = .ok (.ireturn, 1) := by decide +kernel
theorem dX10_within_0 : decode cX10_within 0 = .ok (.iload_n 0, 1) := by decide +kernel
theorem dX10_within_1 : decode cX10_within 1 = .ok (.iload_n 1, 1) := by decide +kernel
theorem dX10_within_2 : decode cX10_within 2 = .ok (.if_icmp .lt 12, 3) := by decide +kernel
theorem dX10_within_5 : decode cX10_within 5 = .ok (.iload_n 0, 1) := by decide +kernel
theorem dX10_within_6 : decode cX10_within 6 = .ok (.iload_n 2, 1) := by decide +kernel
theorem dX10_within_7 : decode cX10_within 7 = .ok (.if_icmp .gt 7, 3) := by decide +kernel
theorem dX10_within_10 : decode cX10_within 10 = .ok (.iconst 1, 1) := by decide +kernel
theorem dX10_within_11 : decode cX10_within 11 = .ok (.goto 4, 3) := by decide +kernel
theorem dX10_within_14 : decode cX10_within 14 = .ok (.iconst 0, 1) := by decide +kernel
theorem dX10_within_15 : decode cX10_within 15 = .ok (.ireturn, 1) := by decide +kernel
theorem dX10_clamp_0 : decode cX10_clamp 0 = .ok (.iload_n 1, 1) := by decide +kernel
theorem dX10_clamp_1 : decode cX10_clamp 1 = .ok (.iload_n 2, 1) := by decide +kernel
theorem dX10_clamp_2 : decode cX10_clamp 2 = .ok (.iload_n 0, 1) := by decide +kernel
theorem dX10_clamp_3 : decode cX10_clamp 3 = .ok (.invokestatic 339, 3) := by decide +kernel
theorem dX10_clamp_6 : decode cX10_clamp 6 = .ok (.invokestatic 344, 3) := by decide +kernel
theorem dX10_clamp_9 : decode cX10_clamp 9 = .ok (.ireturn, 1) := by decide +kernel
theorem dX10_ways_0 : decode cX10_ways 0 = .ok (.iload_n 1, 1) := by decide +kernel
theorem dX10_ways_1 : decode cX10_ways 1 = .ok (.ifCond .lt 8, 3) := by decide +kernel
theorem dX10_ways_4 : decode cX10_ways 4 = .ok (.iload_n 1, 1) := by decide +kernel
theorem dX10_ways_5 : decode cX10_ways 5 = .ok (.iload_n 0, 1) := by decide +kernel
theorem dX10_ways_6 : decode cX10_ways 6 = .ok (.if_icmp .le 5, 3) := by decide +kernel
theorem dX10_ways_9 : decode cX10_ways 9 = .ok (.lconst 0, 1) := by decide +kernel
theorem dX10_ways_10 : decode cX10_ways 10 = .ok (.lreturn, 1) := by decide +kernel
theorem dX10_ways_11 : decode cX10_ways 11 = .ok (.lconst 1, 1) := by decide +kernel
theorem dX10_ways_12 : decode cX10_ways 12 = .ok (.lstore_n 2, 1) := by decide +kernel
theorem dX10_ways_13 : decode cX10_ways 13 = .ok (.iconst 1, 1) := by decide +kernel
theorem dX10_ways_14 : decode cX10_ways 14 = .ok (.istore 4, 2) := by decide +kernel
theorem dX10_ways_16 : decode cX10_ways 16 = .ok (.iload 4, 2) := by decide +kernel
theorem dX10_ways_18 : decode cX10_ways 18 = .ok (.iload_n 1, 1) := by decide +kernel
theorem dX10_ways_19 : decode cX10_ways 19 = .ok (.if_icmp .gt 23, 3) := by decide +kernel
theorem dX10_ways_22 : decode cX10_ways 22 = .ok (.lload_n 2, 1) := by decide +kernel
theorem dX10_ways_23 : decode cX10_ways 23 = .ok (.iload_n 0, 1) := by decide +kernel
theorem dX10_ways_24 : decode cX10_ways 24 = .ok (.iload_n 1, 1) := by decide +kernel
theorem dX10_ways_25 : decode cX10_ways 25 = .ok (.isub, 1) := by decide +kernel
theorem dX10_ways_26 : decode cX10_ways 26 = .ok (.iload 4, 2) := by decide +kernel
theorem dX10_ways_28 : decode cX10_ways 28 = .ok (.iadd, 1) := by decide +kernel
theorem dX10_ways_29 : decode cX10_ways 29 = .ok (.i2l, 1) := by decide +kernel
theorem dX10_ways_30 : decode cX10_ways 30 = .ok (.lmul, 1) := by decide +kernel
theorem dX10_ways_31 : decode cX10_ways 31 = .ok (.iload 4, 2) := by decide +kernel
theorem dX10_ways_33 : decode cX10_ways 33 = .ok (.i2l, 1) := by decide +kernel
theorem dX10_ways_34 : decode cX10_ways 34 = .ok (.ldiv, 1) := by decide +kernel
theorem dX10_ways_35 : decode cX10_ways 35 = .ok (.lstore_n 2, 1) := by decide +kernel
theorem dX10_ways_36 : decode cX10_ways 36 = .ok (.iinc 4 1, 3) := by decide +kernel
theorem dX10_ways_39 : decode cX10_ways 39 = .ok (.goto (-23), 3) := by decide +kernel
theorem dX10_ways_42 : decode cX10_ways 42 = .ok (.lload_n 2, 1) := by decide +kernel
theorem dX10_ways_43 : decode cX10_ways 43 = .ok (.lreturn, 1) := by decide +kernel
theorem dX11_init_0 : decode cX11_init 0 = .ok (.aload_n 0, 1) := by decide +kernel
theorem dX11_init_1 : decode cX11_init 1 = .ok (.invokespecial 1, 3) := by decide +kernel
theorem dX11_init_4 : decode cX11_init 4 = .ok (.aload_n 0, 1) := by decide +kernel
theorem dX11_init_5 : decode cX11_init 5 = .ok (.sipush 700, 3) := by decide +kernel
theorem dX11_init_8 : decode cX11_init 8 = .ok (.newarray .int, 2) := by decide +kernel
theorem dX11_init_10 : decode cX11_init 10 = .ok (.putfield 7, 3) := by decide +kernel
theorem dX11_init_13 : decode cX11_init 13 = .ok (.aload_n 0, 1) := by decide +kernel
theorem dX11_init_14 : decode cX11_init 14 = .ok (.iconst (-1), 1) := by decide +kernel
theorem dX11_init_15 : decode cX11_init 15 = .ok (.putfield 13, 3) := by decide +kernel
theorem dX11_init_18 : decode cX11_init 18 = .ok (.aload_n 0, 1) := by decide +kernel
theorem dX11_init_19 : decode cX11_init 19 = .ok (.iconst 4, 1) := by decide +kernel
theorem dX11_init_20 : decode cX11_init 20 = .ok (.newarray .char, 2) := by decide +kernel
theorem dX11_init_22 : decode cX11_init 22 = .ok (.dup, 1) := by decide +kernel
theorem dX11_init_23 : decode cX11_init 23 = .ok (.iconst 0, 1) := by decide +kernel
theorem dX11_init_24 : decode cX11_init 24 = .ok (.bipush 107, 2) := by decide +kernel
theorem dX11_init_26 : decode cX11_init 26 = .ok (.castore, 1) := by decide +kernel
theorem dX11_init_27 : decode cX11_init 27 = .ok (.dup, 1) := by decide +kernel
theorem dX11_init_28 : decode cX11_init 28 = .ok (.iconst 1, 1) := by decide +kernel
theorem dX11_init_29 : decode cX11_init 29 = .ok (.bipush 105, 2) := by decide +kernel
theorem dX11_init_31 : decode cX11_init 31 = .ok (.castore, 1) := by decide +kernel
theorem dX11_init_32 : decode cX11_init 32 = .ok (.dup, 1) := by decide +kernel
theorem dX11_init_33 : decode cX11_init 33 = .ok (.iconst 2, 1) := by decide +kernel
theorem dX11_init_34 : decode cX11_init 34 = .ok (.bipush 110, 2) := by decide +kernel
theorem dX11_init_36 : decode cX11_init 36 = .ok (.castore, 1) := by decide +kernel
theorem dX11_init_37 : decode cX11_init 37 = .ok (.dup, 1) := by decide +kernel
theorem dX11_init_38 : decode cX11_init 38 = .ok (.iconst 3, 1) := by decide +kernel
theorem dX11_init_39 : decode cX11_init 39 = .ok (.bipush 100, 2) := by decide +kernel
theorem dX11_init_41 : decode cX11_init 41 = .ok (.castore, 1) := by decide +kernel
theorem dX11_init_42 : decode cX11_init 42 = .ok (.putfield 17, 3) := by decide +kernel
theorem dX11_init_45 : decode cX11_init 45 = .ok (.aload_n 0, 1) := by decide +kernel
theorem dX11_init_46 : decode cX11_init 46 = .ok (.iconst 5, 1) := by decide +kernel
theorem dX11_init_47 : decode cX11_init 47 = .ok (.newarray .char, 2) := by decide +kernel
theorem dX11_init_49 : decode cX11_init 49 = .ok (.dup, 1) := by decide +kernel
theorem dX11_init_50 : decode cX11_init 50 = .ok (.iconst 0, 1) := by decide +kernel
theorem dX11_init_51 : decode cX11_init 51 = .ok (.bipush 115, 2) := by decide +kernel
theorem dX11_init_53 : decode cX11_init 53 = .ok (.castore, 1) := by decide +kernel
theorem dX11_init_54 : decode cX11_init 54 = .ok (.dup, 1) := by decide +kernel
theorem dX11_init_55 : decode cX11_init 55 = .ok (.iconst 1, 1) := by decide +kernel
theorem dX11_init_56 : decode cX11_init 56 = .ok (.bipush 116, 2) := by decide +kernel
theorem dX11_init_58 : decode cX11_init 58 = .ok (.castore, 1) := by decide +kernel
theorem dX11_init_59 : decode cX11_init 59 = .ok (.dup, 1) := by decide +kernel
theorem dX11_init_60 : decode cX11_init 60 = .ok (.iconst 2, 1) := by decide +kernel
theorem dX11_init_61 : decode cX11_init 61 = .ok (.bipush 105, 2) := by decide +kernel
theorem dX11_init_63 : decode cX11_init 63 = .ok (.castore, 1) := by decide +kernel
theorem dX11_init_64 : decode cX11_init 64 = .ok (.dup, 1) := by decide +kernel
theorem dX11_init_65 : decode cX11_init 65 = .ok (.iconst 3, 1) := by decide +kernel
theorem dX11_init_66 : decode cX11_init 66 = .ok (.bipush 102, 2) := by decide +kernel
theorem dX11_init_68 : decode cX11_init 68 = .ok (.castore, 1) := by decide +kernel
theorem dX11_init_69 : decode cX11_init 69 = .ok (.dup, 1) := by decide +kernel
theorem dX11_init_70 : decode cX11_init 70 = .ok (.iconst 4, 1) := by decide +kernel
theorem dX11_init_71 : decode cX11_init 71 = .ok (.bipush 102, 2) := by decide +kernel
theorem dX11_init_73 : decode cX11_init 73 = .ok (.castore, 1) := by decide +kernel
theorem dX11_init_74 : decode cX11_init 74 = .ok (.putfield 21, 3) := by decide +kernel
theorem dX11_init_77 : decode cX11_init 77 = .ok (.aload_n 0, 1) := by decide +kernel
theorem dX11_init_78 : decode cX11_init 78 = .ok (.iconst 5, 1) := by decide +kernel
theorem dX11_init_79 : decode cX11_init 79 = .ok (.newarray .char, 2) := by decide +kernel
theorem dX11_init_81 : decode cX11_init 81 = .ok (.dup, 1) := by decide +kernel
theorem dX11_init_82 : decode cX11_init 82 = .ok (.iconst 0, 1) := by decide +kernel
theorem dX11_init_83 : decode cX11_init 83 = .ok (.bipush 111, 2) := by decide +kernel
theorem dX11_init_85 : decode cX11_init 85 = .ok (.castore, 1) := by decide +kernel
theorem dX11_init_86 : decode cX11_init 86 = .ok (.dup, 1) := by decide +kernel
theorem dX11_init_87 : decode cX11_init 87 = .ok (.iconst 1, 1) := by decide +kernel
theorem dX11_init_88 : decode cX11_init 88 = .ok (.bipush 112, 2) := by decide +kernel
theorem dX11_init_90 : decode cX11_init 90 = .ok (.castore, 1) := by decide +kernel
theorem dX11_init_91 : decode cX11_init 91 = .ok (.dup, 1) := by decide +kernel
theorem dX11_init_92 : decode cX11_init 92 = .ok (.iconst 2, 1) := by decide +kernel
theorem dX11_init_93 : decode cX11_init 93 = .ok (.bipush 101, 2) := by decide +kernel
theorem dX11_init_95 : decode cX11_init 95 = .ok (.castore, 1) := by decide +kernel
theorem dX11_init_96 : decode cX11_init 96 = .ok (.dup, 1) := by decide +kernel
theorem dX11_init_97 : decode cX11_init 97 = .ok (.iconst 3, 1) := by decide +kernel
theorem dX11_init_98 : decode cX11_init 98 = .ok (.bipush 110, 2) := by decide +kernel
theorem dX11_init_100 : decode cX11_init 100 = .ok (.castore, 1) := by decide +kernel
theorem dX11_init_101 : decode cX11_init 101 = .ok (.dup, 1) := by decide +kernel
theorem dX11_init_102 : decode cX11_init 102 = .ok (.iconst 4, 1) := by decide +kernel
theorem dX11_init_103 : decode cX11_init 103 = .ok (.bipush 115, 2) := by decide +kernel
theorem dX11_init_105 : decode cX11_init 105 = .ok (.castore, 1) := by decide +kernel
theorem dX11_init_106 : decode cX11_init 106 = .ok (.putfield 24, 3) := by decide +kernel
theorem dX11_init_109 : decode cX11_init 109 = .ok (.aload_n 0, 1) := by decide +kernel
theorem dX11_init_110 : decode cX11_init 110 = .ok (.iconst 5, 1) := by decide +kernel
theorem dX11_init_111 : decode cX11_init 111 = .ok (.newarray .char, 2) := by decide +kernel
theorem dX11_init_113 : decode cX11_init 113 = .ok (.dup, 1) := by decide +kernel
theorem dX11_init_114 : decode cX11_init 114 = .ok (.iconst 0, 1) := by decide +kernel
theorem dX11_init_115 : decode cX11_init 115 = .ok (.bipush 116, 2) := by decide +kernel
theorem dX11_init_117 : decode cX11_init 117 = .ok (.castore, 1) := by decide +kernel
theorem dX11_init_118 : decode cX11_init 118 = .ok (.dup, 1) := by decide +kernel
theorem dX11_init_119 : decode cX11_init 119 = .ok (.iconst 1, 1) := by decide +kernel
theorem dX11_init_120 : decode cX11_init 120 = .ok (.bipush 105, 2) := by decide +kernel
theorem dX11_init_122 : decode cX11_init 122 = .ok (.castore, 1) := by decide +kernel
theorem dX11_init_123 : decode cX11_init 123 = .ok (.dup, 1) := by decide +kernel
theorem dX11_init_124 : decode cX11_init 124 = .ok (.iconst 2, 1) := by decide +kernel
theorem dX11_init_125 : decode cX11_init 125 = .ok (.bipush 114, 2) := by decide +kernel
theorem dX11_init_127 : decode cX11_init 127 = .ok (.castore, 1) := by decide +kernel
theorem dX11_init_128 : decode cX11_init 128 = .ok (.dup, 1) := by decide +kernel
theorem dX11_init_129 : decode cX11_init 129 = .ok (.iconst 3, 1) := by decide +kernel
theorem dX11_init_130 : decode cX11_init 130 = .ok (.bipush 101, 2) := by decide +kernel
theorem dX11_init_132 : decode cX11_init 132 = .ok (.castore, 1) := by decide +kernel
theorem dX11_init_133 : decode cX11_init 133 = .ok (.dup, 1) := by decide +kernel
theorem dX11_init_134 : decode cX11_init 134 = .ok (.iconst 4, 1) := by decide +kernel
theorem dX11_init_135 : decode cX11_init 135 = .ok (.bipush 115, 2) := by decide +kernel
theorem dX11_init_137 : decode cX11_init 137 = .ok (.castore, 1) := by decide +kernel
theorem dX11_init_138 : decode cX11_init 138 = .ok (.putfield 27, 3) := by decide +kernel
theorem dX11_init_141 : decode cX11_init 141 = .ok (.aload_n 0, 1) := by decide +kernel
theorem dX11_init_142 : decode cX11_init 142 = .ok (.iconst 5, 1) := by decide +kernel
theorem dX11_init_143 : decode cX11_init 143 = .ok (.newarray .char, 2) := by decide +kernel
theorem dX11_init_145 : decode cX11_init 145 = .ok (.dup, 1) := by decide +kernel
theorem dX11_init_146 : decode cX11_init 146 = .ok (.iconst 0, 1) := by decide +kernel
theorem dX11_init_147 : decode cX11_init 147 = .ok (.bipush 116, 2) := by decide +kernel
theorem dX11_init_149 : decode cX11_init 149 = .ok (.castore, 1) := by decide +kernel
theorem dX11_init_150 : decode cX11_init 150 = .ok (.dup, 1) := by decide +kernel
theorem dX11_init_151 : decode cX11_init 151 = .ok (.iconst 1, 1) := by decide +kernel
theorem dX11_init_152 : decode cX11_init 152 = .ok (.bipush 101, 2) := by decide +kernel
theorem dX11_init_154 : decode cX11_init 154 = .ok (.castore, 1) := by decide +kernel
theorem dX11_init_155 : decode cX11_init 155 = .ok (.dup, 1) := by decide +kernel
theorem dX11_init_156 : decode cX11_init 156 = .ok (.iconst 2, 1) := by decide +kernel
theorem dX11_init_157 : decode cX11_init 157 = .ok (.bipush 97, 2) := by decide +kernel
theorem dX11_init_159 : decode cX11_init 159 = .ok (.castore, 1) := by decide +kernel
theorem dX11_init_160 : decode cX11_init 160 = .ok (.dup, 1) := by decide +kernel
theorem dX11_init_161 : decode cX11_init 161 = .ok (.iconst 3, 1) := by decide +kernel
theorem dX11_init_162 : decode cX11_init 162 = .ok (.bipush 114, 2) := by decide +kernel
theorem dX11_init_164 : decode cX11_init 164 = .ok (.castore, 1) := by decide +kernel
theorem dX11_init_165 : decode cX11_init 165 = .ok (.dup, 1) := by decide +kernel
theorem dX11_init_166 : decode cX11_init 166 = .ok (.iconst 4, 1) := by decide +kernel
theorem dX11_init_167 : decode cX11_init 167 = .ok (.bipush 115, 2) := by decide +kernel
theorem dX11_init_169 : decode cX11_init 169 = .ok (.castore, 1) := by decide +kernel
theorem dX11_init_170 : decode cX11_init 170 = .ok (.putfield 30, 3) := by decide +kernel
theorem dX11_init_173 : decode cX11_init 173 = .ok (.aload_n 0, 1) := by decide +kernel
theorem dX11_init_174 : decode cX11_init 174 = .ok (.iconst 5, 1) := by decide +kernel
theorem dX11_init_175 : decode cX11_init 175 = .ok (.newarray .char, 2) := by decide +kernel
theorem dX11_init_177 : decode cX11_init 177 = .ok (.dup, 1) := by decide +kernel
theorem dX11_init_178 : decode cX11_init 178 = .ok (.iconst 0, 1) := by decide +kernel
theorem dX11_init_179 : decode cX11_init 179 = .ok (.bipush 99, 2) := by decide +kernel
theorem dX11_init_181 : decode cX11_init 181 = .ok (.castore, 1) := by decide +kernel
theorem dX11_init_182 : decode cX11_init 182 = .ok (.dup, 1) := by decide +kernel
theorem dX11_init_183 : decode cX11_init 183 = .ok (.iconst 1, 1) := by decide +kernel
theorem dX11_init_184 : decode cX11_init 184 = .ok (.bipush 97, 2) := by decide +kernel
theorem dX11_init_186 : decode cX11_init 186 = .ok (.castore, 1) := by decide +kernel
theorem dX11_init_187 : decode cX11_init 187 = .ok (.dup, 1) := by decide +kernel
theorem dX11_init_188 : decode cX11_init 188 = .ok (.iconst 2, 1) := by decide +kernel
theorem dX11_init_189 : decode cX11_init 189 = .ok (.bipush 116, 2) := by decide +kernel
theorem dX11_init_191 : decode cX11_init 191 = .ok (.castore, 1) := by decide +kernel
theorem dX11_init_192 : decode cX11_init 192 = .ok (.dup, 1) := by decide +kernel
theorem dX11_init_193 : decode cX11_init 193 = .ok (.iconst 3, 1) := by decide +kernel
theorem dX11_init_194 : decode cX11_init 194 = .ok (.bipush 99, 2) := by decide +kernel
theorem dX11_init_196 : decode cX11_init 196 = .ok (.castore, 1) := by decide +kernel
theorem dX11_init_197 : decode cX11_init 197 = .ok (.dup, 1) := by decide +kernel
theorem dX11_init_198 : decode cX11_init 198 = .ok (.iconst 4, 1) := by decide +kernel
theorem dX11_init_199 : decode cX11_init 199 = .ok (.bipush 104, 2) := by decide +kernel
theorem dX11_init_201 : decode cX11_init 201 = .ok (.castore, 1) := by decide +kernel
theorem dX11_init_202 : decode cX11_init 202 = .ok (.putfield 33, 3) := by decide +kernel
theorem dX11_init_205 : decode cX11_init 205 = .ok (.aload_n 0, 1) := by decide +kernel
theorem dX11_init_206 : decode cX11_init 206 = .ok (.iconst 4, 1) := by decide +kernel
theorem dX11_init_207 : decode cX11_init 207 = .ok (.newarray .char, 2) := by decide +kernel
theorem dX11_init_209 : decode cX11_init 209 = .ok (.dup, 1) := by decide +kernel
theorem dX11_init_210 : decode cX11_init 210 = .ok (.iconst 0, 1) := by decide +kernel
theorem dX11_init_211 : decode cX11_init 211 = .ok (.bipush 119, 2) := by decide +kernel
theorem dX11_init_213 : decode cX11_init 213 = .ok (.castore, 1) := by decide +kernel
theorem dX11_init_214 : decode cX11_init 214 = .ok (.dup, 1) := by decide +kernel
theorem dX11_init_215 : decode cX11_init 215 = .ok (.iconst 1, 1) := by decide +kernel
theorem dX11_init_216 : decode cX11_init 216 = .ok (.bipush 104, 2) := by decide +kernel
theorem dX11_init_218 : decode cX11_init 218 = .ok (.castore, 1) := by decide +kernel
theorem dX11_init_219 : decode cX11_init 219 = .ok (.dup, 1) := by decide +kernel
theorem dX11_init_220 : decode cX11_init 220 = .ok (.iconst 2, 1) := by decide +kernel
theorem dX11_init_221 : decode cX11_init 221 = .ok (.bipush 101, 2) := by decide +kernel
theorem dX11_init_223 : decode cX11_init 223 = .ok (.castore, 1) := by decide +kernel
theorem dX11_init_224 : decode cX11_init 224 = .ok (.dup, 1) := by decide +kernel
theorem dX11_init_225 : decode cX11_init 225 = .ok (.iconst 3, 1) := by decide +kernel
theorem dX11_init_226 : decode cX11_init 226 = .ok (.bipush 110, 2) := by decide +kernel
theorem dX11_init_228 : decode cX11_init 228 = .ok (.castore, 1) := by decide +kernel
theorem dX11_init_229 : decode cX11_init 229 = .ok (.putfield 36, 3) := by decide +kernel
theorem dX11_init_232 : decode cX11_init 232 = .ok (.aload_n 0, 1) := by decide +kernel
theorem dX11_init_233 : decode cX11_init 233 = .ok (.iconst 4, 1) := by decide +kernel
theorem dX11_init_234 : decode cX11_init 234 = .ok (.newarray .char, 2) := by decide +kernel
theorem dX11_init_236 : decode cX11_init 236 = .ok (.dup, 1) := by decide +kernel
theorem dX11_init_237 : decode cX11_init 237 = .ok (.iconst 0, 1) := by decide +kernel
theorem dX11_init_238 : decode cX11_init 238 = .ok (.bipush 108, 2) := by decide +kernel
theorem dX11_init_240 : decode cX11_init 240 = .ok (.castore, 1) := by decide +kernel
theorem dX11_init_241 : decode cX11_init 241 = .ok (.dup, 1) := by decide +kernel
theorem dX11_init_242 : decode cX11_init 242 = .ok (.iconst 1, 1) := by decide +kernel
theorem dX11_init_243 : decode cX11_init 243 = .ok (.bipush 105, 2) := by decide +kernel
theorem dX11_init_245 : decode cX11_init 245 = .ok (.castore, 1) := by decide +kernel
theorem dX11_init_246 : decode cX11_init 246 = .ok (.dup, 1) := by decide +kernel
theorem dX11_init_247 : decode cX11_init 247 = .ok (.iconst 2, 1) := by decide +kernel
theorem dX11_init_248 : decode cX11_init 248 = .ok (.bipush 110, 2) := by decide +kernel
theorem dX11_init_250 : decode cX11_init 250 = .ok (.castore, 1) := by decide +kernel
theorem dX11_init_251 : decode cX11_init 251 = .ok (.dup, 1) := by decide +kernel
theorem dX11_init_252 : decode cX11_init 252 = .ok (.iconst 3, 1) := by decide +kernel
theorem dX11_init_253 : decode cX11_init 253 = .ok (.bipush 116, 2) := by decide +kernel
theorem dX11_init_255 : decode cX11_init 255 = .ok (.castore, 1) := by decide +kernel
theorem dX11_init_256 : decode cX11_init 256 = .ok (.putfield 39, 3) := by decide +kernel
theorem dX11_init_259 : decode cX11_init 259 = .ok (.aload_n 0, 1) := by decide +kernel
theorem dX11_init_260 : decode cX11_init 260 = .ok (.iconst 2, 1) := by decide +kernel
theorem dX11_init_261 : decode cX11_init 261 = .ok (.newarray .char, 2) := by decide +kernel
theorem dX11_init_263 : decode cX11_init 263 = .ok (.dup, 1) := by decide +kernel
theorem dX11_init_264 : decode cX11_init 264 = .ok (.iconst 0, 1) := by decide +kernel
theorem dX11_init_265 : decode cX11_init 265 = .ok (.bipush 111, 2) := by decide +kernel
theorem dX11_init_267 : decode cX11_init 267 = .ok (.castore, 1) := by decide +kernel
theorem dX11_init_268 : decode cX11_init 268 = .ok (.dup, 1) := by decide +kernel
theorem dX11_init_269 : decode cX11_init 269 = .ok (.iconst 1, 1) := by decide +kernel
theorem dX11_init_270 : decode cX11_init 270 = .ok (.bipush 114, 2) := by decide +kernel
theorem dX11_init_272 : decode cX11_init 272 = .ok (.castore, 1) := by decide +kernel
theorem dX11_init_273 : decode cX11_init 273 = .ok (.putfield 42, 3) := by decide +kernel
theorem dX11_init_276 : decode cX11_init 276 = .ok (.aload_n 0, 1) := by decide +kernel
theorem dX11_init_277 : decode cX11_init 277 = .ok (.iconst 3, 1) := by decide +kernel
theorem dX11_init_278 : decode cX11_init 278 = .ok (.newarray .char, 2) := by decide +kernel
theorem dX11_init_280 : decode cX11_init 280 = .ok (.dup, 1) := by decide +kernel
theorem dX11_init_281 : decode cX11_init 281 = .ok (.iconst 0, 1) := by decide +kernel
theorem dX11_init_282 : decode cX11_init 282 = .ok (.bipush 97, 2) := by decide +kernel
theorem dX11_init_284 : decode cX11_init 284 = .ok (.castore, 1) := by decide +kernel
theorem dX11_init_285 : decode cX11_init 285 = .ok (.dup, 1) := by decide +kernel
theorem dX11_init_286 : decode cX11_init 286 = .ok (.iconst 1, 1) := by decide +kernel
theorem dX11_init_287 : decode cX11_init 287 = .ok (.bipush 110, 2) := by decide +kernel
theorem dX11_init_289 : decode cX11_init 289 = .ok (.castore, 1) := by decide +kernel
theorem dX11_init_290 : decode cX11_init 290 = .ok (.dup, 1) := by decide +kernel
theorem dX11_init_291 : decode cX11_init 291 = .ok (.iconst 2, 1) := by decide +kernel
theorem dX11_init_292 : decode cX11_init 292 = .ok (.bipush 100, 2) := by decide +kernel
theorem dX11_init_294 : decode cX11_init 294 = .ok (.castore, 1) := by decide +kernel
theorem dX11_init_295 : decode cX11_init 295 = .ok (.putfield 45, 3) := by decide +kernel
theorem dX11_init_298 : decode cX11_init 298 = .ok (.aload_n 0, 1) := by decide +kernel
theorem dX11_init_299 : decode cX11_init 299 = .ok (.iconst 3, 1) := by decide +kernel
theorem dX11_init_300 : decode cX11_init 300 = .ok (.newarray .char, 2) := by decide +kernel
theorem dX11_init_302 : decode cX11_init 302 = .ok (.dup, 1) := by decide +kernel
theorem dX11_init_303 : decode cX11_init 303 = .ok (.iconst 0, 1) := by decide +kernel
theorem dX11_init_304 : decode cX11_init 304 = .ok (.bipush 110, 2) := by decide +kernel
theorem dX11_init_306 : decode cX11_init 306 = .ok (.castore, 1) := by decide +kernel
theorem dX11_init_307 : decode cX11_init 307 = .ok (.dup, 1) := by decide +kernel
theorem dX11_init_308 : decode cX11_init 308 = .ok (.iconst 1, 1) := by decide +kernel
theorem dX11_init_309 : decode cX11_init 309 = .ok (.bipush 111, 2) := by decide +kernel
theorem dX11_init_311 : decode cX11_init 311 = .ok (.castore, 1) := by decide +kernel
theorem dX11_init_312 : decode cX11_init 312 = .ok (.dup, 1) := by decide +kernel
theorem dX11_init_313 : decode cX11_init 313 = .ok (.iconst 2, 1) := by decide +kernel
theorem dX11_init_314 : decode cX11_init 314 = .ok (.bipush 116, 2) := by decide +kernel
theorem dX11_init_316 : decode cX11_init 316 = .ok (.castore, 1) := by decide +kernel
theorem dX11_init_317 : decode cX11_init 317 = .ok (.putfield 48, 3) := by decide +kernel
theorem dX11_init_320 : decode cX11_init 320 = .ok (.aload_n 0, 1) := by decide +kernel
theorem dX11_init_321 : decode cX11_init 321 = .ok (.iconst 3, 1) := by decide +kernel
theorem dX11_init_322 : decode cX11_init 322 = .ok (.newarray .char, 2) := by decide +kernel
theorem dX11_init_324 : decode cX11_init 324 = .ok (.dup, 1) := by decide +kernel
theorem dX11_init_325 : decode cX11_init 325 = .ok (.iconst 0, 1) := by decide +kernel
theorem dX11_init_326 : decode cX11_init 326 = .ok (.bipush 97, 2) := by decide +kernel
theorem dX11_init_328 : decode cX11_init 328 = .ok (.castore, 1) := by decide +kernel
theorem dX11_init_329 : decode cX11_init 329 = .ok (.dup, 1) := by decide +kernel
theorem dX11_init_330 : decode cX11_init 330 = .ok (.iconst 1, 1) := by decide +kernel
theorem dX11_init_331 : decode cX11_init 331 = .ok (.bipush 108, 2) := by decide +kernel
theorem dX11_init_333 : decode cX11_init 333 = .ok (.castore, 1) := by decide +kernel
theorem dX11_init_334 : decode cX11_init 334 = .ok (.dup, 1) := by decide +kernel
theorem dX11_init_335 : decode cX11_init 335 = .ok (.iconst 2, 1) := by decide +kernel
theorem dX11_init_336 : decode cX11_init 336 = .ok (.bipush 108, 2) := by decide +kernel
theorem dX11_init_338 : decode cX11_init 338 = .ok (.castore, 1) := by decide +kernel
theorem dX11_init_339 : decode cX11_init 339 = .ok (.putfield 51, 3) := by decide +kernel
theorem dX11_init_342 : decode cX11_init 342 = .ok (.aload_n 0, 1) := by decide +kernel
theorem dX11_init_343 : decode cX11_init 343 = .ok (.iconst 2, 1) := by decide +kernel
theorem dX11_init_344 : decode cX11_init 344 = .ok (.newarray .char, 2) := by decide +kernel
theorem dX11_init_346 : decode cX11_init 346 = .ok (.dup, 1) := by decide +kernel
theorem dX11_init_347 : decode cX11_init 347 = .ok (.iconst 0, 1) := by decide +kernel
theorem dX11_init_348 : decode cX11_init 348 = .ok (.bipush 105, 2) := by decide +kernel
theorem dX11_init_350 : decode cX11_init 350 = .ok (.castore, 1) := by decide +kernel
theorem dX11_init_351 : decode cX11_init 351 = .ok (.dup, 1) := by decide +kernel
theorem dX11_init_352 : decode cX11_init 352 = .ok (.iconst 1, 1) := by decide +kernel
theorem dX11_init_353 : decode cX11_init 353 = .ok (.bipush 115, 2) := by decide +kernel
theorem dX11_init_355 : decode cX11_init 355 = .ok (.castore, 1) := by decide +kernel
theorem dX11_init_356 : decode cX11_init 356 = .ok (.putfield 54, 3) := by decide +kernel
theorem dX11_init_359 : decode cX11_init 359 = .ok (.aload_n 0, 1) := by decide +kernel
theorem dX11_init_360 : decode cX11_init 360 = .ok (.iconst 5, 1) := by decide +kernel
theorem dX11_init_361 : decode cX11_init 361 = .ok (.newarray .char, 2) := by decide +kernel
theorem dX11_init_363 : decode cX11_init 363 = .ok (.dup, 1) := by decide +kernel
theorem dX11_init_364 : decode cX11_init 364 = .ok (.iconst 0, 1) := by decide +kernel
theorem dX11_init_365 : decode cX11_init 365 = .ok (.bipush 112, 2) := by decide +kernel
theorem dX11_init_367 : decode cX11_init 367 = .ok (.castore, 1) := by decide +kernel
theorem dX11_init_368 : decode cX11_init 368 = .ok (.dup, 1) := by decide +kernel
theorem dX11_init_369 : decode cX11_init 369 = .ok (.iconst 1, 1) := by decide +kernel
theorem dX11_init_370 : decode cX11_init 370 = .ok (.bipush 114, 2) := by decide +kernel
theorem dX11_init_372 : decode cX11_init 372 = .ok (.castore, 1) := by decide +kernel
theorem dX11_init_373 : decode cX11_init 373 = .ok (.dup, 1) := by decide +kernel
theorem dX11_init_374 : decode cX11_init 374 = .ok (.iconst 2, 1) := by decide +kernel
theorem dX11_init_375 : decode cX11_init 375 = .ok (.bipush 101, 2) := by decide +kernel
theorem dX11_init_377 : decode cX11_init 377 = .ok (.castore, 1) := by decide +kernel
theorem dX11_init_378 : decode cX11_init 378 = .ok (.dup, 1) := by decide +kernel
theorem dX11_init_379 : decode cX11_init 379 = .ok (.iconst 3, 1) := by decide +kernel
theorem dX11_init_380 : decode cX11_init 380 = .ok (.bipush 115, 2) := by decide +kernel
theorem dX11_init_382 : decode cX11_init 382 = .ok (.castore, 1) := by decide +kernel
theorem dX11_init_383 : decode cX11_init 383 = .ok (.dup, 1) := by decide +kernel
theorem dX11_init_384 : decode cX11_init 384 = .ok (.iconst 4, 1) := by decide +kernel
theorem dX11_init_385 : decode cX11_init 385 = .ok (.bipush 115, 2) := by decide +kernel
theorem dX11_init_387 : decode cX11_init 387 = .ok (.castore, 1) := by decide +kernel
theorem dX11_init_388 : decode cX11_init 388 = .ok (.putfield 57, 3) := by decide +kernel
theorem dX11_init_391 : decode cX11_init 391 = .ok (.aload_n 0, 1) := by decide +kernel
theorem dX11_init_392 : decode cX11_init 392 = .ok (.iconst 5, 1) := by decide +kernel
theorem dX11_init_393 : decode cX11_init 393 = .ok (.newarray .char, 2) := by decide +kernel
theorem dX11_init_395 : decode cX11_init 395 = .ok (.dup, 1) := by decide +kernel
theorem dX11_init_396 : decode cX11_init 396 = .ok (.iconst 0, 1) := by decide +kernel
theorem dX11_init_397 : decode cX11_init 397 = .ok (.bipush 115, 2) := by decide +kernel
theorem dX11_init_399 : decode cX11_init 399 = .ok (.castore, 1) := by decide +kernel
theorem dX11_init_400 : decode cX11_init 400 = .ok (.dup, 1) := by decide +kernel
theorem dX11_init_401 : decode cX11_init 401 = .ok (.iconst 1, 1) := by decide +kernel
theorem dX11_init_402 : decode cX11_init 402 = .ok (.bipush 104, 2) := by decide +kernel
theorem dX11_init_404 : decode cX11_init 404 = .ok (.castore, 1) := by decide +kernel
theorem dX11_init_405 : decode cX11_init 405 = .ok (.dup, 1) := by decide +kernel
theorem dX11_init_406 : decode cX11_init 406 = .ok (.iconst 2, 1) := by decide +kernel
theorem dX11_init_407 : decode cX11_init 407 = .ok (.bipush 97, 2) := by decide +kernel
theorem dX11_init_409 : decode cX11_init 409 = .ok (.castore, 1) := by decide +kernel
theorem dX11_init_410 : decode cX11_init 410 = .ok (.dup, 1) := by decide +kernel
theorem dX11_init_411 : decode cX11_init 411 = .ok (.iconst 3, 1) := by decide +kernel
theorem dX11_init_412 : decode cX11_init 412 = .ok (.bipush 107, 2) := by decide +kernel
theorem dX11_init_414 : decode cX11_init 414 = .ok (.castore, 1) := by decide +kernel
theorem dX11_init_415 : decode cX11_init 415 = .ok (.dup, 1) := by decide +kernel
theorem dX11_init_416 : decode cX11_init 416 = .ok (.iconst 4, 1) := by decide +kernel
theorem dX11_init_417 : decode cX11_init 417 = .ok (.bipush 101, 2) := by decide +kernel
theorem dX11_init_419 : decode cX11_init 419 = .ok (.castore, 1) := by decide +kernel
theorem dX11_init_420 : decode cX11_init 420 = .ok (.putfield 60, 3) := by decide +kernel
theorem dX11_init_423 : decode cX11_init 423 = .ok (.aload_n 0, 1) := by decide +kernel
theorem dX11_init_424 : decode cX11_init 424 = .ok (.iconst 5, 1) := by decide +kernel
theorem dX11_init_425 : decode cX11_init 425 = .ok (.newarray .char, 2) := by decide +kernel
theorem dX11_init_427 : decode cX11_init 427 = .ok (.dup, 1) := by decide +kernel
theorem dX11_init_428 : decode cX11_init 428 = .ok (.iconst 0, 1) := by decide +kernel
theorem dX11_init_429 : decode cX11_init 429 = .ok (.bipush 108, 2) := by decide +kernel
theorem dX11_init_431 : decode cX11_init 431 = .ok (.castore, 1) := by decide +kernel
theorem dX11_init_432 : decode cX11_init 432 = .ok (.dup, 1) := by decide +kernel
theorem dX11_init_433 : decode cX11_init 433 = .ok (.iconst 1, 1) := by decide +kernel
theorem dX11_init_434 : decode cX11_init 434 = .ok (.bipush 111, 2) := by decide +kernel
theorem dX11_init_436 : decode cX11_init 436 = .ok (.castore, 1) := by decide +kernel
theorem dX11_init_437 : decode cX11_init 437 = .ok (.dup, 1) := by decide +kernel
theorem dX11_init_438 : decode cX11_init 438 = .ok (.iconst 2, 1) := by decide +kernel
theorem dX11_init_439 : decode cX11_init 439 = .ok (.bipush 111, 2) := by decide +kernel
theorem dX11_init_441 : decode cX11_init 441 = .ok (.castore, 1) := by decide +kernel
theorem dX11_init_442 : decode cX11_init 442 = .ok (.dup, 1) := by decide +kernel
theorem dX11_init_443 : decode cX11_init 443 = .ok (.iconst 3, 1) := by decide +kernel
theorem dX11_init_444 : decode cX11_init 444 = .ok (.bipush 112, 2) := by decide +kernel
theorem dX11_init_446 : decode cX11_init 446 = .ok (.castore, 1) := by decide +kernel
theorem dX11_init_447 : decode cX11_init 447 = .ok (.dup, 1) := by decide +kernel
theorem dX11_init_448 : decode cX11_init 448 = .ok (.iconst 4, 1) := by decide +kernel
theorem dX11_init_449 : decode cX11_init 449 = .ok (.bipush 115, 2) := by decide +kernel
theorem dX11_init_451 : decode cX11_init 451 = .ok (.castore, 1) := by decide +kernel
theorem dX11_init_452 : decode cX11_init 452 = .ok (.putfield 63, 3) := by decide +kernel
theorem dX11_init_455 : decode cX11_init 455 = .ok (.aload_n 0, 1) := by decide +kernel
theorem dX11_init_456 : decode cX11_init 456 = .ok (.iconst 4, 1) := by decide +kernel
theorem dX11_init_457 : decode cX11_init 457 = .ok (.newarray .char, 2) := by decide +kernel
theorem dX11_init_459 : decode cX11_init 459 = .ok (.dup, 1) := by decide +kernel
theorem dX11_init_460 : decode cX11_init 460 = .ok (.iconst 0, 1) := by decide +kernel
theorem dX11_init_461 : decode cX11_init 461 = .ok (.bipush 119, 2) := by decide +kernel
theorem dX11_init_463 : decode cX11_init 463 = .ok (.castore, 1) := by decide +kernel
theorem dX11_init_464 : decode cX11_init 464 = .ok (.dup, 1) := by decide +kernel
theorem dX11_init_465 : decode cX11_init 465 = .ok (.iconst 1, 1) := by decide +kernel
theorem dX11_init_466 : decode cX11_init 466 = .ok (.bipush 111, 2) := by decide +kernel
theorem dX11_init_468 : decode cX11_init 468 = .ok (.castore, 1) := by decide +kernel
theorem dX11_init_469 : decode cX11_init 469 = .ok (.dup, 1) := by decide +kernel
theorem dX11_init_470 : decode cX11_init 470 = .ok (.iconst 2, 1) := by decide +kernel
theorem dX11_init_471 : decode cX11_init 471 = .ok (.bipush 114, 2) := by decide +kernel
theorem dX11_init_473 : decode cX11_init 473 = .ok (.castore, 1) := by decide +kernel
theorem dX11_init_474 : decode cX11_init 474 = .ok (.dup, 1) := by decide +kernel
theorem dX11_init_475 : decode cX11_init 475 = .ok (.iconst 3, 1) := by decide +kernel
theorem dX11_init_476 : decode cX11_init 476 = .ok (.bipush 110, 2) := by decide +kernel
theorem dX11_init_478 : decode cX11_init 478 = .ok (.castore, 1) := by decide +kernel
theorem dX11_init_479 : decode cX11_init 479 = .ok (.putfield 66, 3) := by decide +kernel
theorem dX11_init_482 : decode cX11_init 482 = .ok (.aload_n 0, 1) := by decide +kernel
theorem dX11_init_483 : decode cX11_init 483 = .ok (.iconst 3, 1) := by decide +kernel
theorem dX11_init_484 : decode cX11_init 484 = .ok (.newarray .char, 2) := by decide +kernel
theorem dX11_init_486 : decode cX11_init 486 = .ok (.dup, 1) := by decide +kernel
theorem dX11_init_487 : decode cX11_init 487 = .ok (.iconst 0, 1) := by decide +kernel
theorem dX11_init_488 : decode cX11_init 488 = .ok (.bipush 114, 2) := by decide +kernel
theorem dX11_init_490 : decode cX11_init 490 = .ok (.castore, 1) := by decide +kernel
theorem dX11_init_491 : decode cX11_init 491 = .ok (.dup, 1) := by decide +kernel
theorem dX11_init_492 : decode cX11_init 492 = .ok (.iconst 1, 1) := by decide +kernel
theorem dX11_init_493 : decode cX11_init 493 = .ok (.bipush 111, 2) := by decide +kernel
theorem dX11_init_495 : decode cX11_init 495 = .ok (.castore, 1) := by decide +kernel
theorem dX11_init_496 : decode cX11_init 496 = .ok (.dup, 1) := by decide +kernel
theorem dX11_init_497 : decode cX11_init 497 = .ok (.iconst 2, 1) := by decide +kernel
theorem dX11_init_498 : decode cX11_init 498 = .ok (.bipush 119, 2) := by decide +kernel
theorem dX11_init_500 : decode cX11_init 500 = .ok (.castore, 1) := by decide +kernel
theorem dX11_init_501 : decode cX11_init 501 = .ok (.putfield 69, 3) := by decide +kernel
theorem dX11_init_504 : decode cX11_init 504 = .ok (.aload_n 0, 1) := by decide +kernel
theorem dX11_init_505 : decode cX11_init 505 = .ok (.bipush 6, 2) := by decide +kernel
theorem dX11_init_507 : decode cX11_init 507 = .ok (.newarray .char, 2) := by decide +kernel
theorem dX11_init_509 : decode cX11_init 509 = .ok (.dup, 1) := by decide +kernel
theorem dX11_init_510 : decode cX11_init 510 = .ok (.iconst 0, 1) := by decide +kernel
theorem dX11_init_511 : decode cX11_init 511 = .ok (.bipush 99, 2) := by decide +kernel
theorem dX11_init_513 : decode cX11_init 513 = .ok (.castore, 1) := by decide +kernel
theorem dX11_init_514 : decode cX11_init 514 = .ok (.dup, 1) := by decide +kernel
theorem dX11_init_515 : decode cX11_init 515 = .ok (.iconst 1, 1) := by decide +kernel
theorem dX11_init_516 : decode cX11_init 516 = .ok (.bipush 111, 2) := by decide +kernel
theorem dX11_init_518 : decode cX11_init 518 = .ok (.castore, 1) := by decide +kernel
theorem dX11_init_519 : decode cX11_init 519 = .ok (.dup, 1) := by decide +kernel
theorem dX11_init_520 : decode cX11_init 520 = .ok (.iconst 2, 1) := by decide +kernel
theorem dX11_init_521 : decode cX11_init 521 = .ok (.bipush 108, 2) := by decide +kernel
theorem dX11_init_523 : decode cX11_init 523 = .ok (.castore, 1) := by decide +kernel
