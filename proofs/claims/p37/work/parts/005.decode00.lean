theorem dX0_init_0 : decode cX0_init 0 = .ok (.aload_n 0, 1) := by decide +kernel
theorem dX0_init_1 : decode cX0_init 1 = .ok (.invokespecial 3, 3) := by decide +kernel
theorem dX0_init_4 : decode cX0_init 4 = .ok (.aload_n 0, 1) := by decide +kernel
theorem dX0_init_5 : decode cX0_init 5 = .ok (.bipush 121, 2) := by decide +kernel
theorem dX0_init_7 : decode cX0_init 7 = .ok (.newarray .int, 2) := by decide +kernel
theorem dX0_init_9 : decode cX0_init 9 = .ok (.putfield 11, 3) := by decide +kernel
theorem dX0_init_12 : decode cX0_init 12 = .ok (.aload_n 0, 1) := by decide +kernel
theorem dX0_init_13 : decode cX0_init 13 = .ok (.bipush 121, 2) := by decide +kernel
theorem dX0_init_15 : decode cX0_init 15 = .ok (.newarray .int, 2) := by decide +kernel
theorem dX0_init_17 : decode cX0_init 17 = .ok (.putfield 15, 3) := by decide +kernel
theorem dX0_init_20 : decode cX0_init 20 = .ok (.aload_n 0, 1) := by decide +kernel
theorem dX0_init_21 : decode cX0_init 21 = .ok (.bipush 121, 2) := by decide +kernel
theorem dX0_init_23 : decode cX0_init 23 = .ok (.newarray .int, 2) := by decide +kernel
theorem dX0_init_25 : decode cX0_init 25 = .ok (.putfield 18, 3) := by decide +kernel
theorem dX0_init_28 : decode cX0_init 28 = .ok (.aload_n 0, 1) := by decide +kernel
theorem dX0_init_29 : decode cX0_init 29 = .ok (.bipush 121, 2) := by decide +kernel
theorem dX0_init_31 : decode cX0_init 31 = .ok (.newarray .int, 2) := by decide +kernel
theorem dX0_init_33 : decode cX0_init 33 = .ok (.putfield 21, 3) := by decide +kernel
theorem dX0_init_36 : decode cX0_init 36 = .ok (.aload_n 0, 1) := by decide +kernel
theorem dX0_init_37 : decode cX0_init 37 = .ok (.bipush 121, 2) := by decide +kernel
theorem dX0_init_39 : decode cX0_init 39 = .ok (.newarray .int, 2) := by decide +kernel
theorem dX0_init_41 : decode cX0_init 41 = .ok (.putfield 24, 3) := by decide +kernel
theorem dX0_init_44 : decode cX0_init 44 = .ok (.aload_n 0, 1) := by decide +kernel
theorem dX0_init_45 : decode cX0_init 45 = .ok (.bipush 121, 2) := by decide +kernel
theorem dX0_init_47 : decode cX0_init 47 = .ok (.newarray .int, 2) := by decide +kernel
theorem dX0_init_49 : decode cX0_init 49 = .ok (.putfield 27, 3) := by decide +kernel
theorem dX0_init_52 : decode cX0_init 52 = .ok (.aload_n 0, 1) := by decide +kernel
theorem dX0_init_53 : decode cX0_init 53 = .ok (.iconst 0, 1) := by decide +kernel
theorem dX0_init_54 : decode cX0_init 54 = .ok (.putfield 30, 3) := by decide +kernel
theorem dX0_init_57 : decode cX0_init 57 = .ok (.return_, 1) := by decide +kernel
theorem dX0_add_0 : decode cX0_add 0 = .ok (.aload_n 0, 1) := by decide +kernel
theorem dX0_add_1 : decode cX0_add 1 = .ok (.getfield 30, 3) := by decide +kernel
theorem dX0_add_4 : decode cX0_add 4 = .ok (.bipush 120, 2) := by decide +kernel
theorem dX0_add_6 : decode cX0_add 6 = .ok (.if_icmp .lt 5, 3) := by decide +kernel
theorem dX0_add_9 : decode cX0_add 9 = .ok (.iconst (-1), 1) := by decide +kernel
theorem dX0_add_10 : decode cX0_add 10 = .ok (.ireturn, 1) := by decide +kernel
theorem dX0_add_11 : decode cX0_add 11 = .ok (.aload_n 0, 1) := by decide +kernel
theorem dX0_add_12 : decode cX0_add 12 = .ok (.dup, 1) := by decide +kernel
theorem dX0_add_13 : decode cX0_add 13 = .ok (.getfield 30, 3) := by decide +kernel
theorem dX0_add_16 : decode cX0_add 16 = .ok (.iconst 1, 1) := by decide +kernel
theorem dX0_add_17 : decode cX0_add 17 = .ok (.iadd, 1) := by decide +kernel
theorem dX0_add_18 : decode cX0_add 18 = .ok (.putfield 30, 3) := by decide +kernel
theorem dX0_add_21 : decode cX0_add 21 = .ok (.aload_n 0, 1) := by decide +kernel
theorem dX0_add_22 : decode cX0_add 22 = .ok (.getfield 11, 3) := by decide +kernel
theorem dX0_add_25 : decode cX0_add 25 = .ok (.aload_n 0, 1) := by decide +kernel
theorem dX0_add_26 : decode cX0_add 26 = .ok (.getfield 30, 3) := by decide +kernel
theorem dX0_add_29 : decode cX0_add 29 = .ok (.iload_n 1, 1) := by decide +kernel
theorem dX0_add_30 : decode cX0_add 30 = .ok (.iastore, 1) := by decide +kernel
theorem dX0_add_31 : decode cX0_add 31 = .ok (.aload_n 0, 1) := by decide +kernel
theorem dX0_add_32 : decode cX0_add 32 = .ok (.getfield 15, 3) := by decide +kernel
theorem dX0_add_35 : decode cX0_add 35 = .ok (.aload_n 0, 1) := by decide +kernel
theorem dX0_add_36 : decode cX0_add 36 = .ok (.getfield 30, 3) := by decide +kernel
theorem dX0_add_39 : decode cX0_add 39 = .ok (.iload_n 2, 1) := by decide +kernel
theorem dX0_add_40 : decode cX0_add 40 = .ok (.iastore, 1) := by decide +kernel
theorem dX0_add_41 : decode cX0_add 41 = .ok (.aload_n 0, 1) := by decide +kernel
theorem dX0_add_42 : decode cX0_add 42 = .ok (.getfield 18, 3) := by decide +kernel
theorem dX0_add_45 : decode cX0_add 45 = .ok (.aload_n 0, 1) := by decide +kernel
theorem dX0_add_46 : decode cX0_add 46 = .ok (.getfield 30, 3) := by decide +kernel
theorem dX0_add_49 : decode cX0_add 49 = .ok (.iload_n 3, 1) := by decide +kernel
theorem dX0_add_50 : decode cX0_add 50 = .ok (.iastore, 1) := by decide +kernel
theorem dX0_add_51 : decode cX0_add 51 = .ok (.aload_n 0, 1) := by decide +kernel
theorem dX0_add_52 : decode cX0_add 52 = .ok (.getfield 21, 3) := by decide +kernel
theorem dX0_add_55 : decode cX0_add 55 = .ok (.aload_n 0, 1) := by decide +kernel
theorem dX0_add_56 : decode cX0_add 56 = .ok (.getfield 30, 3) := by decide +kernel
theorem dX0_add_59 : decode cX0_add 59 = .ok (.iload 4, 2) := by decide +kernel
theorem dX0_add_61 : decode cX0_add 61 = .ok (.iastore, 1) := by decide +kernel
theorem dX0_add_62 : decode cX0_add 62 = .ok (.aload_n 0, 1) := by decide +kernel
theorem dX0_add_63 : decode cX0_add 63 = .ok (.getfield 24, 3) := by decide +kernel
theorem dX0_add_66 : decode cX0_add 66 = .ok (.aload_n 0, 1) := by decide +kernel
theorem dX0_add_67 : decode cX0_add 67 = .ok (.getfield 30, 3) := by decide +kernel
theorem dX0_add_70 : decode cX0_add 70 = .ok (.iload 5, 2) := by decide +kernel
theorem dX0_add_72 : decode cX0_add 72 = .ok (.iastore, 1) := by decide +kernel
theorem dX0_add_73 : decode cX0_add 73 = .ok (.aload_n 0, 1) := by decide +kernel
theorem dX0_add_74 : decode cX0_add 74 = .ok (.getfield 27, 3) := by decide +kernel
theorem dX0_add_77 : decode cX0_add 77 = .ok (.aload_n 0, 1) := by decide +kernel
theorem dX0_add_78 : decode cX0_add 78 = .ok (.getfield 30, 3) := by decide +kernel
theorem dX0_add_81 : decode cX0_add 81 = .ok (.iconst 0, 1) := by decide +kernel
theorem dX0_add_82 : decode cX0_add 82 = .ok (.iastore, 1) := by decide +kernel
theorem dX0_add_83 : decode cX0_add 83 = .ok (.aload_n 0, 1) := by decide +kernel
theorem dX0_add_84 : decode cX0_add 84 = .ok (.getfield 30, 3) := by decide +kernel
theorem dX0_add_87 : decode cX0_add 87 = .ok (.ireturn, 1) := by decide +kernel
theorem dX0_canVoid_0 : decode cX0_canVoid 0 = .ok (.iload_n 1, 1) := by decide +kernel
theorem dX0_canVoid_1 : decode cX0_canVoid 1 = .ok (.iconst 1, 1) := by decide +kernel
theorem dX0_canVoid_2 : decode cX0_canVoid 2 = .ok (.if_icmp .lt 34, 3) := by decide +kernel
theorem dX0_canVoid_5 : decode cX0_canVoid 5 = .ok (.iload_n 1, 1) := by decide +kernel
theorem dX0_canVoid_6 : decode cX0_canVoid 6 = .ok (.aload_n 0, 1) := by decide +kernel
theorem dX0_canVoid_7 : decode cX0_canVoid 7 = .ok (.getfield 30, 3) := by decide +kernel
theorem dX0_canVoid_10 : decode cX0_canVoid 10 = .ok (.if_icmp .gt 26, 3) := by decide +kernel
theorem dX0_canVoid_13 : decode cX0_canVoid 13 = .ok (.aload_n 0, 1) := by decide +kernel
theorem dX0_canVoid_14 : decode cX0_canVoid 14 = .ok (.getfield 11, 3) := by decide +kernel
theorem dX0_canVoid_17 : decode cX0_canVoid 17 = .ok (.iload_n 1, 1) := by decide +kernel
theorem dX0_canVoid_18 : decode cX0_canVoid 18 = .ok (.iaload, 1) := by decide +kernel
theorem dX0_canVoid_19 : decode cX0_canVoid 19 = .ok (.iconst 4, 1) := by decide +kernel
theorem dX0_canVoid_20 : decode cX0_canVoid 20 = .ok (.if_icmp .eq 16, 3) := by decide +kernel
theorem dX0_canVoid_23 : decode cX0_canVoid 23 = .ok (.aload_n 0, 1) := by decide +kernel
theorem dX0_canVoid_24 : decode cX0_canVoid 24 = .ok (.getfield 27, 3) := by decide +kernel
theorem dX0_canVoid_27 : decode cX0_canVoid 27 = .ok (.iload_n 1, 1) := by decide +kernel
theorem dX0_canVoid_28 : decode cX0_canVoid 28 = .ok (.iaload, 1) := by decide +kernel
theorem dX0_canVoid_29 : decode cX0_canVoid 29 = .ok (.ifCond .ne 7, 3) := by decide +kernel
theorem dX0_canVoid_32 : decode cX0_canVoid 32 = .ok (.iconst 1, 1) := by decide +kernel
theorem dX0_canVoid_33 : decode cX0_canVoid 33 = .ok (.goto 4, 3) := by decide +kernel
theorem dX0_canVoid_36 : decode cX0_canVoid 36 = .ok (.iconst 0, 1) := by decide +kernel
theorem dX0_canVoid_37 : decode cX0_canVoid 37 = .ok (.ireturn, 1) := by decide +kernel
theorem dX0_addVoid_0 : decode cX0_addVoid 0 = .ok (.aload_n 0, 1) := by decide +kernel
theorem dX0_addVoid_1 : decode cX0_addVoid 1 = .ok (.iconst 4, 1) := by decide +kernel
theorem dX0_addVoid_2 : decode cX0_addVoid 2 = .ok (.iload_n 1, 1) := by decide +kernel
theorem dX0_addVoid_3 : decode cX0_addVoid 3 = .ok (.iconst 0, 1) := by decide +kernel
theorem dX0_addVoid_4 : decode cX0_addVoid 4 = .ok (.iconst 0, 1) := by decide +kernel
theorem dX0_addVoid_5 : decode cX0_addVoid 5 = .ok (.iconst 0, 1) := by decide +kernel
theorem dX0_addVoid_6 : decode cX0_addVoid 6 = .ok (.invokevirtual 34, 3) := by decide +kernel
theorem dX0_addVoid_9 : decode cX0_addVoid 9 = .ok (.istore_n 2, 1) := by decide +kernel
theorem dX0_addVoid_10 : decode cX0_addVoid 10 = .ok (.iload_n 2, 1) := by decide +kernel
theorem dX0_addVoid_11 : decode cX0_addVoid 11 = .ok (.iconst (-1), 1) := by decide +kernel
theorem dX0_addVoid_12 : decode cX0_addVoid 12 = .ok (.if_icmp .eq 10, 3) := by decide +kernel
theorem dX0_addVoid_15 : decode cX0_addVoid 15 = .ok (.aload_n 0, 1) := by decide +kernel
theorem dX0_addVoid_16 : decode cX0_addVoid 16 = .ok (.getfield 27, 3) := by decide +kernel
theorem dX0_addVoid_19 : decode cX0_addVoid 19 = .ok (.iload_n 1, 1) := by decide +kernel
theorem dX0_addVoid_20 : decode cX0_addVoid 20 = .ok (.iload_n 2, 1) := by decide +kernel
theorem dX0_addVoid_21 : decode cX0_addVoid 21 = .ok (.iastore, 1) := by decide +kernel
theorem dX0_addVoid_22 : decode cX0_addVoid 22 = .ok (.iload_n 2, 1) := by decide +kernel
theorem dX0_addVoid_23 : decode cX0_addVoid 23 = .ok (.ireturn, 1) := by decide +kernel
theorem dX0_stands_0 : decode cX0_stands 0 = .ok (.aload_n 0, 1) := by decide +kernel
theorem dX0_stands_1 : decode cX0_stands 1 = .ok (.getfield 27, 3) := by decide +kernel
theorem dX0_stands_4 : decode cX0_stands 4 = .ok (.iload_n 1, 1) := by decide +kernel
theorem dX0_stands_5 : decode cX0_stands 5 = .ok (.iaload, 1) := by decide +kernel
theorem dX0_stands_6 : decode cX0_stands 6 = .ok (.ifCond .eq 13, 3) := by decide +kernel
theorem dX0_stands_9 : decode cX0_stands 9 = .ok (.aload_n 0, 1) := by decide +kernel
theorem dX0_stands_10 : decode cX0_stands 10 = .ok (.getfield 27, 3) := by decide +kernel
theorem dX0_stands_13 : decode cX0_stands 13 = .ok (.iload_n 1, 1) := by decide +kernel
theorem dX0_stands_14 : decode cX0_stands 14 = .ok (.iaload, 1) := by decide +kernel
theorem dX0_stands_15 : decode cX0_stands 15 = .ok (.iload_n 2, 1) := by decide +kernel
theorem dX0_stands_16 : decode cX0_stands 16 = .ok (.if_icmp .le 7, 3) := by decide +kernel
theorem dX0_stands_19 : decode cX0_stands 19 = .ok (.iconst 1, 1) := by decide +kernel
theorem dX0_stands_20 : decode cX0_stands 20 = .ok (.goto 4, 3) := by decide +kernel
theorem dX0_stands_23 : decode cX0_stands 23 = .ok (.iconst 0, 1) := by decide +kernel
theorem dX0_stands_24 : decode cX0_stands 24 = .ok (.ireturn, 1) := by decide +kernel
theorem dX0_roundsOf_0 : decode cX0_roundsOf 0 = .ok (.aload_n 0, 1) := by decide +kernel
theorem dX0_roundsOf_1 : decode cX0_roundsOf 1 = .ok (.getfield 11, 3) := by decide +kernel
theorem dX0_roundsOf_4 : decode cX0_roundsOf 4 = .ok (.iload_n 1, 1) := by decide +kernel
theorem dX0_roundsOf_5 : decode cX0_roundsOf 5 = .ok (.iaload, 1) := by decide +kernel
theorem dX0_roundsOf_6 : decode cX0_roundsOf 6 = .ok (.iconst 2, 1) := by decide +kernel
theorem dX0_roundsOf_7 : decode cX0_roundsOf 7 = .ok (.if_icmp .ne 12, 3) := by decide +kernel
theorem dX0_roundsOf_10 : decode cX0_roundsOf 10 = .ok (.aload_n 0, 1) := by decide +kernel
theorem dX0_roundsOf_11 : decode cX0_roundsOf 11 = .ok (.getfield 15, 3) := by decide +kernel
theorem dX0_roundsOf_14 : decode cX0_roundsOf 14 = .ok (.iload_n 1, 1) := by decide +kernel
theorem dX0_roundsOf_15 : decode cX0_roundsOf 15 = .ok (.iaload, 1) := by decide +kernel
theorem dX0_roundsOf_16 : decode cX0_roundsOf 16 = .ok (.goto 4, 3) := by decide +kernel
theorem dX0_roundsOf_19 : decode cX0_roundsOf 19 = .ok (.iconst 0, 1) := by decide +kernel
theorem dX0_roundsOf_20 : decode cX0_roundsOf 20 = .ok (.ireturn, 1) := by decide +kernel
theorem dX0_goesOn_0 : decode cX0_goesOn 0 = .ok (.iload_n 1, 1) := by decide +kernel
theorem dX0_goesOn_1 : decode cX0_goesOn 1 = .ok (.iload_n 2, 1) := by decide +kernel
theorem dX0_goesOn_2 : decode cX0_goesOn 2 = .ok (.if_icmp .le 5, 3) := by decide +kernel
theorem dX0_goesOn_5 : decode cX0_goesOn 5 = .ok (.iconst 0, 1) := by decide +kernel
theorem dX0_goesOn_6 : decode cX0_goesOn 6 = .ok (.ireturn, 1) := by decide +kernel
theorem dX0_goesOn_7 : decode cX0_goesOn 7 = .ok (.iload_n 1, 1) := by decide +kernel
theorem dX0_goesOn_8 : decode cX0_goesOn 8 = .ok (.iconst 1, 1) := by decide +kernel
theorem dX0_goesOn_9 : decode cX0_goesOn 9 = .ok (.iadd, 1) := by decide +kernel
theorem dX0_goesOn_10 : decode cX0_goesOn 10 = .ok (.istore_n 3, 1) := by decide +kernel
theorem dX0_goesOn_11 : decode cX0_goesOn 11 = .ok (.iload_n 3, 1) := by decide +kernel
theorem dX0_goesOn_12 : decode cX0_goesOn 12 = .ok (.iload_n 2, 1) := by decide +kernel
theorem dX0_goesOn_13 : decode cX0_goesOn 13 = .ok (.if_icmp .gt 39, 3) := by decide +kernel
theorem dX0_goesOn_16 : decode cX0_goesOn 16 = .ok (.iload_n 3, 1) := by decide +kernel
theorem dX0_goesOn_17 : decode cX0_goesOn 17 = .ok (.aload_n 0, 1) := by decide +kernel
theorem dX0_goesOn_18 : decode cX0_goesOn 18 = .ok (.getfield 30, 3) := by decide +kernel
theorem dX0_goesOn_21 : decode cX0_goesOn 21 = .ok (.if_icmp .gt 31, 3) := by decide +kernel
theorem dX0_goesOn_24 : decode cX0_goesOn 24 = .ok (.aload_n 0, 1) := by decide +kernel
theorem dX0_goesOn_25 : decode cX0_goesOn 25 = .ok (.getfield 11, 3) := by decide +kernel
theorem dX0_goesOn_28 : decode cX0_goesOn 28 = .ok (.iload_n 3, 1) := by decide +kernel
theorem dX0_goesOn_29 : decode cX0_goesOn 29 = .ok (.iaload, 1) := by decide +kernel
theorem dX0_goesOn_30 : decode cX0_goesOn 30 = .ok (.iconst 4, 1) := by decide +kernel
theorem dX0_goesOn_31 : decode cX0_goesOn 31 = .ok (.if_icmp .ne 15, 3) := by decide +kernel
theorem dX0_goesOn_34 : decode cX0_goesOn 34 = .ok (.aload_n 0, 1) := by decide +kernel
theorem dX0_goesOn_35 : decode cX0_goesOn 35 = .ok (.getfield 15, 3) := by decide +kernel
theorem dX0_goesOn_38 : decode cX0_goesOn 38 = .ok (.iload_n 3, 1) := by decide +kernel
theorem dX0_goesOn_39 : decode cX0_goesOn 39 = .ok (.iaload, 1) := by decide +kernel
theorem dX0_goesOn_40 : decode cX0_goesOn 40 = .ok (.iload_n 1, 1) := by decide +kernel
theorem dX0_goesOn_41 : decode cX0_goesOn 41 = .ok (.if_icmp .gt 5, 3) := by decide +kernel
theorem dX0_goesOn_44 : decode cX0_goesOn 44 = .ok (.iconst 0, 1) := by decide +kernel
theorem dX0_goesOn_45 : decode cX0_goesOn 45 = .ok (.ireturn, 1) := by decide +kernel
theorem dX0_goesOn_46 : decode cX0_goesOn 46 = .ok (.iinc 3 1, 3) := by decide +kernel
theorem dX0_goesOn_49 : decode cX0_goesOn 49 = .ok (.goto (-38), 3) := by decide +kernel
theorem dX0_goesOn_52 : decode cX0_goesOn 52 = .ok (.iconst 1, 1) := by decide +kernel
theorem dX0_goesOn_53 : decode cX0_goesOn 53 = .ok (.ireturn, 1) := by decide +kernel
theorem dX1_init_0 : decode cX1_init 0 = .ok (.aload_n 0, 1) := by decide +kernel
theorem dX1_init_1 : decode cX1_init 1 = .ok (.invokespecial 3, 3) := by decide +kernel
theorem dX1_init_4 : decode cX1_init 4 = .ok (.aload_n 0, 1) := by decide +kernel
theorem dX1_init_5 : decode cX1_init 5 = .ok (.bipush 64, 2) := by decide +kernel
theorem dX1_init_7 : decode cX1_init 7 = .ok (.newarray .int, 2) := by decide +kernel
theorem dX1_init_9 : decode cX1_init 9 = .ok (.putfield 9, 3) := by decide +kernel
theorem dX1_init_12 : decode cX1_init 12 = .ok (.aload_n 0, 1) := by decide +kernel
theorem dX1_init_13 : decode cX1_init 13 = .ok (.bipush 64, 2) := by decide +kernel
theorem dX1_init_15 : decode cX1_init 15 = .ok (.newarray .int, 2) := by decide +kernel
theorem dX1_init_17 : decode cX1_init 17 = .ok (.putfield 15, 3) := by decide +kernel
theorem dX1_init_20 : decode cX1_init 20 = .ok (.aload_n 0, 1) := by decide +kernel
theorem dX1_init_21 : decode cX1_init 21 = .ok (.bipush 64, 2) := by decide +kernel
theorem dX1_init_23 : decode cX1_init 23 = .ok (.newarray .int, 2) := by decide +kernel
theorem dX1_init_25 : decode cX1_init 25 = .ok (.putfield 18, 3) := by decide +kernel
theorem dX1_init_28 : decode cX1_init 28 = .ok (.aload_n 0, 1) := by decide +kernel
theorem dX1_init_29 : decode cX1_init 29 = .ok (.bipush 64, 2) := by decide +kernel
theorem dX1_init_31 : decode cX1_init 31 = .ok (.newarray .int, 2) := by decide +kernel
theorem dX1_init_33 : decode cX1_init 33 = .ok (.putfield 21, 3) := by decide +kernel
theorem dX1_init_36 : decode cX1_init 36 = .ok (.aload_n 0, 1) := by decide +kernel
theorem dX1_init_37 : decode cX1_init 37 = .ok (.iconst 0, 1) := by decide +kernel
theorem dX1_init_38 : decode cX1_init 38 = .ok (.putfield 24, 3) := by decide +kernel
theorem dX1_init_41 : decode cX1_init 41 = .ok (.aload_n 0, 1) := by decide +kernel
theorem dX1_init_42 : decode cX1_init 42 = .ok (.iconst 1, 1) := by decide +kernel
theorem dX1_init_43 : decode cX1_init 43 = .ok (.putfield 28, 3) := by decide +kernel
theorem dX1_init_46 : decode cX1_init 46 = .ok (.aload_n 0, 1) := by decide +kernel
theorem dX1_init_47 : decode cX1_init 47 = .ok (.iconst 0, 1) := by decide +kernel
theorem dX1_init_48 : decode cX1_init 48 = .ok (.putfield 31, 3) := by decide +kernel
theorem dX1_init_51 : decode cX1_init 51 = .ok (.aload_n 0, 1) := by decide +kernel
theorem dX1_init_52 : decode cX1_init 52 = .ok (.iconst 0, 1) := by decide +kernel
theorem dX1_init_53 : decode cX1_init 53 = .ok (.putfield 34, 3) := by decide +kernel
theorem dX1_init_56 : decode cX1_init 56 = .ok (.return_, 1) := by decide +kernel
theorem dX1_take_0 : decode cX1_take 0 = .ok (.lload 5, 2) := by decide +kernel
theorem dX1_take_2 : decode cX1_take 2 = .ok (.lstore 7, 2) := by decide +kernel
theorem dX1_take_4 : decode cX1_take 4 = .ok (.aload_n 0, 1) := by decide +kernel
theorem dX1_take_5 : decode cX1_take 5 = .ok (.iconst 1, 1) := by decide +kernel
theorem dX1_take_6 : decode cX1_take 6 = .ok (.putfield 34, 3) := by decide +kernel
theorem dX1_take_9 : decode cX1_take 9 = .ok (.aload_n 0, 1) := by decide +kernel
theorem dX1_take_10 : decode cX1_take 10 = .ok (.aload_n 1, 1) := by decide +kernel
theorem dX1_take_11 : decode cX1_take 11 = .ok (.getfield 38, 3) := by decide +kernel
theorem dX1_take_14 : decode cX1_take 14 = .ok (.putfield 24, 3) := by decide +kernel
theorem dX1_take_17 : decode cX1_take 17 = .ok (.aload_n 0, 1) := by decide +kernel
theorem dX1_take_18 : decode cX1_take 18 = .ok (.aload_n 1, 1) := by decide +kernel
theorem dX1_take_19 : decode cX1_take 19 = .ok (.getfield 41, 3) := by decide +kernel
theorem dX1_take_22 : decode cX1_take 22 = .ok (.putfield 28, 3) := by decide +kernel
theorem dX1_take_25 : decode cX1_take 25 = .ok (.aload_n 0, 1) := by decide +kernel
theorem dX1_take_26 : decode cX1_take 26 = .ok (.iconst 0, 1) := by decide +kernel
theorem dX1_take_27 : decode cX1_take 27 = .ok (.putfield 31, 3) := by decide +kernel
theorem dX1_take_30 : decode cX1_take 30 = .ok (.iconst 0, 1) := by decide +kernel
theorem dX1_take_31 : decode cX1_take 31 = .ok (.istore 9, 2) := by decide +kernel
theorem dX1_take_33 : decode cX1_take 33 = .ok (.iload 9, 2) := by decide +kernel
theorem dX1_take_35 : decode cX1_take 35 = .ok (.aload_n 0, 1) := by decide +kernel
theorem dX1_take_36 : decode cX1_take 36 = .ok (.getfield 24, 3) := by decide +kernel
theorem dX1_take_39 : decode cX1_take 39 = .ok (.if_icmp .ge 154, 3) := by decide +kernel
theorem dX1_take_42 : decode cX1_take 42 = .ok (.aload_n 0, 1) := by decide +kernel
theorem dX1_take_43 : decode cX1_take 43 = .ok (.getfield 9, 3) := by decide +kernel
theorem dX1_take_46 : decode cX1_take 46 = .ok (.iload 9, 2) := by decide +kernel
theorem dX1_take_48 : decode cX1_take 48 = .ok (.iconst (-1), 1) := by decide +kernel
theorem dX1_take_49 : decode cX1_take 49 = .ok (.iastore, 1) := by decide +kernel
theorem dX1_take_50 : decode cX1_take 50 = .ok (.aload_n 1, 1) := by decide +kernel
theorem dX1_take_51 : decode cX1_take 51 = .ok (.iload 9, 2) := by decide +kernel
theorem dX1_take_53 : decode cX1_take 53 = .ok (.invokevirtual 42, 3) := by decide +kernel
theorem dX1_take_56 : decode cX1_take 56 = .ok (.ifCond .eq 131, 3) := by decide +kernel
theorem dX1_take_59 : decode cX1_take 59 = .ok (.ldc2_w 46, 3) := by decide +kernel
theorem dX1_take_62 : decode cX1_take 62 = .ok (.lload 7, 2) := by decide +kernel
theorem dX1_take_64 : decode cX1_take 64 = .ok (.lmul, 1) := by decide +kernel
theorem dX1_take_65 : decode cX1_take 65 = .ok (.ldc2_w 48, 3) := by decide +kernel
theorem dX1_take_68 : decode cX1_take 68 = .ok (.ladd, 1) := by decide +kernel
theorem dX1_take_69 : decode cX1_take 69 = .ok (.ldc2_w 50, 3) := by decide +kernel
theorem dX1_take_72 : decode cX1_take 72 = .ok (.lrem, 1) := by decide +kernel
theorem dX1_take_73 : decode cX1_take 73 = .ok (.lstore 7, 2) := by decide +kernel
theorem dX1_take_75 : decode cX1_take 75 = .ok (.lload 7, 2) := by decide +kernel
theorem dX1_take_77 : decode cX1_take 77 = .ok (.ldc2_w 52, 3) := by decide +kernel
theorem dX1_take_80 : decode cX1_take 80 = .ok (.ldiv, 1) := by decide +kernel
theorem dX1_take_81 : decode cX1_take 81 = .ok (.ldc2_w 54, 3) := by decide +kernel
theorem dX1_take_84 : decode cX1_take 84 = .ok (.lrem, 1) := by decide +kernel
theorem dX1_take_85 : decode cX1_take 85 = .ok (.aload_n 1, 1) := by decide +kernel
theorem dX1_take_86 : decode cX1_take 86 = .ok (.aload_n 2, 1) := by decide +kernel
theorem dX1_take_87 : decode cX1_take 87 = .ok (.iload 9, 2) := by decide +kernel
theorem dX1_take_89 : decode cX1_take 89 = .ok (.iload_n 3, 1) := by decide +kernel
theorem dX1_take_90 : decode cX1_take 90 = .ok (.iload 4, 2) := by decide +kernel
theorem dX1_take_92 : decode cX1_take 92 = .ok (.invokevirtual 56, 3) := by decide +kernel
theorem dX1_take_95 : decode cX1_take 95 = .ok (.i2l, 1) := by decide +kernel
theorem dX1_take_96 : decode cX1_take 96 = .ok (.lcmp, 1) := by decide +kernel
theorem dX1_take_97 : decode cX1_take 97 = .ok (.ifCond .ge 7, 3) := by decide +kernel
theorem dX1_take_100 : decode cX1_take 100 = .ok (.iconst 1, 1) := by decide +kernel
theorem dX1_take_101 : decode cX1_take 101 = .ok (.goto 4, 3) := by decide +kernel
theorem dX1_take_104 : decode cX1_take 104 = .ok (.iconst 0, 1) := by decide +kernel
theorem dX1_take_105 : decode cX1_take 105 = .ok (.istore 10, 2) := by decide +kernel
theorem dX1_take_107 : decode cX1_take 107 = .ok (.aload_n 0, 1) := by decide +kernel
theorem dX1_take_108 : decode cX1_take 108 = .ok (.getfield 9, 3) := by decide +kernel
theorem dX1_take_111 : decode cX1_take 111 = .ok (.iload 9, 2) := by decide +kernel
theorem dX1_take_113 : decode cX1_take 113 = .ok (.iload 10, 2) := by decide +kernel
theorem dX1_take_115 : decode cX1_take 115 = .ok (.ifCond .eq 7, 3) := by decide +kernel
theorem dX1_take_118 : decode cX1_take 118 = .ok (.iconst 1, 1) := by decide +kernel
theorem dX1_take_119 : decode cX1_take 119 = .ok (.goto 4, 3) := by decide +kernel
theorem dX1_take_122 : decode cX1_take 122 = .ok (.iconst 0, 1) := by decide +kernel
theorem dX1_take_123 : decode cX1_take 123 = .ok (.iastore, 1) := by decide +kernel
theorem dX1_take_124 : decode cX1_take 124 = .ok (.aload_n 0, 1) := by decide +kernel
theorem dX1_take_125 : decode cX1_take 125 = .ok (.dup, 1) := by decide +kernel
theorem dX1_take_126 : decode cX1_take 126 = .ok (.getfield 31, 3) := by decide +kernel
theorem dX1_take_129 : decode cX1_take 129 = .ok (.aload_n 0, 1) := by decide +kernel
theorem dX1_take_130 : decode cX1_take 130 = .ok (.getfield 9, 3) := by decide +kernel
theorem dX1_take_133 : decode cX1_take 133 = .ok (.iload 9, 2) := by decide +kernel
theorem dX1_take_135 : decode cX1_take 135 = .ok (.iaload, 1) := by decide +kernel
theorem dX1_take_136 : decode cX1_take 136 = .ok (.iadd, 1) := by decide +kernel
theorem dX1_take_137 : decode cX1_take 137 = .ok (.putfield 31, 3) := by decide +kernel
theorem dX1_take_140 : decode cX1_take 140 = .ok (.aload_n 0, 1) := by decide +kernel
theorem dX1_take_141 : decode cX1_take 141 = .ok (.getfield 15, 3) := by decide +kernel
theorem dX1_take_144 : decode cX1_take 144 = .ok (.iload 9, 2) := by decide +kernel
theorem dX1_take_146 : decode cX1_take 146 = .ok (.aload_n 1, 1) := by decide +kernel
theorem dX1_take_147 : decode cX1_take 147 = .ok (.aload_n 2, 1) := by decide +kernel
theorem dX1_take_148 : decode cX1_take 148 = .ok (.iload 9, 2) := by decide +kernel
theorem dX1_take_150 : decode cX1_take 150 = .ok (.invokevirtual 60, 3) := by decide +kernel
theorem dX1_take_153 : decode cX1_take 153 = .ok (.iastore, 1) := by decide +kernel
theorem dX1_take_154 : decode cX1_take 154 = .ok (.aload_n 0, 1) := by decide +kernel
theorem dX1_take_155 : decode cX1_take 155 = .ok (.getfield 18, 3) := by decide +kernel
theorem dX1_take_158 : decode cX1_take 158 = .ok (.iload 9, 2) := by decide +kernel
theorem dX1_take_160 : decode cX1_take 160 = .ok (.aload_n 1, 1) := by decide +kernel
theorem dX1_take_161 : decode cX1_take 161 = .ok (.getfield 64, 3) := by decide +kernel
theorem dX1_take_164 : decode cX1_take 164 = .ok (.iload 9, 2) := by decide +kernel
theorem dX1_take_166 : decode cX1_take 166 = .ok (.iaload, 1) := by decide +kernel
theorem dX1_take_167 : decode cX1_take 167 = .ok (.iastore, 1) := by decide +kernel
theorem dX1_take_168 : decode cX1_take 168 = .ok (.aload_n 0, 1) := by decide +kernel
theorem dX1_take_169 : decode cX1_take 169 = .ok (.getfield 21, 3) := by decide +kernel
theorem dX1_take_172 : decode cX1_take 172 = .ok (.iload 9, 2) := by decide +kernel
theorem dX1_take_174 : decode cX1_take 174 = .ok (.aload_n 2, 1) := by decide +kernel
theorem dX1_take_175 : decode cX1_take 175 = .ok (.aload_n 1, 1) := by decide +kernel
theorem dX1_take_176 : decode cX1_take 176 = .ok (.getfield 65, 3) := by decide +kernel
theorem dX1_take_179 : decode cX1_take 179 = .ok (.iload 9, 2) := by decide +kernel
theorem dX1_take_181 : decode cX1_take 181 = .ok (.iaload, 1) := by decide +kernel
theorem dX1_take_182 : decode cX1_take 182 = .ok (.iconst 1, 1) := by decide +kernel
theorem dX1_take_183 : decode cX1_take 183 = .ok (.invokevirtual 70, 3) := by decide +kernel
theorem dX1_take_186 : decode cX1_take 186 = .ok (.iastore, 1) := by decide +kernel
theorem dX1_take_187 : decode cX1_take 187 = .ok (.iinc 9 1, 3) := by decide +kernel
theorem dX1_take_190 : decode cX1_take 190 = .ok (.goto (-157), 3) := by decide +kernel
theorem dX1_take_193 : decode cX1_take 193 = .ok (.lload 7, 2) := by decide +kernel
theorem dX1_take_195 : decode cX1_take 195 = .ok (.lreturn, 1) := by decide +kernel
theorem dX2_init_0 : decode cX2_init 0 = .ok (.aload_n 0, 1) := by decide +kernel
theorem dX2_init_1 : decode cX2_init 1 = .ok (.invokespecial 3, 3) := by decide +kernel
theorem dX2_init_4 : decode cX2_init 4 = .ok (.aload_n 0, 1) := by decide +kernel
theorem dX2_init_5 : decode cX2_init 5 = .ok (.bipush 64, 2) := by decide +kernel
theorem dX2_init_7 : decode cX2_init 7 = .ok (.newarray .int, 2) := by decide +kernel
theorem dX2_init_9 : decode cX2_init 9 = .ok (.putfield 9, 3) := by decide +kernel
theorem dX2_init_12 : decode cX2_init 12 = .ok (.aload_n 0, 1) := by decide +kernel
theorem dX2_init_13 : decode cX2_init 13 = .ok (.bipush 64, 2) := by decide +kernel
theorem dX2_init_15 : decode cX2_init 15 = .ok (.newarray .int, 2) := by decide +kernel
theorem dX2_init_17 : decode cX2_init 17 = .ok (.putfield 15, 3) := by decide +kernel
theorem dX2_init_20 : decode cX2_init 20 = .ok (.aload_n 0, 1) := by decide +kernel
theorem dX2_init_21 : decode cX2_init 21 = .ok (.bipush 64, 2) := by decide +kernel
theorem dX2_init_23 : decode cX2_init 23 = .ok (.newarray .int, 2) := by decide +kernel
theorem dX2_init_25 : decode cX2_init 25 = .ok (.putfield 18, 3) := by decide +kernel
theorem dX2_init_28 : decode cX2_init 28 = .ok (.aload_n 0, 1) := by decide +kernel
theorem dX2_init_29 : decode cX2_init 29 = .ok (.bipush 64, 2) := by decide +kernel
theorem dX2_init_31 : decode cX2_init 31 = .ok (.newarray .int, 2) := by decide +kernel
theorem dX2_init_33 : decode cX2_init 33 = .ok (.putfield 21, 3) := by decide +kernel
theorem dX2_init_36 : decode cX2_init 36 = .ok (.aload_n 0, 1) := by decide +kernel
theorem dX2_init_37 : decode cX2_init 37 = .ok (.bipush 64, 2) := by decide +kernel
theorem dX2_init_39 : decode cX2_init 39 = .ok (.newarray .int, 2) := by decide +kernel
theorem dX2_init_41 : decode cX2_init 41 = .ok (.putfield 24, 3) := by decide +kernel
theorem dX2_init_44 : decode cX2_init 44 = .ok (.aload_n 0, 1) := by decide +kernel
theorem dX2_init_45 : decode cX2_init 45 = .ok (.sipush 1200, 3) := by decide +kernel
theorem dX2_init_48 : decode cX2_init 48 = .ok (.newarray .int, 2) := by decide +kernel
theorem dX2_init_50 : decode cX2_init 50 = .ok (.putfield 29, 3) := by decide +kernel
theorem dX2_init_53 : decode cX2_init 53 = .ok (.aload_n 0, 1) := by decide +kernel
theorem dX2_init_54 : decode cX2_init 54 = .ok (.new 32, 3) := by decide +kernel
theorem dX2_init_57 : decode cX2_init 57 = .ok (.dup, 1) := by decide +kernel
theorem dX2_init_58 : decode cX2_init 58 = .ok (.invokespecial 34, 3) := by decide +kernel
theorem dX2_init_61 : decode cX2_init 61 = .ok (.putfield 35, 3) := by decide +kernel
theorem dX2_init_64 : decode cX2_init 64 = .ok (.aload_n 0, 1) := by decide +kernel
theorem dX2_init_65 : decode cX2_init 65 = .ok (.new 39, 3) := by decide +kernel
theorem dX2_init_68 : decode cX2_init 68 = .ok (.dup, 1) := by decide +kernel
theorem dX2_init_69 : decode cX2_init 69 = .ok (.invokespecial 41, 3) := by decide +kernel
theorem dX2_init_72 : decode cX2_init 72 = .ok (.putfield 42, 3) := by decide +kernel
theorem dX2_init_75 : decode cX2_init 75 = .ok (.aload_n 0, 1) := by decide +kernel
theorem dX2_init_76 : decode cX2_init 76 = .ok (.iconst 0, 1) := by decide +kernel
theorem dX2_init_77 : decode cX2_init 77 = .ok (.putfield 46, 3) := by decide +kernel
theorem dX2_init_80 : decode cX2_init 80 = .ok (.aload_n 0, 1) := by decide +kernel
theorem dX2_init_81 : decode cX2_init 81 = .ok (.iconst 1, 1) := by decide +kernel
theorem dX2_init_82 : decode cX2_init 82 = .ok (.putfield 50, 3) := by decide +kernel
theorem dX2_init_85 : decode cX2_init 85 = .ok (.aload_n 0, 1) := by decide +kernel
theorem dX2_init_86 : decode cX2_init 86 = .ok (.iconst 1, 1) := by decide +kernel
theorem dX2_init_87 : decode cX2_init 87 = .ok (.putfield 53, 3) := by decide +kernel
theorem dX2_init_90 : decode cX2_init 90 = .ok (.aload_n 0, 1) := by decide +kernel
theorem dX2_init_91 : decode cX2_init 91 = .ok (.iconst 0, 1) := by decide +kernel
theorem dX2_init_92 : decode cX2_init 92 = .ok (.putfield 56, 3) := by decide +kernel
theorem dX2_init_95 : decode cX2_init 95 = .ok (.return_, 1) := by decide +kernel
theorem dX2_begin_0 : decode cX2_begin 0 = .ok (.aload_n 0, 1) := by decide +kernel
theorem dX2_begin_1 : decode cX2_begin 1 = .ok (.iconst 1, 1) := by decide +kernel
theorem dX2_begin_2 : decode cX2_begin 2 = .ok (.iload_n 1, 1) := by decide +kernel
theorem dX2_begin_3 : decode cX2_begin 3 = .ok (.invokestatic 59, 3) := by decide +kernel
theorem dX2_begin_6 : decode cX2_begin 6 = .ok (.putfield 53, 3) := by decide +kernel
theorem dX2_begin_9 : decode cX2_begin 9 = .ok (.aload_n 0, 1) := by decide +kernel
theorem dX2_begin_10 : decode cX2_begin 10 = .ok (.bipush 64, 2) := by decide +kernel
theorem dX2_begin_12 : decode cX2_begin 12 = .ok (.aload_n 0, 1) := by decide +kernel
theorem dX2_begin_13 : decode cX2_begin 13 = .ok (.getfield 53, 3) := by decide +kernel
theorem dX2_begin_16 : decode cX2_begin 16 = .ok (.iload_n 2, 1) := by decide +kernel
theorem dX2_begin_17 : decode cX2_begin 17 = .ok (.imul, 1) := by decide +kernel
theorem dX2_begin_18 : decode cX2_begin 18 = .ok (.invokestatic 65, 3) := by decide +kernel
theorem dX2_begin_21 : decode cX2_begin 21 = .ok (.putfield 50, 3) := by decide +kernel
theorem dX2_begin_24 : decode cX2_begin 24 = .ok (.aload_n 0, 1) := by decide +kernel
theorem dX2_begin_25 : decode cX2_begin 25 = .ok (.invokevirtual 68, 3) := by decide +kernel
theorem dX2_begin_28 : decode cX2_begin 28 = .ok (.return_, 1) := by decide +kernel
theorem dX2_forget_0 : decode cX2_forget 0 = .ok (.aload_n 0, 1) := by decide +kernel
theorem dX2_forget_1 : decode cX2_forget 1 = .ok (.getfield 9, 3) := by decide +kernel
theorem dX2_forget_4 : decode cX2_forget 4 = .ok (.iconst (-1), 1) := by decide +kernel
theorem dX2_forget_5 : decode cX2_forget 5 = .ok (.invokestatic 71, 3) := by decide +kernel
theorem dX2_forget_8 : decode cX2_forget 8 = .ok (.aload_n 0, 1) := by decide +kernel
theorem dX2_forget_9 : decode cX2_forget 9 = .ok (.getfield 15, 3) := by decide +kernel
theorem dX2_forget_12 : decode cX2_forget 12 = .ok (.iconst 0, 1) := by decide +kernel
theorem dX2_forget_13 : decode cX2_forget 13 = .ok (.invokestatic 71, 3) := by decide +kernel
theorem dX2_forget_16 : decode cX2_forget 16 = .ok (.aload_n 0, 1) := by decide +kernel
theorem dX2_forget_17 : decode cX2_forget 17 = .ok (.getfield 18, 3) := by decide +kernel
theorem dX2_forget_20 : decode cX2_forget 20 = .ok (.iconst 0, 1) := by decide +kernel
theorem dX2_forget_21 : decode cX2_forget 21 = .ok (.invokestatic 71, 3) := by decide +kernel
theorem dX2_forget_24 : decode cX2_forget 24 = .ok (.aload_n 0, 1) := by decide +kernel
theorem dX2_forget_25 : decode cX2_forget 25 = .ok (.getfield 21, 3) := by decide +kernel
theorem dX2_forget_28 : decode cX2_forget 28 = .ok (.iconst 0, 1) := by decide +kernel
theorem dX2_forget_29 : decode cX2_forget 29 = .ok (.invokestatic 71, 3) := by decide +kernel
theorem dX2_forget_32 : decode cX2_forget 32 = .ok (.aload_n 0, 1) := by decide +kernel
theorem dX2_forget_33 : decode cX2_forget 33 = .ok (.getfield 24, 3) := by decide +kernel
theorem dX2_forget_36 : decode cX2_forget 36 = .ok (.iconst 0, 1) := by decide +kernel
theorem dX2_forget_37 : decode cX2_forget 37 = .ok (.invokestatic 71, 3) := by decide +kernel
theorem dX2_forget_40 : decode cX2_forget 40 = .ok (.aload_n 0, 1) := by decide +kernel
theorem dX2_forget_41 : decode cX2_forget 41 = .ok (.iconst 0, 1) := by decide +kernel
theorem dX2_forget_42 : decode cX2_forget 42 = .ok (.putfield 46, 3) := by decide +kernel
theorem dX2_forget_45 : decode cX2_forget 45 = .ok (.aload_n 0, 1) := by decide +kernel
theorem dX2_forget_46 : decode cX2_forget 46 = .ok (.iconst 0, 1) := by decide +kernel
theorem dX2_forget_47 : decode cX2_forget 47 = .ok (.putfield 56, 3) := by decide +kernel
theorem dX2_forget_50 : decode cX2_forget 50 = .ok (.return_, 1) := by decide +kernel
theorem dX2_follow_0 : decode cX2_follow 0 = .ok (.aload_n 1, 1) := by decide +kernel
theorem dX2_follow_1 : decode cX2_follow 1 = .ok (.getfield 77, 3) := by decide +kernel
theorem dX2_follow_4 : decode cX2_follow 4 = .ok (.iload_n 2, 1) := by decide +kernel
theorem dX2_follow_5 : decode cX2_follow 5 = .ok (.iaload, 1) := by decide +kernel
theorem dX2_follow_6 : decode cX2_follow 6 = .ok (.istore_n 3, 1) := by decide +kernel
theorem dX2_follow_7 : decode cX2_follow 7 = .ok (.aload_n 1, 1) := by decide +kernel
theorem dX2_follow_8 : decode cX2_follow 8 = .ok (.getfield 80, 3) := by decide +kernel
theorem dX2_follow_11 : decode cX2_follow 11 = .ok (.iload_n 2, 1) := by decide +kernel
theorem dX2_follow_12 : decode cX2_follow 12 = .ok (.iaload, 1) := by decide +kernel
theorem dX2_follow_13 : decode cX2_follow 13 = .ok (.istore 4, 2) := by decide +kernel
theorem dX2_follow_15 : decode cX2_follow 15 = .ok (.iload_n 3, 1) := by decide +kernel
theorem dX2_follow_16 : decode cX2_follow 16 = .ok (.iconst 3, 1) := by decide +kernel
theorem dX2_follow_17 : decode cX2_follow 17 = .ok (.if_icmp .ne 10, 3) := by decide +kernel
theorem dX2_follow_20 : decode cX2_follow 20 = .ok (.aload_n 0, 1) := by decide +kernel
theorem dX2_follow_21 : decode cX2_follow 21 = .ok (.invokevirtual 83, 3) := by decide +kernel
theorem dX2_follow_24 : decode cX2_follow 24 = .ok (.goto 80, 3) := by decide +kernel
theorem dX2_follow_27 : decode cX2_follow 27 = .ok (.iload_n 3, 1) := by decide +kernel
theorem dX2_follow_28 : decode cX2_follow 28 = .ok (.ifCond .ne 49, 3) := by decide +kernel
theorem dX2_follow_31 : decode cX2_follow 31 = .ok (.iload 4, 2) := by decide +kernel
theorem dX2_follow_33 : decode cX2_follow 33 = .ok (.aload_n 0, 1) := by decide +kernel
theorem dX2_follow_34 : decode cX2_follow 34 = .ok (.getfield 50, 3) := by decide +kernel
theorem dX2_follow_37 : decode cX2_follow 37 = .ok (.if_icmp .ge 40, 3) := by decide +kernel
theorem dX2_follow_40 : decode cX2_follow 40 = .ok (.aload_n 0, 1) := by decide +kernel
theorem dX2_follow_41 : decode cX2_follow 41 = .ok (.getfield 9, 3) := by decide +kernel
theorem dX2_follow_44 : decode cX2_follow 44 = .ok (.iload 4, 2) := by decide +kernel
theorem dX2_follow_46 : decode cX2_follow 46 = .ok (.aload_n 1, 1) := by decide +kernel
theorem dX2_follow_47 : decode cX2_follow 47 = .ok (.getfield 86, 3) := by decide +kernel
theorem dX2_follow_50 : decode cX2_follow 50 = .ok (.iload_n 2, 1) := by decide +kernel
theorem dX2_follow_51 : decode cX2_follow 51 = .ok (.iaload, 1) := by decide +kernel
theorem dX2_follow_52 : decode cX2_follow 52 = .ok (.iastore, 1) := by decide +kernel
theorem dX2_follow_53 : decode cX2_follow 53 = .ok (.aload_n 0, 1) := by decide +kernel
theorem dX2_follow_54 : decode cX2_follow 54 = .ok (.getfield 15, 3) := by decide +kernel
theorem dX2_follow_57 : decode cX2_follow 57 = .ok (.iload 4, 2) := by decide +kernel
theorem dX2_follow_59 : decode cX2_follow 59 = .ok (.aload_n 1, 1) := by decide +kernel
theorem dX2_follow_60 : decode cX2_follow 60 = .ok (.getfield 89, 3) := by decide +kernel
theorem dX2_follow_63 : decode cX2_follow 63 = .ok (.iload_n 2, 1) := by decide +kernel
theorem dX2_follow_64 : decode cX2_follow 64 = .ok (.iaload, 1) := by decide +kernel
theorem dX2_follow_65 : decode cX2_follow 65 = .ok (.iastore, 1) := by decide +kernel
theorem dX2_follow_66 : decode cX2_follow 66 = .ok (.aload_n 0, 1) := by decide +kernel
theorem dX2_follow_67 : decode cX2_follow 67 = .ok (.getfield 18, 3) := by decide +kernel
theorem dX2_follow_70 : decode cX2_follow 70 = .ok (.iload 4, 2) := by decide +kernel
theorem dX2_follow_72 : decode cX2_follow 72 = .ok (.iconst 0, 1) := by decide +kernel
theorem dX2_follow_73 : decode cX2_follow 73 = .ok (.iastore, 1) := by decide +kernel
theorem dX2_follow_74 : decode cX2_follow 74 = .ok (.goto 30, 3) := by decide +kernel
theorem dX2_follow_77 : decode cX2_follow 77 = .ok (.iload_n 3, 1) := by decide +kernel
theorem dX2_follow_78 : decode cX2_follow 78 = .ok (.iconst 1, 1) := by decide +kernel
theorem dX2_follow_79 : decode cX2_follow 79 = .ok (.if_icmp .ne 25, 3) := by decide +kernel
theorem dX2_follow_82 : decode cX2_follow 82 = .ok (.iload 4, 2) := by decide +kernel
theorem dX2_follow_84 : decode cX2_follow 84 = .ok (.aload_n 0, 1) := by decide +kernel
theorem dX2_follow_85 : decode cX2_follow 85 = .ok (.getfield 50, 3) := by decide +kernel
theorem dX2_follow_88 : decode cX2_follow 88 = .ok (.if_icmp .ge 16, 3) := by decide +kernel
theorem dX2_follow_91 : decode cX2_follow 91 = .ok (.aload_n 0, 1) := by decide +kernel
theorem dX2_follow_92 : decode cX2_follow 92 = .ok (.getfield 21, 3) := by decide +kernel
theorem dX2_follow_95 : decode cX2_follow 95 = .ok (.iload 4, 2) := by decide +kernel
theorem dX2_follow_97 : decode cX2_follow 97 = .ok (.aload_n 1, 1) := by decide +kernel
theorem dX2_follow_98 : decode cX2_follow 98 = .ok (.getfield 86, 3) := by decide +kernel
theorem dX2_follow_101 : decode cX2_follow 101 = .ok (.iload_n 2, 1) := by decide +kernel
theorem dX2_follow_102 : decode cX2_follow 102 = .ok (.iaload, 1) := by decide +kernel
theorem dX2_follow_103 : decode cX2_follow 103 = .ok (.iastore, 1) := by decide +kernel
theorem dX2_follow_104 : decode cX2_follow 104 = .ok (.return_, 1) := by decide +kernel
theorem dX2_rinse_0 : decode cX2_rinse 0 = .ok (.iconst 0, 1) := by decide +kernel
theorem dX2_rinse_1 : decode cX2_rinse 1 = .ok (.istore_n 1, 1) := by decide +kernel
theorem dX2_rinse_2 : decode cX2_rinse 2 = .ok (.iload_n 1, 1) := by decide +kernel
theorem dX2_rinse_3 : decode cX2_rinse 3 = .ok (.aload_n 0, 1) := by decide +kernel
theorem dX2_rinse_4 : decode cX2_rinse 4 = .ok (.getfield 50, 3) := by decide +kernel
theorem dX2_rinse_7 : decode cX2_rinse 7 = .ok (.if_icmp .ge 45, 3) := by decide +kernel
theorem dX2_rinse_10 : decode cX2_rinse 10 = .ok (.aload_n 0, 1) := by decide +kernel
theorem dX2_rinse_11 : decode cX2_rinse 11 = .ok (.getfield 24, 3) := by decide +kernel
theorem dX2_rinse_14 : decode cX2_rinse 14 = .ok (.iload_n 1, 1) := by decide +kernel
theorem dX2_rinse_15 : decode cX2_rinse 15 = .ok (.iconst 0, 1) := by decide +kernel
theorem dX2_rinse_16 : decode cX2_rinse 16 = .ok (.iastore, 1) := by decide +kernel
theorem dX2_rinse_17 : decode cX2_rinse 17 = .ok (.aload_n 0, 1) := by decide +kernel
theorem dX2_rinse_18 : decode cX2_rinse 18 = .ok (.iload_n 1, 1) := by decide +kernel
theorem dX2_rinse_19 : decode cX2_rinse 19 = .ok (.invokevirtual 92, 3) := by decide +kernel
theorem dX2_rinse_22 : decode cX2_rinse 22 = .ok (.ifCond .eq 24, 3) := by decide +kernel
theorem dX2_rinse_25 : decode cX2_rinse 25 = .ok (.aload_n 0, 1) := by decide +kernel
theorem dX2_rinse_26 : decode cX2_rinse 26 = .ok (.getfield 18, 3) := by decide +kernel
theorem dX2_rinse_29 : decode cX2_rinse 29 = .ok (.iload_n 1, 1) := by decide +kernel
theorem dX2_rinse_30 : decode cX2_rinse 30 = .ok (.sipush 1000, 3) := by decide +kernel
theorem dX2_rinse_33 : decode cX2_rinse 33 = .ok (.aload_n 0, 1) := by decide +kernel
theorem dX2_rinse_34 : decode cX2_rinse 34 = .ok (.getfield 18, 3) := by decide +kernel
theorem dX2_rinse_37 : decode cX2_rinse 37 = .ok (.iload_n 1, 1) := by decide +kernel
theorem dX2_rinse_38 : decode cX2_rinse 38 = .ok (.iaload, 1) := by decide +kernel
theorem dX2_rinse_39 : decode cX2_rinse 39 = .ok (.bipush 10, 2) := by decide +kernel
theorem dX2_rinse_41 : decode cX2_rinse 41 = .ok (.iadd, 1) := by decide +kernel
theorem dX2_rinse_42 : decode cX2_rinse 42 = .ok (.invokestatic 65, 3) := by decide +kernel
theorem dX2_rinse_45 : decode cX2_rinse 45 = .ok (.iastore, 1) := by decide +kernel
theorem dX2_rinse_46 : decode cX2_rinse 46 = .ok (.iinc 1 1, 3) := by decide +kernel
theorem dX2_rinse_49 : decode cX2_rinse 49 = .ok (.goto (-47), 3) := by decide +kernel
theorem dX2_rinse_52 : decode cX2_rinse 52 = .ok (.return_, 1) := by decide +kernel
theorem dX2_turn_0 : decode cX2_turn 0 = .ok (.aload_n 0, 1) := by decide +kernel
theorem dX2_turn_1 : decode cX2_turn 1 = .ok (.getfield 35, 3) := by decide +kernel
theorem dX2_turn_4 : decode cX2_turn 4 = .ok (.aload_n 0, 1) := by decide +kernel
theorem dX2_turn_5 : decode cX2_turn 5 = .ok (.aload_n 1, 1) := by decide +kernel
theorem dX2_turn_6 : decode cX2_turn 6 = .ok (.iload_n 2, 1) := by decide +kernel
theorem dX2_turn_7 : decode cX2_turn 7 = .ok (.iload_n 3, 1) := by decide +kernel
theorem dX2_turn_8 : decode cX2_turn 8 = .ok (.lload 4, 2) := by decide +kernel
theorem dX2_turn_10 : decode cX2_turn 10 = .ok (.invokevirtual 96, 3) := by decide +kernel
theorem dX2_turn_13 : decode cX2_turn 13 = .ok (.lstore 6, 2) := by decide +kernel
theorem dX2_turn_15 : decode cX2_turn 15 = .ok (.aload_n 0, 1) := by decide +kernel
theorem dX2_turn_16 : decode cX2_turn 16 = .ok (.getfield 42, 3) := by decide +kernel
theorem dX2_turn_19 : decode cX2_turn 19 = .ok (.aload_n 0, 1) := by decide +kernel
theorem dX2_turn_20 : decode cX2_turn 20 = .ok (.getfield 35, 3) := by decide +kernel
theorem dX2_turn_23 : decode cX2_turn 23 = .ok (.invokevirtual 100, 3) := by decide +kernel
theorem dX2_turn_26 : decode cX2_turn 26 = .ok (.aload_n 0, 1) := by decide +kernel
theorem dX2_turn_27 : decode cX2_turn 27 = .ok (.getfield 46, 3) := by decide +kernel
theorem dX2_turn_30 : decode cX2_turn 30 = .ok (.aload_n 0, 1) := by decide +kernel
theorem dX2_turn_31 : decode cX2_turn 31 = .ok (.getfield 29, 3) := by decide +kernel
theorem dX2_turn_34 : decode cX2_turn 34 = .ok (.arraylength, 1) := by decide +kernel
theorem dX2_turn_35 : decode cX2_turn 35 = .ok (.if_icmp .ge 30, 3) := by decide +kernel
theorem dX2_turn_38 : decode cX2_turn 38 = .ok (.aload_n 0, 1) := by decide +kernel
theorem dX2_turn_39 : decode cX2_turn 39 = .ok (.getfield 29, 3) := by decide +kernel
theorem dX2_turn_42 : decode cX2_turn 42 = .ok (.aload_n 0, 1) := by decide +kernel
theorem dX2_turn_43 : decode cX2_turn 43 = .ok (.getfield 46, 3) := by decide +kernel
theorem dX2_turn_46 : decode cX2_turn 46 = .ok (.aload_n 0, 1) := by decide +kernel
theorem dX2_turn_47 : decode cX2_turn 47 = .ok (.getfield 42, 3) := by decide +kernel
theorem dX2_turn_50 : decode cX2_turn 50 = .ok (.getfield 104, 3) := by decide +kernel
theorem dX2_turn_53 : decode cX2_turn 53 = .ok (.l2i, 1) := by decide +kernel
theorem dX2_turn_54 : decode cX2_turn 54 = .ok (.iastore, 1) := by decide +kernel
theorem dX2_turn_55 : decode cX2_turn 55 = .ok (.aload_n 0, 1) := by decide +kernel
theorem dX2_turn_56 : decode cX2_turn 56 = .ok (.dup, 1) := by decide +kernel
theorem dX2_turn_57 : decode cX2_turn 57 = .ok (.getfield 46, 3) := by decide +kernel
theorem dX2_turn_60 : decode cX2_turn 60 = .ok (.iconst 1, 1) := by decide +kernel
theorem dX2_turn_61 : decode cX2_turn 61 = .ok (.iadd, 1) := by decide +kernel
theorem dX2_turn_62 : decode cX2_turn 62 = .ok (.putfield 46, 3) := by decide +kernel
theorem dX2_turn_65 : decode cX2_turn 65 = .ok (.iconst 0, 1) := by decide +kernel
theorem dX2_turn_66 : decode cX2_turn 66 = .ok (.istore 8, 2) := by decide +kernel
theorem dX2_turn_68 : decode cX2_turn 68 = .ok (.iload 8, 2) := by decide +kernel
theorem dX2_turn_70 : decode cX2_turn 70 = .ok (.aload_n 0, 1) := by decide +kernel
theorem dX2_turn_71 : decode cX2_turn 71 = .ok (.getfield 50, 3) := by decide +kernel
theorem dX2_turn_74 : decode cX2_turn 74 = .ok (.if_icmp .ge 48, 3) := by decide +kernel
theorem dX2_turn_77 : decode cX2_turn 77 = .ok (.aload_n 0, 1) := by decide +kernel
theorem dX2_turn_78 : decode cX2_turn 78 = .ok (.getfield 35, 3) := by decide +kernel
theorem dX2_turn_81 : decode cX2_turn 81 = .ok (.getfield 108, 3) := by decide +kernel
theorem dX2_turn_84 : decode cX2_turn 84 = .ok (.iload 8, 2) := by decide +kernel
theorem dX2_turn_86 : decode cX2_turn 86 = .ok (.iaload, 1) := by decide +kernel
theorem dX2_turn_87 : decode cX2_turn 87 = .ok (.iconst 1, 1) := by decide +kernel
theorem dX2_turn_88 : decode cX2_turn 88 = .ok (.if_icmp .ne 10, 3) := by decide +kernel
theorem dX2_turn_91 : decode cX2_turn 91 = .ok (.aload_n 0, 1) := by decide +kernel
theorem dX2_turn_92 : decode cX2_turn 92 = .ok (.aload_n 1, 1) := by decide +kernel
theorem dX2_turn_93 : decode cX2_turn 93 = .ok (.iload 8, 2) := by decide +kernel
theorem dX2_turn_95 : decode cX2_turn 95 = .ok (.invokevirtual 111, 3) := by decide +kernel
theorem dX2_turn_98 : decode cX2_turn 98 = .ok (.aload_n 0, 1) := by decide +kernel
theorem dX2_turn_99 : decode cX2_turn 99 = .ok (.iload 8, 2) := by decide +kernel
theorem dX2_turn_101 : decode cX2_turn 101 = .ok (.invokevirtual 92, 3) := by decide +kernel
theorem dX2_turn_104 : decode cX2_turn 104 = .ok (.ifCond .eq 12, 3) := by decide +kernel
theorem dX2_turn_107 : decode cX2_turn 107 = .ok (.aload_n 0, 1) := by decide +kernel
theorem dX2_turn_108 : decode cX2_turn 108 = .ok (.aload_n 1, 1) := by decide +kernel
theorem dX2_turn_109 : decode cX2_turn 109 = .ok (.iload 8, 2) := by decide +kernel
theorem dX2_turn_111 : decode cX2_turn 111 = .ok (.iload_n 2, 1) := by decide +kernel
theorem dX2_turn_112 : decode cX2_turn 112 = .ok (.iload_n 3, 1) := by decide +kernel
theorem dX2_turn_113 : decode cX2_turn 113 = .ok (.invokevirtual 115, 3) := by decide +kernel
theorem dX2_turn_116 : decode cX2_turn 116 = .ok (.iinc 8 1, 3) := by decide +kernel
theorem dX2_turn_119 : decode cX2_turn 119 = .ok (.goto (-51), 3) := by decide +kernel
theorem dX2_turn_122 : decode cX2_turn 122 = .ok (.lload 6, 2) := by decide +kernel
theorem dX2_turn_124 : decode cX2_turn 124 = .ok (.lreturn, 1) := by decide +kernel
theorem dX2_tire_0 : decode cX2_tire 0 = .ok (.aload_n 0, 1) := by decide +kernel
theorem dX2_tire_1 : decode cX2_tire 1 = .ok (.getfield 9, 3) := by decide +kernel
theorem dX2_tire_4 : decode cX2_tire 4 = .ok (.iload_n 2, 1) := by decide +kernel
theorem dX2_tire_5 : decode cX2_tire 5 = .ok (.iaload, 1) := by decide +kernel
theorem dX2_tire_6 : decode cX2_tire 6 = .ok (.istore_n 3, 1) := by decide +kernel
theorem dX2_tire_7 : decode cX2_tire 7 = .ok (.aload_n 0, 1) := by decide +kernel
theorem dX2_tire_8 : decode cX2_tire 8 = .ok (.getfield 18, 3) := by decide +kernel
theorem dX2_tire_11 : decode cX2_tire 11 = .ok (.iload_n 2, 1) := by decide +kernel
theorem dX2_tire_12 : decode cX2_tire 12 = .ok (.dup2, 1) := by decide +kernel
theorem dX2_tire_13 : decode cX2_tire 13 = .ok (.iaload, 1) := by decide +kernel
theorem dX2_tire_14 : decode cX2_tire 14 = .ok (.sipush 1000, 3) := by decide +kernel
theorem dX2_tire_17 : decode cX2_tire 17 = .ok (.aload_n 0, 1) := by decide +kernel
theorem dX2_tire_18 : decode cX2_tire 18 = .ok (.getfield 18, 3) := by decide +kernel
theorem dX2_tire_21 : decode cX2_tire 21 = .ok (.iload_n 2, 1) := by decide +kernel
theorem dX2_tire_22 : decode cX2_tire 22 = .ok (.iaload, 1) := by decide +kernel
theorem dX2_tire_23 : decode cX2_tire 23 = .ok (.isub, 1) := by decide +kernel
theorem dX2_tire_24 : decode cX2_tire 24 = .ok (.aload_n 1, 1) := by decide +kernel
theorem dX2_tire_25 : decode cX2_tire 25 = .ok (.iload_n 3, 1) := by decide +kernel
theorem dX2_tire_26 : decode cX2_tire 26 = .ok (.iconst 2, 1) := by decide +kernel
theorem dX2_tire_27 : decode cX2_tire 27 = .ok (.invokevirtual 121, 3) := by decide +kernel
theorem dX2_tire_30 : decode cX2_tire 30 = .ok (.imul, 1) := by decide +kernel
theorem dX2_tire_31 : decode cX2_tire 31 = .ok (.sipush 1000, 3) := by decide +kernel
theorem dX2_tire_34 : decode cX2_tire 34 = .ok (.idiv, 1) := by decide +kernel
theorem dX2_tire_35 : decode cX2_tire 35 = .ok (.iadd, 1) := by decide +kernel
theorem dX2_tire_36 : decode cX2_tire 36 = .ok (.iastore, 1) := by decide +kernel
theorem dX2_tire_37 : decode cX2_tire 37 = .ok (.aload_n 1, 1) := by decide +kernel
theorem dX2_tire_38 : decode cX2_tire 38 = .ok (.iload_n 3, 1) := by decide +kernel
theorem dX2_tire_39 : decode cX2_tire 39 = .ok (.iconst 1, 1) := by decide +kernel
theorem dX2_tire_40 : decode cX2_tire 40 = .ok (.invokevirtual 121, 3) := by decide +kernel
theorem dX2_tire_43 : decode cX2_tire 43 = .ok (.aload_n 1, 1) := by decide +kernel
theorem dX2_tire_44 : decode cX2_tire 44 = .ok (.iload_n 3, 1) := by decide +kernel
theorem dX2_tire_45 : decode cX2_tire 45 = .ok (.iconst 3, 1) := by decide +kernel
theorem dX2_tire_46 : decode cX2_tire 46 = .ok (.invokevirtual 121, 3) := by decide +kernel
theorem dX2_tire_49 : decode cX2_tire 49 = .ok (.if_icmp .lt 21, 3) := by decide +kernel
theorem dX2_tire_52 : decode cX2_tire 52 = .ok (.aload_n 0, 1) := by decide +kernel
theorem dX2_tire_53 : decode cX2_tire 53 = .ok (.getfield 21, 3) := by decide +kernel
theorem dX2_tire_56 : decode cX2_tire 56 = .ok (.iload_n 2, 1) := by decide +kernel
theorem dX2_tire_57 : decode cX2_tire 57 = .ok (.iconst 0, 1) := by decide +kernel
theorem dX2_tire_58 : decode cX2_tire 58 = .ok (.aload_n 0, 1) := by decide +kernel
theorem dX2_tire_59 : decode cX2_tire 59 = .ok (.getfield 21, 3) := by decide +kernel
theorem dX2_tire_62 : decode cX2_tire 62 = .ok (.iload_n 2, 1) := by decide +kernel
theorem dX2_tire_63 : decode cX2_tire 63 = .ok (.iaload, 1) := by decide +kernel
theorem dX2_tire_64 : decode cX2_tire 64 = .ok (.iconst 1, 1) := by decide +kernel
theorem dX2_tire_65 : decode cX2_tire 65 = .ok (.isub, 1) := by decide +kernel
theorem dX2_tire_66 : decode cX2_tire 66 = .ok (.invokestatic 59, 3) := by decide +kernel
theorem dX2_tire_69 : decode cX2_tire 69 = .ok (.iastore, 1) := by decide +kernel
theorem dX2_tire_70 : decode cX2_tire 70 = .ok (.return_, 1) := by decide +kernel
theorem dX2_gather_0 : decode cX2_gather 0 = .ok (.aload_n 0, 1) := by decide +kernel
theorem dX2_gather_1 : decode cX2_gather 1 = .ok (.aload_n 1, 1) := by decide +kernel
theorem dX2_gather_2 : decode cX2_gather 2 = .ok (.iload_n 2, 1) := by decide +kernel
theorem dX2_gather_3 : decode cX2_gather 3 = .ok (.iload_n 3, 1) := by decide +kernel
theorem dX2_gather_4 : decode cX2_gather 4 = .ok (.iload 4, 2) := by decide +kernel
theorem dX2_gather_6 : decode cX2_gather 6 = .ok (.invokevirtual 124, 3) := by decide +kernel
theorem dX2_gather_9 : decode cX2_gather 9 = .ok (.aload_n 1, 1) := by decide +kernel
theorem dX2_gather_10 : decode cX2_gather 10 = .ok (.bipush 17, 2) := by decide +kernel
theorem dX2_gather_12 : decode cX2_gather 12 = .ok (.invokevirtual 129, 3) := by decide +kernel
theorem dX2_gather_15 : decode cX2_gather 15 = .ok (.istore 5, 2) := by decide +kernel
theorem dX2_gather_17 : decode cX2_gather 17 = .ok (.aload_n 0, 1) := by decide +kernel
theorem dX2_gather_18 : decode cX2_gather 18 = .ok (.getfield 24, 3) := by decide +kernel
theorem dX2_gather_21 : decode cX2_gather 21 = .ok (.iload_n 2, 1) := by decide +kernel
theorem dX2_gather_22 : decode cX2_gather 22 = .ok (.aload_n 0, 1) := by decide +kernel
theorem dX2_gather_23 : decode cX2_gather 23 = .ok (.getfield 24, 3) := by decide +kernel
theorem dX2_gather_26 : decode cX2_gather 26 = .ok (.iload_n 2, 1) := by decide +kernel
theorem dX2_gather_27 : decode cX2_gather 27 = .ok (.iaload, 1) := by decide +kernel
theorem dX2_gather_28 : decode cX2_gather 28 = .ok (.iload 5, 2) := by decide +kernel
theorem dX2_gather_30 : decode cX2_gather 30 = .ok (.iadd, 1) := by decide +kernel
theorem dX2_gather_31 : decode cX2_gather 31 = .ok (.iconst 0, 1) := by decide +kernel
theorem dX2_gather_32 : decode cX2_gather 32 = .ok (.bipush 9, 2) := by decide +kernel
theorem dX2_gather_34 : decode cX2_gather 34 = .ok (.invokestatic 133, 3) := by decide +kernel
theorem dX2_gather_37 : decode cX2_gather 37 = .ok (.iastore, 1) := by decide +kernel
theorem dX2_gather_38 : decode cX2_gather 38 = .ok (.return_, 1) := by decide +kernel
theorem dX2_tell_0 : decode cX2_tell 0 = .ok (.aload_n 1, 1) := by decide +kernel
theorem dX2_tell_1 : decode cX2_tell 1 = .ok (.getfield 137, 3) := by decide +kernel
theorem dX2_tell_4 : decode cX2_tell 4 = .ok (.iconst 0, 1) := by decide +kernel
theorem dX2_tell_5 : decode cX2_tell 5 = .ok (.iload_n 3, 1) := by decide +kernel
theorem dX2_tell_6 : decode cX2_tell 6 = .ok (.iastore, 1) := by decide +kernel
theorem dX2_tell_7 : decode cX2_tell 7 = .ok (.aload_n 1, 1) := by decide +kernel
theorem dX2_tell_8 : decode cX2_tell 8 = .ok (.getfield 137, 3) := by decide +kernel
theorem dX2_tell_11 : decode cX2_tell 11 = .ok (.iconst 1, 1) := by decide +kernel
theorem dX2_tell_12 : decode cX2_tell 12 = .ok (.iload 4, 2) := by decide +kernel
theorem dX2_tell_14 : decode cX2_tell 14 = .ok (.iastore, 1) := by decide +kernel
theorem dX2_tell_15 : decode cX2_tell 15 = .ok (.aload_n 1, 1) := by decide +kernel
theorem dX2_tell_16 : decode cX2_tell 16 = .ok (.getfield 137, 3) := by decide +kernel
theorem dX2_tell_19 : decode cX2_tell 19 = .ok (.iconst 2, 1) := by decide +kernel
theorem dX2_tell_20 : decode cX2_tell 20 = .ok (.aload_n 0, 1) := by decide +kernel
theorem dX2_tell_21 : decode cX2_tell 21 = .ok (.getfield 21, 3) := by decide +kernel
theorem dX2_tell_24 : decode cX2_tell 24 = .ok (.iload_n 2, 1) := by decide +kernel
theorem dX2_tell_25 : decode cX2_tell 25 = .ok (.iaload, 1) := by decide +kernel
theorem dX2_tell_26 : decode cX2_tell 26 = .ok (.iastore, 1) := by decide +kernel
theorem dX2_tell_27 : decode cX2_tell 27 = .ok (.aload_n 1, 1) := by decide +kernel
theorem dX2_tell_28 : decode cX2_tell 28 = .ok (.getfield 137, 3) := by decide +kernel
theorem dX2_tell_31 : decode cX2_tell 31 = .ok (.iconst 3, 1) := by decide +kernel
theorem dX2_tell_32 : decode cX2_tell 32 = .ok (.aload_n 0, 1) := by decide +kernel
theorem dX2_tell_33 : decode cX2_tell 33 = .ok (.getfield 24, 3) := by decide +kernel
theorem dX2_tell_36 : decode cX2_tell 36 = .ok (.iload_n 2, 1) := by decide +kernel
theorem dX2_tell_37 : decode cX2_tell 37 = .ok (.iaload, 1) := by decide +kernel
theorem dX2_tell_38 : decode cX2_tell 38 = .ok (.iastore, 1) := by decide +kernel
theorem dX2_tell_39 : decode cX2_tell 39 = .ok (.aload_n 1, 1) := by decide +kernel
theorem dX2_tell_40 : decode cX2_tell 40 = .ok (.getfield 137, 3) := by decide +kernel
theorem dX2_tell_43 : decode cX2_tell 43 = .ok (.iconst 4, 1) := by decide +kernel
theorem dX2_tell_44 : decode cX2_tell 44 = .ok (.aload_n 0, 1) := by decide +kernel
theorem dX2_tell_45 : decode cX2_tell 45 = .ok (.getfield 18, 3) := by decide +kernel
theorem dX2_tell_48 : decode cX2_tell 48 = .ok (.iload_n 2, 1) := by decide +kernel
theorem dX2_tell_49 : decode cX2_tell 49 = .ok (.iaload, 1) := by decide +kernel
theorem dX2_tell_50 : decode cX2_tell 50 = .ok (.iastore, 1) := by decide +kernel
theorem dX2_tell_51 : decode cX2_tell 51 = .ok (.aload_n 1, 1) := by decide +kernel
theorem dX2_tell_52 : decode cX2_tell 52 = .ok (.getfield 137, 3) := by decide +kernel
theorem dX2_tell_55 : decode cX2_tell 55 = .ok (.iconst 5, 1) := by decide +kernel
theorem dX2_tell_56 : decode cX2_tell 56 = .ok (.iload_n 2, 1) := by decide +kernel
theorem dX2_tell_57 : decode cX2_tell 57 = .ok (.aload_n 0, 1) := by decide +kernel
theorem dX2_tell_58 : decode cX2_tell 58 = .ok (.getfield 53, 3) := by decide +kernel
theorem dX2_tell_61 : decode cX2_tell 61 = .ok (.idiv, 1) := by decide +kernel
theorem dX2_tell_62 : decode cX2_tell 62 = .ok (.iastore, 1) := by decide +kernel
theorem dX2_tell_63 : decode cX2_tell 63 = .ok (.aload_n 1, 1) := by decide +kernel
theorem dX2_tell_64 : decode cX2_tell 64 = .ok (.getfield 137, 3) := by decide +kernel
theorem dX2_tell_67 : decode cX2_tell 67 = .ok (.bipush 6, 2) := by decide +kernel
theorem dX2_tell_69 : decode cX2_tell 69 = .ok (.iload_n 2, 1) := by decide +kernel
theorem dX2_tell_70 : decode cX2_tell 70 = .ok (.aload_n 0, 1) := by decide +kernel
theorem dX2_tell_71 : decode cX2_tell 71 = .ok (.getfield 53, 3) := by decide +kernel
theorem dX2_tell_74 : decode cX2_tell 74 = .ok (.irem, 1) := by decide +kernel
theorem dX2_tell_75 : decode cX2_tell 75 = .ok (.iastore, 1) := by decide +kernel
theorem dX2_tell_76 : decode cX2_tell 76 = .ok (.aload_n 1, 1) := by decide +kernel
theorem dX2_tell_77 : decode cX2_tell 77 = .ok (.getfield 137, 3) := by decide +kernel
theorem dX2_tell_80 : decode cX2_tell 80 = .ok (.bipush 7, 2) := by decide +kernel
theorem dX2_tell_82 : decode cX2_tell 82 = .ok (.aload_n 0, 1) := by decide +kernel
theorem dX2_tell_83 : decode cX2_tell 83 = .ok (.getfield 9, 3) := by decide +kernel
theorem dX2_tell_86 : decode cX2_tell 86 = .ok (.iload_n 2, 1) := by decide +kernel
theorem dX2_tell_87 : decode cX2_tell 87 = .ok (.iaload, 1) := by decide +kernel
theorem dX2_tell_88 : decode cX2_tell 88 = .ok (.iastore, 1) := by decide +kernel
theorem dX2_tell_89 : decode cX2_tell 89 = .ok (.return_, 1) := by decide +kernel
theorem dX2_chanceAt_0 : decode cX2_chanceAt 0 = .ok (.aload_n 0, 1) := by decide +kernel
theorem dX2_chanceAt_1 : decode cX2_chanceAt 1 = .ok (.getfield 21, 3) := by decide +kernel
theorem dX2_chanceAt_4 : decode cX2_chanceAt 4 = .ok (.iload_n 2, 1) := by decide +kernel
theorem dX2_chanceAt_5 : decode cX2_chanceAt 5 = .ok (.iaload, 1) := by decide +kernel
theorem dX2_chanceAt_6 : decode cX2_chanceAt 6 = .ok (.ifCond .ne 5, 3) := by decide +kernel
theorem dX2_chanceAt_9 : decode cX2_chanceAt 9 = .ok (.iconst 0, 1) := by decide +kernel
theorem dX2_chanceAt_10 : decode cX2_chanceAt 10 = .ok (.ireturn, 1) := by decide +kernel
theorem dX2_chanceAt_11 : decode cX2_chanceAt 11 = .ok (.aload_n 0, 1) := by decide +kernel
theorem dX2_chanceAt_12 : decode cX2_chanceAt 12 = .ok (.aload_n 1, 1) := by decide +kernel
theorem dX2_chanceAt_13 : decode cX2_chanceAt 13 = .ok (.iload_n 2, 1) := by decide +kernel
theorem dX2_chanceAt_14 : decode cX2_chanceAt 14 = .ok (.iload_n 3, 1) := by decide +kernel
theorem dX2_chanceAt_15 : decode cX2_chanceAt 15 = .ok (.iload 4, 2) := by decide +kernel
theorem dX2_chanceAt_17 : decode cX2_chanceAt 17 = .ok (.invokevirtual 124, 3) := by decide +kernel
theorem dX2_chanceAt_20 : decode cX2_chanceAt 20 = .ok (.aload_n 1, 1) := by decide +kernel
theorem dX2_chanceAt_21 : decode cX2_chanceAt 21 = .ok (.iconst 5, 1) := by decide +kernel
theorem dX2_chanceAt_22 : decode cX2_chanceAt 22 = .ok (.invokevirtual 129, 3) := by decide +kernel
theorem dX2_chanceAt_25 : decode cX2_chanceAt 25 = .ok (.iconst 0, 1) := by decide +kernel
theorem dX2_chanceAt_26 : decode cX2_chanceAt 26 = .ok (.sipush 1000, 3) := by decide +kernel
theorem dX2_chanceAt_29 : decode cX2_chanceAt 29 = .ok (.invokestatic 133, 3) := by decide +kernel
theorem dX2_chanceAt_32 : decode cX2_chanceAt 32 = .ok (.ireturn, 1) := by decide +kernel
theorem dX2_stiffnessAt_0 : decode cX2_stiffnessAt 0 = .ok (.aload_n 1, 1) := by decide +kernel
theorem dX2_stiffnessAt_1 : decode cX2_stiffnessAt 1 = .ok (.aload_n 0, 1) := by decide +kernel
theorem dX2_stiffnessAt_2 : decode cX2_stiffnessAt 2 = .ok (.getfield 9, 3) := by decide +kernel
theorem dX2_stiffnessAt_5 : decode cX2_stiffnessAt 5 = .ok (.iload_n 2, 1) := by decide +kernel
theorem dX2_stiffnessAt_6 : decode cX2_stiffnessAt 6 = .ok (.iaload, 1) := by decide +kernel
theorem dX2_stiffnessAt_7 : decode cX2_stiffnessAt 7 = .ok (.iconst 0, 1) := by decide +kernel
theorem dX2_stiffnessAt_8 : decode cX2_stiffnessAt 8 = .ok (.invokevirtual 121, 3) := by decide +kernel
theorem dX2_stiffnessAt_11 : decode cX2_stiffnessAt 11 = .ok (.istore_n 3, 1) := by decide +kernel
theorem dX2_stiffnessAt_12 : decode cX2_stiffnessAt 12 = .ok (.iconst 1, 1) := by decide +kernel
theorem dX2_stiffnessAt_13 : decode cX2_stiffnessAt 13 = .ok (.iload_n 3, 1) := by decide +kernel
theorem dX2_stiffnessAt_14 : decode cX2_stiffnessAt 14 = .ok (.sipush 1000, 3) := by decide +kernel
theorem dX2_stiffnessAt_17 : decode cX2_stiffnessAt 17 = .ok (.aload_n 0, 1) := by decide +kernel
theorem dX2_stiffnessAt_18 : decode cX2_stiffnessAt 18 = .ok (.getfield 18, 3) := by decide +kernel
theorem dX2_stiffnessAt_21 : decode cX2_stiffnessAt 21 = .ok (.iload_n 2, 1) := by decide +kernel
theorem dX2_stiffnessAt_22 : decode cX2_stiffnessAt 22 = .ok (.iaload, 1) := by decide +kernel
theorem dX2_stiffnessAt_23 : decode cX2_stiffnessAt 23 = .ok (.isub, 1) := by decide +kernel
theorem dX2_stiffnessAt_24 : decode cX2_stiffnessAt 24 = .ok (.imul, 1) := by decide +kernel
theorem dX2_stiffnessAt_25 : decode cX2_stiffnessAt 25 = .ok (.sipush 1000, 3) := by decide +kernel
theorem dX2_stiffnessAt_28 : decode cX2_stiffnessAt 28 = .ok (.idiv, 1) := by decide +kernel
theorem dX2_stiffnessAt_29 : decode cX2_stiffnessAt 29 = .ok (.invokestatic 59, 3) := by decide +kernel
theorem dX2_stiffnessAt_32 : decode cX2_stiffnessAt 32 = .ok (.ireturn, 1) := by decide +kernel
theorem dX2_hasHook_0 : decode cX2_hasHook 0 = .ok (.aload_n 0, 1) := by decide +kernel
theorem dX2_hasHook_1 : decode cX2_hasHook 1 = .ok (.getfield 9, 3) := by decide +kernel
theorem dX2_hasHook_4 : decode cX2_hasHook 4 = .ok (.iload_n 1, 1) := by decide +kernel
theorem dX2_hasHook_5 : decode cX2_hasHook 5 = .ok (.iaload, 1) := by decide +kernel
theorem dX2_hasHook_6 : decode cX2_hasHook 6 = .ok (.iconst (-1), 1) := by decide +kernel
theorem dX2_hasHook_7 : decode cX2_hasHook 7 = .ok (.if_icmp .eq 7, 3) := by decide +kernel
theorem dX2_hasHook_10 : decode cX2_hasHook 10 = .ok (.iconst 1, 1) := by decide +kernel
theorem dX2_hasHook_11 : decode cX2_hasHook 11 = .ok (.goto 4, 3) := by decide +kernel
theorem dX2_hasHook_14 : decode cX2_hasHook 14 = .ok (.iconst 0, 1) := by decide +kernel
theorem dX2_hasHook_15 : decode cX2_hasHook 15 = .ok (.ireturn, 1) := by decide +kernel
theorem dX2_countHooks_0 : decode cX2_countHooks 0 = .ok (.iconst 0, 1) := by decide +kernel
theorem dX2_countHooks_1 : decode cX2_countHooks 1 = .ok (.istore_n 1, 1) := by decide +kernel
theorem dX2_countHooks_2 : decode cX2_countHooks 2 = .ok (.iconst 0, 1) := by decide +kernel
theorem dX2_countHooks_3 : decode cX2_countHooks 3 = .ok (.istore_n 2, 1) := by decide +kernel
theorem dX2_countHooks_4 : decode cX2_countHooks 4 = .ok (.iload_n 2, 1) := by decide +kernel
theorem dX2_countHooks_5 : decode cX2_countHooks 5 = .ok (.aload_n 0, 1) := by decide +kernel
theorem dX2_countHooks_6 : decode cX2_countHooks 6 = .ok (.getfield 50, 3) := by decide +kernel
theorem dX2_countHooks_9 : decode cX2_countHooks 9 = .ok (.if_icmp .ge 20, 3) := by decide +kernel
theorem dX2_countHooks_12 : decode cX2_countHooks 12 = .ok (.aload_n 0, 1) := by decide +kernel
theorem dX2_countHooks_13 : decode cX2_countHooks 13 = .ok (.iload_n 2, 1) := by decide +kernel
theorem dX2_countHooks_14 : decode cX2_countHooks 14 = .ok (.invokevirtual 92, 3) := by decide +kernel
theorem dX2_countHooks_17 : decode cX2_countHooks 17 = .ok (.ifCond .eq 6, 3) := by decide +kernel
theorem dX2_countHooks_20 : decode cX2_countHooks 20 = .ok (.iinc 1 1, 3) := by decide +kernel
theorem dX2_countHooks_23 : decode cX2_countHooks 23 = .ok (.iinc 2 1, 3) := by decide +kernel
theorem dX2_countHooks_26 : decode cX2_countHooks 26 = .ok (.goto (-22), 3) := by decide +kernel
theorem dX2_countHooks_29 : decode cX2_countHooks 29 = .ok (.iload_n 1, 1) := by decide +kernel
theorem dX2_countHooks_30 : decode cX2_countHooks 30 = .ok (.ireturn, 1) := by decide +kernel
theorem dX3_init_0 : decode cX3_init 0 = .ok (.aload_n 0, 1) := by decide +kernel
theorem dX3_init_1 : decode cX3_init 1 = .ok (.invokespecial 3, 3) := by decide +kernel
theorem dX3_init_4 : decode cX3_init 4 = .ok (.aload_n 0, 1) := by decide +kernel
theorem dX3_init_5 : decode cX3_init 5 = .ok (.bipush 65, 2) := by decide +kernel
theorem dX3_init_7 : decode cX3_init 7 = .ok (.newarray .long, 2) := by decide +kernel
theorem dX3_init_9 : decode cX3_init 9 = .ok (.putfield 9, 3) := by decide +kernel
theorem dX3_init_12 : decode cX3_init 12 = .ok (.aload_n 0, 1) := by decide +kernel
theorem dX3_init_13 : decode cX3_init 13 = .ok (.iconst 0, 1) := by decide +kernel
theorem dX3_init_14 : decode cX3_init 14 = .ok (.putfield 15, 3) := by decide +kernel
theorem dX3_init_17 : decode cX3_init 17 = .ok (.aload_n 0, 1) := by decide +kernel
theorem dX3_init_18 : decode cX3_init 18 = .ok (.iconst 0, 1) := by decide +kernel
theorem dX3_init_19 : decode cX3_init 19 = .ok (.putfield 19, 3) := by decide +kernel
theorem dX3_init_22 : decode cX3_init 22 = .ok (.return_, 1) := by decide +kernel
theorem dX3_begin_0 : decode cX3_begin 0 = .ok (.aload_n 0, 1) := by decide +kernel
theorem dX3_begin_1 : decode cX3_begin 1 = .ok (.iconst 1, 1) := by decide +kernel
theorem dX3_begin_2 : decode cX3_begin 2 = .ok (.putfield 19, 3) := by decide +kernel
theorem dX3_begin_5 : decode cX3_begin 5 = .ok (.aload_n 0, 1) := by decide +kernel
theorem dX3_begin_6 : decode cX3_begin 6 = .ok (.iconst 0, 1) := by decide +kernel
theorem dX3_begin_7 : decode cX3_begin 7 = .ok (.putfield 15, 3) := by decide +kernel
theorem dX3_begin_10 : decode cX3_begin 10 = .ok (.aload_n 0, 1) := by decide +kernel
theorem dX3_begin_11 : decode cX3_begin 11 = .ok (.getfield 9, 3) := by decide +kernel
theorem dX3_begin_14 : decode cX3_begin 14 = .ok (.iconst 0, 1) := by decide +kernel
theorem dX3_begin_15 : decode cX3_begin 15 = .ok (.ldc2_w 23, 3) := by decide +kernel
theorem dX3_begin_18 : decode cX3_begin 18 = .ok (.lastore, 1) := by decide +kernel
theorem dX3_begin_19 : decode cX3_begin 19 = .ok (.return_, 1) := by decide +kernel
theorem dX3_addHook_0 : decode cX3_addHook 0 = .ok (.aload_n 0, 1) := by decide +kernel
theorem dX3_addHook_1 : decode cX3_addHook 1 = .ok (.getfield 15, 3) := by decide +kernel
theorem dX3_addHook_4 : decode cX3_addHook 4 = .ok (.bipush 64, 2) := by decide +kernel
theorem dX3_addHook_6 : decode cX3_addHook 6 = .ok (.if_icmp .lt 4, 3) := by decide +kernel
theorem dX3_addHook_9 : decode cX3_addHook 9 = .ok (.return_, 1) := by decide +kernel
theorem dX3_addHook_10 : decode cX3_addHook 10 = .ok (.aload_n 0, 1) := by decide +kernel
theorem dX3_addHook_11 : decode cX3_addHook 11 = .ok (.dup, 1) := by decide +kernel
theorem dX3_addHook_12 : decode cX3_addHook 12 = .ok (.getfield 15, 3) := by decide +kernel
theorem dX3_addHook_15 : decode cX3_addHook 15 = .ok (.iconst 1, 1) := by decide +kernel
theorem dX3_addHook_16 : decode cX3_addHook 16 = .ok (.iadd, 1) := by decide +kernel
theorem dX3_addHook_17 : decode cX3_addHook 17 = .ok (.putfield 15, 3) := by decide +kernel
theorem dX3_addHook_20 : decode cX3_addHook 20 = .ok (.aload_n 0, 1) := by decide +kernel
theorem dX3_addHook_21 : decode cX3_addHook 21 = .ok (.getfield 9, 3) := by decide +kernel
theorem dX3_addHook_24 : decode cX3_addHook 24 = .ok (.aload_n 0, 1) := by decide +kernel
theorem dX3_addHook_25 : decode cX3_addHook 25 = .ok (.getfield 15, 3) := by decide +kernel
theorem dX3_addHook_28 : decode cX3_addHook 28 = .ok (.lconst 0, 1) := by decide +kernel
theorem dX3_addHook_29 : decode cX3_addHook 29 = .ok (.lastore, 1) := by decide +kernel
theorem dX3_addHook_30 : decode cX3_addHook 30 = .ok (.aload_n 0, 1) := by decide +kernel
theorem dX3_addHook_31 : decode cX3_addHook 31 = .ok (.getfield 15, 3) := by decide +kernel
theorem dX3_addHook_34 : decode cX3_addHook 34 = .ok (.istore_n 2, 1) := by decide +kernel
theorem dX3_addHook_35 : decode cX3_addHook 35 = .ok (.iload_n 2, 1) := by decide +kernel
theorem dX3_addHook_36 : decode cX3_addHook 36 = .ok (.ifCond .lt 58, 3) := by decide +kernel
theorem dX3_addHook_39 : decode cX3_addHook 39 = .ok (.iload_n 2, 1) := by decide +kernel
theorem dX3_addHook_40 : decode cX3_addHook 40 = .ok (.ifCond .le 21, 3) := by decide +kernel
theorem dX3_addHook_43 : decode cX3_addHook 43 = .ok (.aload_n 0, 1) := by decide +kernel
theorem dX3_addHook_44 : decode cX3_addHook 44 = .ok (.getfield 9, 3) := by decide +kernel
theorem dX3_addHook_47 : decode cX3_addHook 47 = .ok (.iload_n 2, 1) := by decide +kernel
theorem dX3_addHook_48 : decode cX3_addHook 48 = .ok (.iconst 1, 1) := by decide +kernel
theorem dX3_addHook_49 : decode cX3_addHook 49 = .ok (.isub, 1) := by decide +kernel
theorem dX3_addHook_50 : decode cX3_addHook 50 = .ok (.laload, 1) := by decide +kernel
theorem dX3_addHook_51 : decode cX3_addHook 51 = .ok (.iload_n 1, 1) := by decide +kernel
theorem dX3_addHook_52 : decode cX3_addHook 52 = .ok (.i2l, 1) := by decide +kernel
theorem dX3_addHook_53 : decode cX3_addHook 53 = .ok (.lmul, 1) := by decide +kernel
theorem dX3_addHook_54 : decode cX3_addHook 54 = .ok (.ldc2_w 25, 3) := by decide +kernel
theorem dX3_addHook_57 : decode cX3_addHook 57 = .ok (.ldiv, 1) := by decide +kernel
theorem dX3_addHook_58 : decode cX3_addHook 58 = .ok (.goto 4, 3) := by decide +kernel
theorem dX3_addHook_61 : decode cX3_addHook 61 = .ok (.lconst 0, 1) := by decide +kernel
theorem dX3_addHook_62 : decode cX3_addHook 62 = .ok (.lstore_n 3, 1) := by decide +kernel
theorem dX3_addHook_63 : decode cX3_addHook 63 = .ok (.aload_n 0, 1) := by decide +kernel
theorem dX3_addHook_64 : decode cX3_addHook 64 = .ok (.getfield 9, 3) := by decide +kernel
theorem dX3_addHook_67 : decode cX3_addHook 67 = .ok (.iload_n 2, 1) := by decide +kernel
theorem dX3_addHook_68 : decode cX3_addHook 68 = .ok (.aload_n 0, 1) := by decide +kernel
theorem dX3_addHook_69 : decode cX3_addHook 69 = .ok (.getfield 9, 3) := by decide +kernel
theorem dX3_addHook_72 : decode cX3_addHook 72 = .ok (.iload_n 2, 1) := by decide +kernel
theorem dX3_addHook_73 : decode cX3_addHook 73 = .ok (.laload, 1) := by decide +kernel
theorem dX3_addHook_74 : decode cX3_addHook 74 = .ok (.sipush 1000, 3) := by decide +kernel
theorem dX3_addHook_77 : decode cX3_addHook 77 = .ok (.iload_n 1, 1) := by decide +kernel
theorem dX3_addHook_78 : decode cX3_addHook 78 = .ok (.isub, 1) := by decide +kernel
theorem dX3_addHook_79 : decode cX3_addHook 79 = .ok (.i2l, 1) := by decide +kernel
theorem dX3_addHook_80 : decode cX3_addHook 80 = .ok (.lmul, 1) := by decide +kernel
theorem dX3_addHook_81 : decode cX3_addHook 81 = .ok (.ldc2_w 25, 3) := by decide +kernel
theorem dX3_addHook_84 : decode cX3_addHook 84 = .ok (.ldiv, 1) := by decide +kernel
theorem dX3_addHook_85 : decode cX3_addHook 85 = .ok (.lload_n 3, 1) := by decide +kernel
theorem dX3_addHook_86 : decode cX3_addHook 86 = .ok (.ladd, 1) := by decide +kernel
theorem dX3_addHook_87 : decode cX3_addHook 87 = .ok (.lastore, 1) := by decide +kernel
theorem dX3_addHook_88 : decode cX3_addHook 88 = .ok (.iinc 2 (-1), 3) := by decide +kernel
theorem dX3_addHook_91 : decode cX3_addHook 91 = .ok (.goto (-56), 3) := by decide +kernel
theorem dX3_addHook_94 : decode cX3_addHook 94 = .ok (.return_, 1) := by decide +kernel
theorem dX3_from_0 : decode cX3_from 0 = .ok (.lconst 0, 1) := by decide +kernel
theorem dX3_from_1 : decode cX3_from 1 = .ok (.lstore_n 2, 1) := by decide +kernel
theorem dX3_from_2 : decode cX3_from 2 = .ok (.iload_n 1, 1) := by decide +kernel
theorem dX3_from_3 : decode cX3_from 3 = .ok (.istore 4, 2) := by decide +kernel
theorem dX3_from_5 : decode cX3_from 5 = .ok (.iload 4, 2) := by decide +kernel
theorem dX3_from_7 : decode cX3_from 7 = .ok (.aload_n 0, 1) := by decide +kernel
theorem dX3_from_8 : decode cX3_from 8 = .ok (.getfield 15, 3) := by decide +kernel
theorem dX3_from_11 : decode cX3_from 11 = .ok (.if_icmp .gt 19, 3) := by decide +kernel
theorem dX3_from_14 : decode cX3_from 14 = .ok (.lload_n 2, 1) := by decide +kernel
theorem dX3_from_15 : decode cX3_from 15 = .ok (.aload_n 0, 1) := by decide +kernel
theorem dX3_from_16 : decode cX3_from 16 = .ok (.getfield 9, 3) := by decide +kernel
theorem dX3_from_19 : decode cX3_from 19 = .ok (.iload 4, 2) := by decide +kernel
theorem dX3_from_21 : decode cX3_from 21 = .ok (.laload, 1) := by decide +kernel
theorem dX3_from_22 : decode cX3_from 22 = .ok (.ladd, 1) := by decide +kernel
theorem dX3_from_23 : decode cX3_from 23 = .ok (.lstore_n 2, 1) := by decide +kernel
theorem dX3_from_24 : decode cX3_from 24 = .ok (.iinc 4 1, 3) := by decide +kernel
theorem dX3_from_27 : decode cX3_from 27 = .ok (.goto (-22), 3) := by decide +kernel
theorem dX3_from_30 : decode cX3_from 30 = .ok (.lload_n 2, 1) := by decide +kernel
theorem dX3_from_31 : decode cX3_from 31 = .ok (.lreturn, 1) := by decide +kernel
theorem dX3_surest_0 : decode cX3_surest 0 = .ok (.ldc2_w 23, 3) := by decide +kernel
theorem dX3_surest_3 : decode cX3_surest 3 = .ok (.iload_n 1, 1) := by decide +kernel
theorem dX3_surest_4 : decode cX3_surest 4 = .ok (.i2l, 1) := by decide +kernel
theorem dX3_surest_5 : decode cX3_surest 5 = .ok (.lmul, 1) := by decide +kernel
theorem dX3_surest_6 : decode cX3_surest 6 = .ok (.ldc2_w 25, 3) := by decide +kernel
theorem dX3_surest_9 : decode cX3_surest 9 = .ok (.ldiv, 1) := by decide +kernel
theorem dX3_surest_10 : decode cX3_surest 10 = .ok (.lstore_n 2, 1) := by decide +kernel
theorem dX3_surest_11 : decode cX3_surest 11 = .ok (.lconst 0, 1) := by decide +kernel
theorem dX3_surest_12 : decode cX3_surest 12 = .ok (.lstore 4, 2) := by decide +kernel
theorem dX3_surest_14 : decode cX3_surest 14 = .ok (.aload_n 0, 1) := by decide +kernel
theorem dX3_surest_15 : decode cX3_surest 15 = .ok (.getfield 15, 3) := by decide +kernel
theorem dX3_surest_18 : decode cX3_surest 18 = .ok (.istore 6, 2) := by decide +kernel
theorem dX3_surest_20 : decode cX3_surest 20 = .ok (.iload 6, 2) := by decide +kernel
theorem dX3_surest_22 : decode cX3_surest 22 = .ok (.ifCond .lt 31, 3) := by decide +kernel
theorem dX3_surest_25 : decode cX3_surest 25 = .ok (.lload 4, 2) := by decide +kernel
theorem dX3_surest_27 : decode cX3_surest 27 = .ok (.aload_n 0, 1) := by decide +kernel
theorem dX3_surest_28 : decode cX3_surest 28 = .ok (.getfield 9, 3) := by decide +kernel
theorem dX3_surest_31 : decode cX3_surest 31 = .ok (.iload 6, 2) := by decide +kernel
theorem dX3_surest_33 : decode cX3_surest 33 = .ok (.laload, 1) := by decide +kernel
theorem dX3_surest_34 : decode cX3_surest 34 = .ok (.ladd, 1) := by decide +kernel
theorem dX3_surest_35 : decode cX3_surest 35 = .ok (.lstore 4, 2) := by decide +kernel
theorem dX3_surest_37 : decode cX3_surest 37 = .ok (.lload 4, 2) := by decide +kernel
theorem dX3_surest_39 : decode cX3_surest 39 = .ok (.lload_n 2, 1) := by decide +kernel
theorem dX3_surest_40 : decode cX3_surest 40 = .ok (.lcmp, 1) := by decide +kernel
theorem dX3_surest_41 : decode cX3_surest 41 = .ok (.ifCond .lt 6, 3) := by decide +kernel
theorem dX3_surest_44 : decode cX3_surest 44 = .ok (.iload 6, 2) := by decide +kernel
theorem dX3_surest_46 : decode cX3_surest 46 = .ok (.ireturn, 1) := by decide +kernel
theorem dX3_surest_47 : decode cX3_surest 47 = .ok (.iinc 6 (-1), 3) := by decide +kernel
theorem dX3_surest_50 : decode cX3_surest 50 = .ok (.goto (-30), 3) := by decide +kernel
theorem dX3_surest_53 : decode cX3_surest 53 = .ok (.iconst 0, 1) := by decide +kernel
theorem dX3_surest_54 : decode cX3_surest 54 = .ok (.ireturn, 1) := by decide +kernel
theorem dX4_init_0 : decode cX4_init 0 = .ok (.aload_n 0, 1) := by decide +kernel
theorem dX4_init_1 : decode cX4_init 1 = .ok (.invokespecial 3, 3) := by decide +kernel
theorem dX4_init_4 : decode cX4_init 4 = .ok (.aload_n 0, 1) := by decide +kernel
theorem dX4_init_5 : decode cX4_init 5 = .ok (.bipush 12, 2) := by decide +kernel
theorem dX4_init_7 : decode cX4_init 7 = .ok (.newarray .int, 2) := by decide +kernel
theorem dX4_init_9 : decode cX4_init 9 = .ok (.putfield 11, 3) := by decide +kernel
theorem dX4_init_12 : decode cX4_init 12 = .ok (.aload_n 0, 1) := by decide +kernel
theorem dX4_init_13 : decode cX4_init 13 = .ok (.bipush 12, 2) := by decide +kernel
theorem dX4_init_15 : decode cX4_init 15 = .ok (.newarray .int, 2) := by decide +kernel
theorem dX4_init_17 : decode cX4_init 17 = .ok (.putfield 15, 3) := by decide +kernel
theorem dX4_init_20 : decode cX4_init 20 = .ok (.aload_n 0, 1) := by decide +kernel
theorem dX4_init_21 : decode cX4_init 21 = .ok (.bipush 12, 2) := by decide +kernel
theorem dX4_init_23 : decode cX4_init 23 = .ok (.newarray .int, 2) := by decide +kernel
theorem dX4_init_25 : decode cX4_init 25 = .ok (.putfield 18, 3) := by decide +kernel
theorem dX4_init_28 : decode cX4_init 28 = .ok (.aload_n 0, 1) := by decide +kernel
theorem dX4_init_29 : decode cX4_init 29 = .ok (.bipush 8, 2) := by decide +kernel
theorem dX4_init_31 : decode cX4_init 31 = .ok (.newarray .int, 2) := by decide +kernel
theorem dX4_init_33 : decode cX4_init 33 = .ok (.putfield 21, 3) := by decide +kernel
theorem dX4_init_36 : decode cX4_init 36 = .ok (.aload_n 0, 1) := by decide +kernel
theorem dX4_init_37 : decode cX4_init 37 = .ok (.bipush 8, 2) := by decide +kernel
theorem dX4_init_39 : decode cX4_init 39 = .ok (.newarray .int, 2) := by decide +kernel
theorem dX4_init_41 : decode cX4_init 41 = .ok (.putfield 24, 3) := by decide +kernel
theorem dX4_init_44 : decode cX4_init 44 = .ok (.aload_n 0, 1) := by decide +kernel
theorem dX4_init_45 : decode cX4_init 45 = .ok (.iconst 0, 1) := by decide +kernel
theorem dX4_init_46 : decode cX4_init 46 = .ok (.putfield 27, 3) := by decide +kernel
theorem dX4_init_49 : decode cX4_init 49 = .ok (.aload_n 0, 1) := by decide +kernel
theorem dX4_init_50 : decode cX4_init 50 = .ok (.iconst 0, 1) := by decide +kernel
theorem dX4_init_51 : decode cX4_init 51 = .ok (.putfield 31, 3) := by decide +kernel
theorem dX4_init_54 : decode cX4_init 54 = .ok (.aload_n 0, 1) := by decide +kernel
theorem dX4_init_55 : decode cX4_init 55 = .ok (.iconst 0, 1) := by decide +kernel
theorem dX4_init_56 : decode cX4_init 56 = .ok (.putfield 34, 3) := by decide +kernel
theorem dX4_init_59 : decode cX4_init 59 = .ok (.aload_n 0, 1) := by decide +kernel
theorem dX4_init_60 : decode cX4_init 60 = .ok (.iconst 0, 1) := by decide +kernel
theorem dX4_init_61 : decode cX4_init 61 = .ok (.putfield 37, 3) := by decide +kernel
theorem dX4_init_64 : decode cX4_init 64 = .ok (.return_, 1) := by decide +kernel
theorem dX4_addPatch_0 : decode cX4_addPatch 0 = .ok (.aload_n 0, 1) := by decide +kernel
theorem dX4_addPatch_1 : decode cX4_addPatch 1 = .ok (.getfield 27, 3) := by decide +kernel
theorem dX4_addPatch_4 : decode cX4_addPatch 4 = .ok (.bipush 12, 2) := by decide +kernel
theorem dX4_addPatch_6 : decode cX4_addPatch 6 = .ok (.if_icmp .lt 5, 3) := by decide +kernel
theorem dX4_addPatch_9 : decode cX4_addPatch 9 = .ok (.iconst (-1), 1) := by decide +kernel
theorem dX4_addPatch_10 : decode cX4_addPatch 10 = .ok (.ireturn, 1) := by decide +kernel
theorem dX4_addPatch_11 : decode cX4_addPatch 11 = .ok (.aload_n 0, 1) := by decide +kernel
theorem dX4_addPatch_12 : decode cX4_addPatch 12 = .ok (.getfield 11, 3) := by decide +kernel
theorem dX4_addPatch_15 : decode cX4_addPatch 15 = .ok (.aload_n 0, 1) := by decide +kernel
theorem dX4_addPatch_16 : decode cX4_addPatch 16 = .ok (.getfield 27, 3) := by decide +kernel
theorem dX4_addPatch_19 : decode cX4_addPatch 19 = .ok (.iload_n 1, 1) := by decide +kernel
theorem dX4_addPatch_20 : decode cX4_addPatch 20 = .ok (.iastore, 1) := by decide +kernel
theorem dX4_addPatch_21 : decode cX4_addPatch 21 = .ok (.aload_n 0, 1) := by decide +kernel
theorem dX4_addPatch_22 : decode cX4_addPatch 22 = .ok (.getfield 15, 3) := by decide +kernel
theorem dX4_addPatch_25 : decode cX4_addPatch 25 = .ok (.aload_n 0, 1) := by decide +kernel
theorem dX4_addPatch_26 : decode cX4_addPatch 26 = .ok (.getfield 27, 3) := by decide +kernel
theorem dX4_addPatch_29 : decode cX4_addPatch 29 = .ok (.iload_n 2, 1) := by decide +kernel
theorem dX4_addPatch_30 : decode cX4_addPatch 30 = .ok (.iastore, 1) := by decide +kernel
theorem dX4_addPatch_31 : decode cX4_addPatch 31 = .ok (.aload_n 0, 1) := by decide +kernel
theorem dX4_addPatch_32 : decode cX4_addPatch 32 = .ok (.getfield 18, 3) := by decide +kernel
theorem dX4_addPatch_35 : decode cX4_addPatch 35 = .ok (.aload_n 0, 1) := by decide +kernel
theorem dX4_addPatch_36 : decode cX4_addPatch 36 = .ok (.getfield 27, 3) := by decide +kernel
theorem dX4_addPatch_39 : decode cX4_addPatch 39 = .ok (.iload_n 3, 1) := by decide +kernel
theorem dX4_addPatch_40 : decode cX4_addPatch 40 = .ok (.iastore, 1) := by decide +kernel
theorem dX4_addPatch_41 : decode cX4_addPatch 41 = .ok (.aload_n 0, 1) := by decide +kernel
theorem dX4_addPatch_42 : decode cX4_addPatch 42 = .ok (.dup, 1) := by decide +kernel
theorem dX4_addPatch_43 : decode cX4_addPatch 43 = .ok (.getfield 27, 3) := by decide +kernel
theorem dX4_addPatch_46 : decode cX4_addPatch 46 = .ok (.iconst 1, 1) := by decide +kernel
theorem dX4_addPatch_47 : decode cX4_addPatch 47 = .ok (.iadd, 1) := by decide +kernel
theorem dX4_addPatch_48 : decode cX4_addPatch 48 = .ok (.putfield 27, 3) := by decide +kernel
theorem dX4_addPatch_51 : decode cX4_addPatch 51 = .ok (.aload_n 0, 1) := by decide +kernel
theorem dX4_addPatch_52 : decode cX4_addPatch 52 = .ok (.getfield 27, 3) := by decide +kernel
theorem dX4_addPatch_55 : decode cX4_addPatch 55 = .ok (.ireturn, 1) := by decide +kernel
theorem dX4_addPull_0 : decode cX4_addPull 0 = .ok (.aload_n 0, 1) := by decide +kernel
theorem dX4_addPull_1 : decode cX4_addPull 1 = .ok (.getfield 31, 3) := by decide +kernel
theorem dX4_addPull_4 : decode cX4_addPull 4 = .ok (.bipush 8, 2) := by decide +kernel
theorem dX4_addPull_6 : decode cX4_addPull 6 = .ok (.if_icmp .lt 5, 3) := by decide +kernel
theorem dX4_addPull_9 : decode cX4_addPull 9 = .ok (.iconst (-1), 1) := by decide +kernel
theorem dX4_addPull_10 : decode cX4_addPull 10 = .ok (.ireturn, 1) := by decide +kernel
theorem dX4_addPull_11 : decode cX4_addPull 11 = .ok (.aload_n 0, 1) := by decide +kernel
theorem dX4_addPull_12 : decode cX4_addPull 12 = .ok (.getfield 21, 3) := by decide +kernel
theorem dX4_addPull_15 : decode cX4_addPull 15 = .ok (.aload_n 0, 1) := by decide +kernel
theorem dX4_addPull_16 : decode cX4_addPull 16 = .ok (.getfield 31, 3) := by decide +kernel
theorem dX4_addPull_19 : decode cX4_addPull 19 = .ok (.iload_n 1, 1) := by decide +kernel
theorem dX4_addPull_20 : decode cX4_addPull 20 = .ok (.iastore, 1) := by decide +kernel
theorem dX4_addPull_21 : decode cX4_addPull 21 = .ok (.aload_n 0, 1) := by decide +kernel
theorem dX4_addPull_22 : decode cX4_addPull 22 = .ok (.getfield 24, 3) := by decide +kernel
theorem dX4_addPull_25 : decode cX4_addPull 25 = .ok (.aload_n 0, 1) := by decide +kernel
theorem dX4_addPull_26 : decode cX4_addPull 26 = .ok (.getfield 31, 3) := by decide +kernel
theorem dX4_addPull_29 : decode cX4_addPull 29 = .ok (.iload_n 2, 1) := by decide +kernel
theorem dX4_addPull_30 : decode cX4_addPull 30 = .ok (.iastore, 1) := by decide +kernel
theorem dX4_addPull_31 : decode cX4_addPull 31 = .ok (.aload_n 0, 1) := by decide +kernel
theorem dX4_addPull_32 : decode cX4_addPull 32 = .ok (.dup, 1) := by decide +kernel
theorem dX4_addPull_33 : decode cX4_addPull 33 = .ok (.getfield 31, 3) := by decide +kernel
theorem dX4_addPull_36 : decode cX4_addPull 36 = .ok (.iconst 1, 1) := by decide +kernel
theorem dX4_addPull_37 : decode cX4_addPull 37 = .ok (.iadd, 1) := by decide +kernel
theorem dX4_addPull_38 : decode cX4_addPull 38 = .ok (.putfield 31, 3) := by decide +kernel
theorem dX4_addPull_41 : decode cX4_addPull 41 = .ok (.aload_n 0, 1) := by decide +kernel
theorem dX4_addPull_42 : decode cX4_addPull 42 = .ok (.getfield 31, 3) := by decide +kernel
theorem dX4_addPull_45 : decode cX4_addPull 45 = .ok (.ireturn, 1) := by decide +kernel
theorem dX4_pick_0 : decode cX4_pick 0 = .ok (.aload_n 0, 1) := by decide +kernel
theorem dX4_pick_1 : decode cX4_pick 1 = .ok (.iload_n 1, 1) := by decide +kernel
theorem dX4_pick_2 : decode cX4_pick 2 = .ok (.putfield 40, 3) := by decide +kernel
theorem dX4_pick_5 : decode cX4_pick 5 = .ok (.aload_n 0, 1) := by decide +kernel
theorem dX4_pick_6 : decode cX4_pick 6 = .ok (.iload_n 2, 1) := by decide +kernel
theorem dX4_pick_7 : decode cX4_pick 7 = .ok (.putfield 43, 3) := by decide +kernel
theorem dX4_pick_10 : decode cX4_pick 10 = .ok (.aload_n 0, 1) := by decide +kernel
theorem dX4_pick_11 : decode cX4_pick 11 = .ok (.ldc 46, 2) := by decide +kernel
theorem dX4_pick_13 : decode cX4_pick 13 = .ok (.putfield 47, 3) := by decide +kernel
theorem dX4_pick_16 : decode cX4_pick 16 = .ok (.aload_n 0, 1) := by decide +kernel
theorem dX4_pick_17 : decode cX4_pick 17 = .ok (.iconst 0, 1) := by decide +kernel
theorem dX4_pick_18 : decode cX4_pick 18 = .ok (.putfield 50, 3) := by decide +kernel
theorem dX4_pick_21 : decode cX4_pick 21 = .ok (.aload_n 0, 1) := by decide +kernel
theorem dX4_pick_22 : decode cX4_pick 22 = .ok (.iconst (-1), 1) := by decide +kernel
theorem dX4_pick_23 : decode cX4_pick 23 = .ok (.putfield 53, 3) := by decide +kernel
theorem dX4_pick_26 : decode cX4_pick 26 = .ok (.iconst 1, 1) := by decide +kernel
theorem dX4_pick_27 : decode cX4_pick 27 = .ok (.aload_n 0, 1) := by decide +kernel
theorem dX4_pick_28 : decode cX4_pick 28 = .ok (.getfield 27, 3) := by decide +kernel
theorem dX4_pick_31 : decode cX4_pick 31 = .ok (.ishl, 1) := by decide +kernel
theorem dX4_pick_32 : decode cX4_pick 32 = .ok (.iconst 1, 1) := by decide +kernel
theorem dX4_pick_33 : decode cX4_pick 33 = .ok (.isub, 1) := by decide +kernel
theorem dX4_pick_34 : decode cX4_pick 34 = .ok (.istore_n 3, 1) := by decide +kernel
theorem dX4_pick_35 : decode cX4_pick 35 = .ok (.aload_n 0, 1) := by decide +kernel
theorem dX4_pick_36 : decode cX4_pick 36 = .ok (.iload_n 3, 1) := by decide +kernel
theorem dX4_pick_37 : decode cX4_pick 37 = .ok (.invokevirtual 56, 3) := by decide +kernel
theorem dX4_pick_40 : decode cX4_pick 40 = .ok (.ifCond .eq 12, 3) := by decide +kernel
theorem dX4_pick_43 : decode cX4_pick 43 = .ok (.aload_n 0, 1) := by decide +kernel
theorem dX4_pick_44 : decode cX4_pick 44 = .ok (.iconst 0, 1) := by decide +kernel
theorem dX4_pick_45 : decode cX4_pick 45 = .ok (.iload_n 3, 1) := by decide +kernel
theorem dX4_pick_46 : decode cX4_pick 46 = .ok (.iconst 0, 1) := by decide +kernel
theorem dX4_pick_47 : decode cX4_pick 47 = .ok (.iconst 0, 1) := by decide +kernel
theorem dX4_pick_48 : decode cX4_pick 48 = .ok (.iconst 0, 1) := by decide +kernel
theorem dX4_pick_49 : decode cX4_pick 49 = .ok (.invokevirtual 60, 3) := by decide +kernel
theorem dX4_pick_52 : decode cX4_pick 52 = .ok (.aload_n 0, 1) := by decide +kernel
theorem dX4_pick_53 : decode cX4_pick 53 = .ok (.getfield 53, 3) := by decide +kernel
theorem dX4_pick_56 : decode cX4_pick 56 = .ok (.iconst (-1), 1) := by decide +kernel
theorem dX4_pick_57 : decode cX4_pick 57 = .ok (.if_icmp .ne 5, 3) := by decide +kernel
theorem dX4_pick_60 : decode cX4_pick 60 = .ok (.iconst (-1), 1) := by decide +kernel
theorem dX4_pick_61 : decode cX4_pick 61 = .ok (.ireturn, 1) := by decide +kernel
theorem dX4_pick_62 : decode cX4_pick 62 = .ok (.aload_n 0, 1) := by decide +kernel
theorem dX4_pick_63 : decode cX4_pick 63 = .ok (.aload_n 0, 1) := by decide +kernel
theorem dX4_pick_64 : decode cX4_pick 64 = .ok (.getfield 53, 3) := by decide +kernel
theorem dX4_pick_67 : decode cX4_pick 67 = .ok (.putfield 34, 3) := by decide +kernel
theorem dX4_pick_70 : decode cX4_pick 70 = .ok (.aload_n 0, 1) := by decide +kernel
theorem dX4_pick_71 : decode cX4_pick 71 = .ok (.aload_n 0, 1) := by decide +kernel
theorem dX4_pick_72 : decode cX4_pick 72 = .ok (.getfield 27, 3) := by decide +kernel
theorem dX4_pick_75 : decode cX4_pick 75 = .ok (.putfield 37, 3) := by decide +kernel
theorem dX4_pick_78 : decode cX4_pick 78 = .ok (.aload_n 0, 1) := by decide +kernel
theorem dX4_pick_79 : decode cX4_pick 79 = .ok (.getfield 47, 3) := by decide +kernel
theorem dX4_pick_82 : decode cX4_pick 82 = .ok (.ireturn, 1) := by decide +kernel
theorem dX4_search_0 : decode cX4_search 0 = .ok (.iload 5, 2) := by decide +kernel
theorem dX4_search_2 : decode cX4_search 2 = .ok (.aload_n 0, 1) := by decide +kernel
theorem dX4_search_3 : decode cX4_search 3 = .ok (.getfield 43, 3) := by decide +kernel
theorem dX4_search_6 : decode cX4_search 6 = .ok (.if_icmp .gt 28, 3) := by decide +kernel
theorem dX4_search_9 : decode cX4_search 9 = .ok (.iload_n 3, 1) := by decide +kernel
theorem dX4_search_10 : decode cX4_search 10 = .ok (.aload_n 0, 1) := by decide +kernel
theorem dX4_search_11 : decode cX4_search 11 = .ok (.getfield 47, 3) := by decide +kernel
theorem dX4_search_14 : decode cX4_search 14 = .ok (.if_icmp .gt 20, 3) := by decide +kernel
theorem dX4_search_17 : decode cX4_search 17 = .ok (.iload_n 3, 1) := by decide +kernel
theorem dX4_search_18 : decode cX4_search 18 = .ok (.aload_n 0, 1) := by decide +kernel
theorem dX4_search_19 : decode cX4_search 19 = .ok (.getfield 47, 3) := by decide +kernel
theorem dX4_search_22 : decode cX4_search 22 = .ok (.if_icmp .ne 13, 3) := by decide +kernel
theorem dX4_search_25 : decode cX4_search 25 = .ok (.iload 4, 2) := by decide +kernel
theorem dX4_search_27 : decode cX4_search 27 = .ok (.aload_n 0, 1) := by decide +kernel
theorem dX4_search_28 : decode cX4_search 28 = .ok (.getfield 50, 3) := by decide +kernel
theorem dX4_search_31 : decode cX4_search 31 = .ok (.if_icmp .lt 4, 3) := by decide +kernel
theorem dX4_search_34 : decode cX4_search 34 = .ok (.return_, 1) := by decide +kernel
theorem dX4_search_35 : decode cX4_search 35 = .ok (.iload_n 1, 1) := by decide +kernel
theorem dX4_search_36 : decode cX4_search 36 = .ok (.aload_n 0, 1) := by decide +kernel
theorem dX4_search_37 : decode cX4_search 37 = .ok (.getfield 27, 3) := by decide +kernel
theorem dX4_search_40 : decode cX4_search 40 = .ok (.if_icmp .lt 20, 3) := by decide +kernel
theorem dX4_search_43 : decode cX4_search 43 = .ok (.aload_n 0, 1) := by decide +kernel
theorem dX4_search_44 : decode cX4_search 44 = .ok (.iload_n 3, 1) := by decide +kernel
theorem dX4_search_45 : decode cX4_search 45 = .ok (.putfield 47, 3) := by decide +kernel
theorem dX4_search_48 : decode cX4_search 48 = .ok (.aload_n 0, 1) := by decide +kernel
theorem dX4_search_49 : decode cX4_search 49 = .ok (.iload 4, 2) := by decide +kernel
theorem dX4_search_51 : decode cX4_search 51 = .ok (.putfield 50, 3) := by decide +kernel
theorem dX4_search_54 : decode cX4_search 54 = .ok (.aload_n 0, 1) := by decide +kernel
theorem dX4_search_55 : decode cX4_search 55 = .ok (.iload_n 2, 1) := by decide +kernel
theorem dX4_search_56 : decode cX4_search 56 = .ok (.putfield 53, 3) := by decide +kernel
theorem dX4_search_59 : decode cX4_search 59 = .ok (.return_, 1) := by decide +kernel
theorem dX4_search_60 : decode cX4_search 60 = .ok (.aload_n 0, 1) := by decide +kernel
theorem dX4_search_61 : decode cX4_search 61 = .ok (.iload_n 1, 1) := by decide +kernel
theorem dX4_search_62 : decode cX4_search 62 = .ok (.iconst 1, 1) := by decide +kernel
theorem dX4_search_63 : decode cX4_search 63 = .ok (.iadd, 1) := by decide +kernel
theorem dX4_search_64 : decode cX4_search 64 = .ok (.iload_n 2, 1) := by decide +kernel
theorem dX4_search_65 : decode cX4_search 65 = .ok (.iload_n 3, 1) := by decide +kernel
theorem dX4_search_66 : decode cX4_search 66 = .ok (.aload_n 0, 1) := by decide +kernel
theorem dX4_search_67 : decode cX4_search 67 = .ok (.getfield 18, 3) := by decide +kernel
theorem dX4_search_70 : decode cX4_search 70 = .ok (.iload_n 1, 1) := by decide +kernel
theorem dX4_search_71 : decode cX4_search 71 = .ok (.iaload, 1) := by decide +kernel
theorem dX4_search_72 : decode cX4_search 72 = .ok (.iadd, 1) := by decide +kernel
theorem dX4_search_73 : decode cX4_search 73 = .ok (.iload 4, 2) := by decide +kernel
theorem dX4_search_75 : decode cX4_search 75 = .ok (.iconst 1, 1) := by decide +kernel
theorem dX4_search_76 : decode cX4_search 76 = .ok (.iadd, 1) := by decide +kernel
theorem dX4_search_77 : decode cX4_search 77 = .ok (.iload 5, 2) := by decide +kernel
theorem dX4_search_79 : decode cX4_search 79 = .ok (.aload_n 0, 1) := by decide +kernel
theorem dX4_search_80 : decode cX4_search 80 = .ok (.getfield 15, 3) := by decide +kernel
theorem dX4_search_83 : decode cX4_search 83 = .ok (.iload_n 1, 1) := by decide +kernel
theorem dX4_search_84 : decode cX4_search 84 = .ok (.iaload, 1) := by decide +kernel
theorem dX4_search_85 : decode cX4_search 85 = .ok (.iadd, 1) := by decide +kernel
theorem dX4_search_86 : decode cX4_search 86 = .ok (.invokevirtual 60, 3) := by decide +kernel
theorem dX4_search_89 : decode cX4_search 89 = .ok (.iload_n 2, 1) := by decide +kernel
theorem dX4_search_90 : decode cX4_search 90 = .ok (.iconst 1, 1) := by decide +kernel
theorem dX4_search_91 : decode cX4_search 91 = .ok (.iload_n 1, 1) := by decide +kernel
theorem dX4_search_92 : decode cX4_search 92 = .ok (.ishl, 1) := by decide +kernel
theorem dX4_search_93 : decode cX4_search 93 = .ok (.iconst (-1), 1) := by decide +kernel
theorem dX4_search_94 : decode cX4_search 94 = .ok (.ixor, 1) := by decide +kernel
theorem dX4_search_95 : decode cX4_search 95 = .ok (.iand, 1) := by decide +kernel
theorem dX4_search_96 : decode cX4_search 96 = .ok (.istore 6, 2) := by decide +kernel
theorem dX4_search_98 : decode cX4_search 98 = .ok (.aload_n 0, 1) := by decide +kernel
theorem dX4_search_99 : decode cX4_search 99 = .ok (.iload 6, 2) := by decide +kernel
theorem dX4_search_101 : decode cX4_search 101 = .ok (.invokevirtual 56, 3) := by decide +kernel
theorem dX4_search_104 : decode cX4_search 104 = .ok (.ifCond .eq 17, 3) := by decide +kernel
theorem dX4_search_107 : decode cX4_search 107 = .ok (.aload_n 0, 1) := by decide +kernel
theorem dX4_search_108 : decode cX4_search 108 = .ok (.iload_n 1, 1) := by decide +kernel
theorem dX4_search_109 : decode cX4_search 109 = .ok (.iconst 1, 1) := by decide +kernel
theorem dX4_search_110 : decode cX4_search 110 = .ok (.iadd, 1) := by decide +kernel
theorem dX4_search_111 : decode cX4_search 111 = .ok (.iload 6, 2) := by decide +kernel
theorem dX4_search_113 : decode cX4_search 113 = .ok (.iload_n 3, 1) := by decide +kernel
theorem dX4_search_114 : decode cX4_search 114 = .ok (.iload 4, 2) := by decide +kernel
theorem dX4_search_116 : decode cX4_search 116 = .ok (.iload 5, 2) := by decide +kernel
theorem dX4_search_118 : decode cX4_search 118 = .ok (.invokevirtual 60, 3) := by decide +kernel
theorem dX4_search_121 : decode cX4_search 121 = .ok (.return_, 1) := by decide +kernel
theorem dX4_holdsAll_0 : decode cX4_holdsAll 0 = .ok (.iconst 0, 1) := by decide +kernel
theorem dX4_holdsAll_1 : decode cX4_holdsAll 1 = .ok (.istore_n 2, 1) := by decide +kernel
theorem dX4_holdsAll_2 : decode cX4_holdsAll 2 = .ok (.iload_n 2, 1) := by decide +kernel
theorem dX4_holdsAll_3 : decode cX4_holdsAll 3 = .ok (.aload_n 0, 1) := by decide +kernel
theorem dX4_holdsAll_4 : decode cX4_holdsAll 4 = .ok (.getfield 31, 3) := by decide +kernel
theorem dX4_holdsAll_7 : decode cX4_holdsAll 7 = .ok (.if_icmp .ge 20, 3) := by decide +kernel
theorem dX4_holdsAll_10 : decode cX4_holdsAll 10 = .ok (.aload_n 0, 1) := by decide +kernel
theorem dX4_holdsAll_11 : decode cX4_holdsAll 11 = .ok (.iload_n 1, 1) := by decide +kernel
theorem dX4_holdsAll_12 : decode cX4_holdsAll 12 = .ok (.iload_n 2, 1) := by decide +kernel
theorem dX4_holdsAll_13 : decode cX4_holdsAll 13 = .ok (.invokevirtual 64, 3) := by decide +kernel
theorem dX4_holdsAll_16 : decode cX4_holdsAll 16 = .ok (.ifCond .ne 5, 3) := by decide +kernel
theorem dX4_holdsAll_19 : decode cX4_holdsAll 19 = .ok (.iconst 0, 1) := by decide +kernel
theorem dX4_holdsAll_20 : decode cX4_holdsAll 20 = .ok (.ireturn, 1) := by decide +kernel
theorem dX4_holdsAll_21 : decode cX4_holdsAll 21 = .ok (.iinc 2 1, 3) := by decide +kernel
theorem dX4_holdsAll_24 : decode cX4_holdsAll 24 = .ok (.goto (-22), 3) := by decide +kernel
theorem dX4_holdsAll_27 : decode cX4_holdsAll 27 = .ok (.iconst 1, 1) := by decide +kernel
theorem dX4_holdsAll_28 : decode cX4_holdsAll 28 = .ok (.ireturn, 1) := by decide +kernel
theorem dX4_holds_0 : decode cX4_holds 0 = .ok (.iconst 0, 1) := by decide +kernel
theorem dX4_holds_1 : decode cX4_holds 1 = .ok (.istore_n 3, 1) := by decide +kernel
theorem dX4_holds_2 : decode cX4_holds 2 = .ok (.iconst 0, 1) := by decide +kernel
theorem dX4_holds_3 : decode cX4_holds 3 = .ok (.istore 4, 2) := by decide +kernel
theorem dX4_holds_5 : decode cX4_holds 5 = .ok (.iconst 0, 1) := by decide +kernel
theorem dX4_holds_6 : decode cX4_holds 6 = .ok (.istore 5, 2) := by decide +kernel
theorem dX4_holds_8 : decode cX4_holds 8 = .ok (.iload 5, 2) := by decide +kernel
theorem dX4_holds_10 : decode cX4_holds 10 = .ok (.aload_n 0, 1) := by decide +kernel
theorem dX4_holds_11 : decode cX4_holds 11 = .ok (.getfield 27, 3) := by decide +kernel
theorem dX4_holds_14 : decode cX4_holds 14 = .ok (.if_icmp .ge 67, 3) := by decide +kernel
theorem dX4_holds_17 : decode cX4_holds 17 = .ok (.iload_n 1, 1) := by decide +kernel
theorem dX4_holds_18 : decode cX4_holds 18 = .ok (.iload 5, 2) := by decide +kernel
theorem dX4_holds_20 : decode cX4_holds 20 = .ok (.ishr, 1) := by decide +kernel
theorem dX4_holds_21 : decode cX4_holds 21 = .ok (.iconst 1, 1) := by decide +kernel
theorem dX4_holds_22 : decode cX4_holds 22 = .ok (.iand, 1) := by decide +kernel
theorem dX4_holds_23 : decode cX4_holds 23 = .ok (.iconst 1, 1) := by decide +kernel
theorem dX4_holds_24 : decode cX4_holds 24 = .ok (.if_icmp .ne 51, 3) := by decide +kernel
theorem dX4_holds_27 : decode cX4_holds 27 = .ok (.aload_n 0, 1) := by decide +kernel
theorem dX4_holds_28 : decode cX4_holds 28 = .ok (.getfield 11, 3) := by decide +kernel
theorem dX4_holds_31 : decode cX4_holds 31 = .ok (.iload 5, 2) := by decide +kernel
theorem dX4_holds_33 : decode cX4_holds 33 = .ok (.iaload, 1) := by decide +kernel
theorem dX4_holds_34 : decode cX4_holds 34 = .ok (.aload_n 0, 1) := by decide +kernel
theorem dX4_holds_35 : decode cX4_holds 35 = .ok (.getfield 21, 3) := by decide +kernel
theorem dX4_holds_38 : decode cX4_holds 38 = .ok (.iload_n 2, 1) := by decide +kernel
theorem dX4_holds_39 : decode cX4_holds 39 = .ok (.iaload, 1) := by decide +kernel
theorem dX4_holds_40 : decode cX4_holds 40 = .ok (.isub, 1) := by decide +kernel
theorem dX4_holds_41 : decode cX4_holds 41 = .ok (.invokestatic 68, 3) := by decide +kernel
theorem dX4_holds_44 : decode cX4_holds 44 = .ok (.aload_n 0, 1) := by decide +kernel
theorem dX4_holds_45 : decode cX4_holds 45 = .ok (.getfield 40, 3) := by decide +kernel
theorem dX4_holds_48 : decode cX4_holds 48 = .ok (.if_icmp .gt 27, 3) := by decide +kernel
theorem dX4_holds_51 : decode cX4_holds 51 = .ok (.iload_n 3, 1) := by decide +kernel
theorem dX4_holds_52 : decode cX4_holds 52 = .ok (.aload_n 0, 1) := by decide +kernel
theorem dX4_holds_53 : decode cX4_holds 53 = .ok (.getfield 15, 3) := by decide +kernel
theorem dX4_holds_56 : decode cX4_holds 56 = .ok (.iload 5, 2) := by decide +kernel
theorem dX4_holds_58 : decode cX4_holds 58 = .ok (.iaload, 1) := by decide +kernel
theorem dX4_holds_59 : decode cX4_holds 59 = .ok (.iadd, 1) := by decide +kernel
theorem dX4_holds_60 : decode cX4_holds 60 = .ok (.istore_n 3, 1) := by decide +kernel
theorem dX4_holds_61 : decode cX4_holds 61 = .ok (.iload 4, 2) := by decide +kernel
theorem dX4_holds_63 : decode cX4_holds 63 = .ok (.aload_n 0, 1) := by decide +kernel
theorem dX4_holds_64 : decode cX4_holds 64 = .ok (.getfield 15, 3) := by decide +kernel
theorem dX4_holds_67 : decode cX4_holds 67 = .ok (.iload 5, 2) := by decide +kernel
theorem dX4_holds_69 : decode cX4_holds 69 = .ok (.iaload, 1) := by decide +kernel
theorem dX4_holds_70 : decode cX4_holds 70 = .ok (.invokestatic 74, 3) := by decide +kernel
theorem dX4_holds_73 : decode cX4_holds 73 = .ok (.istore 4, 2) := by decide +kernel
theorem dX4_holds_75 : decode cX4_holds 75 = .ok (.iinc 5 1, 3) := by decide +kernel
theorem dX4_holds_78 : decode cX4_holds 78 = .ok (.goto (-70), 3) := by decide +kernel
theorem dX4_holds_81 : decode cX4_holds 81 = .ok (.iload_n 3, 1) := by decide +kernel
theorem dX4_holds_82 : decode cX4_holds 82 = .ok (.iload 4, 2) := by decide +kernel
theorem dX4_holds_84 : decode cX4_holds 84 = .ok (.isub, 1) := by decide +kernel
theorem dX4_holds_85 : decode cX4_holds 85 = .ok (.aload_n 0, 1) := by decide +kernel
theorem dX4_holds_86 : decode cX4_holds 86 = .ok (.getfield 24, 3) := by decide +kernel
theorem dX4_holds_89 : decode cX4_holds 89 = .ok (.iload_n 2, 1) := by decide +kernel
theorem dX4_holds_90 : decode cX4_holds 90 = .ok (.iaload, 1) := by decide +kernel
theorem dX4_holds_91 : decode cX4_holds 91 = .ok (.if_icmp .lt 7, 3) := by decide +kernel
theorem dX4_holds_94 : decode cX4_holds 94 = .ok (.iconst 1, 1) := by decide +kernel
theorem dX4_holds_95 : decode cX4_holds 95 = .ok (.goto 4, 3) := by decide +kernel
theorem dX4_holds_98 : decode cX4_holds 98 = .ok (.iconst 0, 1) := by decide +kernel
theorem dX4_holds_99 : decode cX4_holds 99 = .ok (.ireturn, 1) := by decide +kernel
theorem dX5_init_0 : decode cX5_init 0 = .ok (.aload_n 0, 1) := by decide +kernel
theorem dX5_init_1 : decode cX5_init 1 = .ok (.invokespecial 3, 3) := by decide +kernel
theorem dX5_init_4 : decode cX5_init 4 = .ok (.aload_n 0, 1) := by decide +kernel
theorem dX5_init_5 : decode cX5_init 5 = .ok (.bipush 8, 2) := by decide +kernel
theorem dX5_init_7 : decode cX5_init 7 = .ok (.newarray .int, 2) := by decide +kernel
theorem dX5_init_9 : decode cX5_init 9 = .ok (.putfield 9, 3) := by decide +kernel
theorem dX5_init_12 : decode cX5_init 12 = .ok (.aload_n 0, 1) := by decide +kernel
