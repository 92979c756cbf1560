theorem dX0_init_0 : decode cX0_init 0 = .ok (.aload_n 0, 1) := by decide +kernel
theorem dX0_init_1 : decode cX0_init 1 = .ok (.invokespecial 3, 3) := by decide +kernel
theorem dX0_init_4 : decode cX0_init 4 = .ok (.aload_n 0, 1) := by decide +kernel
theorem dX0_init_5 : decode cX0_init 5 = .ok (.bipush 40, 2) := by decide +kernel
theorem dX0_init_7 : decode cX0_init 7 = .ok (.newarray .int, 2) := by decide +kernel
theorem dX0_init_9 : decode cX0_init 9 = .ok (.putfield 11, 3) := by decide +kernel
theorem dX0_init_12 : decode cX0_init 12 = .ok (.aload_n 0, 1) := by decide +kernel
theorem dX0_init_13 : decode cX0_init 13 = .ok (.bipush 40, 2) := by decide +kernel
theorem dX0_init_15 : decode cX0_init 15 = .ok (.newarray .int, 2) := by decide +kernel
theorem dX0_init_17 : decode cX0_init 17 = .ok (.putfield 15, 3) := by decide +kernel
theorem dX0_init_20 : decode cX0_init 20 = .ok (.aload_n 0, 1) := by decide +kernel
theorem dX0_init_21 : decode cX0_init 21 = .ok (.sipush 1280, 3) := by decide +kernel
theorem dX0_init_24 : decode cX0_init 24 = .ok (.newarray .int, 2) := by decide +kernel
theorem dX0_init_26 : decode cX0_init 26 = .ok (.putfield 18, 3) := by decide +kernel
theorem dX0_init_29 : decode cX0_init 29 = .ok (.return_, 1) := by decide +kernel
theorem dX0_movesTo_0 : decode cX0_movesTo 0 = .ok (.iload_n 1, 1) := by decide +kernel
theorem dX0_movesTo_1 : decode cX0_movesTo 1 = .ok (.ifCond .lt 20, 3) := by decide +kernel
theorem dX0_movesTo_4 : decode cX0_movesTo 4 = .ok (.iload_n 1, 1) := by decide +kernel
theorem dX0_movesTo_5 : decode cX0_movesTo 5 = .ok (.aload_n 0, 1) := by decide +kernel
theorem dX0_movesTo_6 : decode cX0_movesTo 6 = .ok (.getfield 21, 3) := by decide +kernel
theorem dX0_movesTo_9 : decode cX0_movesTo 9 = .ok (.if_icmp .ge 12, 3) := by decide +kernel
theorem dX0_movesTo_12 : decode cX0_movesTo 12 = .ok (.aload_n 0, 1) := by decide +kernel
theorem dX0_movesTo_13 : decode cX0_movesTo 13 = .ok (.getfield 15, 3) := by decide +kernel
theorem dX0_movesTo_16 : decode cX0_movesTo 16 = .ok (.iload_n 1, 1) := by decide +kernel
theorem dX0_movesTo_17 : decode cX0_movesTo 17 = .ok (.iaload, 1) := by decide +kernel
theorem dX0_movesTo_18 : decode cX0_movesTo 18 = .ok (.goto 4, 3) := by decide +kernel
theorem dX0_movesTo_21 : decode cX0_movesTo 21 = .ok (.iconst 0, 1) := by decide +kernel
theorem dX0_movesTo_22 : decode cX0_movesTo 22 = .ok (.ireturn, 1) := by decide +kernel
theorem dX0_load_0 : decode cX0_load 0 = .ok (.iload_n 1, 1) := by decide +kernel
theorem dX0_load_1 : decode cX0_load 1 = .ok (.ifCond .lt 39, 3) := by decide +kernel
theorem dX0_load_4 : decode cX0_load 4 = .ok (.iload_n 1, 1) := by decide +kernel
theorem dX0_load_5 : decode cX0_load 5 = .ok (.aload_n 0, 1) := by decide +kernel
theorem dX0_load_6 : decode cX0_load 6 = .ok (.getfield 21, 3) := by decide +kernel
theorem dX0_load_9 : decode cX0_load 9 = .ok (.if_icmp .ge 31, 3) := by decide +kernel
theorem dX0_load_12 : decode cX0_load 12 = .ok (.aload_n 2, 1) := by decide +kernel
theorem dX0_load_13 : decode cX0_load 13 = .ok (.aload_n 0, 1) := by decide +kernel
theorem dX0_load_14 : decode cX0_load 14 = .ok (.getfield 11, 3) := by decide +kernel
theorem dX0_load_17 : decode cX0_load 17 = .ok (.iload_n 1, 1) := by decide +kernel
theorem dX0_load_18 : decode cX0_load 18 = .ok (.iaload, 1) := by decide +kernel
theorem dX0_load_19 : decode cX0_load 19 = .ok (.putfield 25, 3) := by decide +kernel
theorem dX0_load_22 : decode cX0_load 22 = .ok (.aload_n 0, 1) := by decide +kernel
theorem dX0_load_23 : decode cX0_load 23 = .ok (.getfield 18, 3) := by decide +kernel
theorem dX0_load_26 : decode cX0_load 26 = .ok (.iload_n 1, 1) := by decide +kernel
theorem dX0_load_27 : decode cX0_load 27 = .ok (.bipush 32, 2) := by decide +kernel
theorem dX0_load_29 : decode cX0_load 29 = .ok (.imul, 1) := by decide +kernel
theorem dX0_load_30 : decode cX0_load 30 = .ok (.aload_n 2, 1) := by decide +kernel
theorem dX0_load_31 : decode cX0_load 31 = .ok (.getfield 29, 3) := by decide +kernel
theorem dX0_load_34 : decode cX0_load 34 = .ok (.iconst 0, 1) := by decide +kernel
theorem dX0_load_35 : decode cX0_load 35 = .ok (.bipush 32, 2) := by decide +kernel
theorem dX0_load_37 : decode cX0_load 37 = .ok (.invokestatic 30, 3) := by decide +kernel
theorem dX0_load_40 : decode cX0_load 40 = .ok (.return_, 1) := by decide +kernel
theorem dX0_add_0 : decode cX0_add 0 = .ok (.iconst 0, 1) := by decide +kernel
theorem dX0_add_1 : decode cX0_add 1 = .ok (.istore_n 3, 1) := by decide +kernel
theorem dX0_add_2 : decode cX0_add 2 = .ok (.iload_n 3, 1) := by decide +kernel
theorem dX0_add_3 : decode cX0_add 3 = .ok (.aload_n 0, 1) := by decide +kernel
theorem dX0_add_4 : decode cX0_add 4 = .ok (.getfield 21, 3) := by decide +kernel
theorem dX0_add_7 : decode cX0_add 7 = .ok (.if_icmp .ge 20, 3) := by decide +kernel
theorem dX0_add_10 : decode cX0_add 10 = .ok (.aload_n 0, 1) := by decide +kernel
theorem dX0_add_11 : decode cX0_add 11 = .ok (.iload_n 3, 1) := by decide +kernel
theorem dX0_add_12 : decode cX0_add 12 = .ok (.aload_n 1, 1) := by decide +kernel
theorem dX0_add_13 : decode cX0_add 13 = .ok (.invokevirtual 36, 3) := by decide +kernel
theorem dX0_add_16 : decode cX0_add 16 = .ok (.ifCond .eq 5, 3) := by decide +kernel
theorem dX0_add_19 : decode cX0_add 19 = .ok (.iconst 0, 1) := by decide +kernel
theorem dX0_add_20 : decode cX0_add 20 = .ok (.ireturn, 1) := by decide +kernel
theorem dX0_add_21 : decode cX0_add 21 = .ok (.iinc 3 1, 3) := by decide +kernel
theorem dX0_add_24 : decode cX0_add 24 = .ok (.goto (-22), 3) := by decide +kernel
theorem dX0_add_27 : decode cX0_add 27 = .ok (.aload_n 0, 1) := by decide +kernel
theorem dX0_add_28 : decode cX0_add 28 = .ok (.getfield 21, 3) := by decide +kernel
theorem dX0_add_31 : decode cX0_add 31 = .ok (.bipush 40, 2) := by decide +kernel
theorem dX0_add_33 : decode cX0_add 33 = .ok (.if_icmp .lt 5, 3) := by decide +kernel
theorem dX0_add_36 : decode cX0_add 36 = .ok (.iconst 0, 1) := by decide +kernel
theorem dX0_add_37 : decode cX0_add 37 = .ok (.ireturn, 1) := by decide +kernel
theorem dX0_add_38 : decode cX0_add 38 = .ok (.aload_n 0, 1) := by decide +kernel
theorem dX0_add_39 : decode cX0_add 39 = .ok (.getfield 11, 3) := by decide +kernel
theorem dX0_add_42 : decode cX0_add 42 = .ok (.aload_n 0, 1) := by decide +kernel
theorem dX0_add_43 : decode cX0_add 43 = .ok (.getfield 21, 3) := by decide +kernel
theorem dX0_add_46 : decode cX0_add 46 = .ok (.aload_n 1, 1) := by decide +kernel
theorem dX0_add_47 : decode cX0_add 47 = .ok (.getfield 25, 3) := by decide +kernel
theorem dX0_add_50 : decode cX0_add 50 = .ok (.iastore, 1) := by decide +kernel
theorem dX0_add_51 : decode cX0_add 51 = .ok (.aload_n 0, 1) := by decide +kernel
theorem dX0_add_52 : decode cX0_add 52 = .ok (.getfield 15, 3) := by decide +kernel
theorem dX0_add_55 : decode cX0_add 55 = .ok (.aload_n 0, 1) := by decide +kernel
theorem dX0_add_56 : decode cX0_add 56 = .ok (.getfield 21, 3) := by decide +kernel
theorem dX0_add_59 : decode cX0_add 59 = .ok (.iload_n 2, 1) := by decide +kernel
theorem dX0_add_60 : decode cX0_add 60 = .ok (.iastore, 1) := by decide +kernel
theorem dX0_add_61 : decode cX0_add 61 = .ok (.aload_n 1, 1) := by decide +kernel
theorem dX0_add_62 : decode cX0_add 62 = .ok (.getfield 29, 3) := by decide +kernel
theorem dX0_add_65 : decode cX0_add 65 = .ok (.iconst 0, 1) := by decide +kernel
theorem dX0_add_66 : decode cX0_add 66 = .ok (.aload_n 0, 1) := by decide +kernel
theorem dX0_add_67 : decode cX0_add 67 = .ok (.getfield 18, 3) := by decide +kernel
theorem dX0_add_70 : decode cX0_add 70 = .ok (.aload_n 0, 1) := by decide +kernel
theorem dX0_add_71 : decode cX0_add 71 = .ok (.getfield 21, 3) := by decide +kernel
theorem dX0_add_74 : decode cX0_add 74 = .ok (.bipush 32, 2) := by decide +kernel
theorem dX0_add_76 : decode cX0_add 76 = .ok (.imul, 1) := by decide +kernel
theorem dX0_add_77 : decode cX0_add 77 = .ok (.bipush 32, 2) := by decide +kernel
theorem dX0_add_79 : decode cX0_add 79 = .ok (.invokestatic 30, 3) := by decide +kernel
theorem dX0_add_82 : decode cX0_add 82 = .ok (.aload_n 0, 1) := by decide +kernel
theorem dX0_add_83 : decode cX0_add 83 = .ok (.dup, 1) := by decide +kernel
theorem dX0_add_84 : decode cX0_add 84 = .ok (.getfield 21, 3) := by decide +kernel
theorem dX0_add_87 : decode cX0_add 87 = .ok (.iconst 1, 1) := by decide +kernel
theorem dX0_add_88 : decode cX0_add 88 = .ok (.iadd, 1) := by decide +kernel
theorem dX0_add_89 : decode cX0_add 89 = .ok (.putfield 21, 3) := by decide +kernel
theorem dX0_add_92 : decode cX0_add 92 = .ok (.iconst 1, 1) := by decide +kernel
theorem dX0_add_93 : decode cX0_add 93 = .ok (.ireturn, 1) := by decide +kernel
theorem dX0_holds_0 : decode cX0_holds 0 = .ok (.aload_n 0, 1) := by decide +kernel
theorem dX0_holds_1 : decode cX0_holds 1 = .ok (.getfield 11, 3) := by decide +kernel
theorem dX0_holds_4 : decode cX0_holds 4 = .ok (.iload_n 1, 1) := by decide +kernel
theorem dX0_holds_5 : decode cX0_holds 5 = .ok (.iaload, 1) := by decide +kernel
theorem dX0_holds_6 : decode cX0_holds 6 = .ok (.aload_n 2, 1) := by decide +kernel
theorem dX0_holds_7 : decode cX0_holds 7 = .ok (.getfield 25, 3) := by decide +kernel
theorem dX0_holds_10 : decode cX0_holds 10 = .ok (.if_icmp .eq 5, 3) := by decide +kernel
theorem dX0_holds_13 : decode cX0_holds 13 = .ok (.iconst 0, 1) := by decide +kernel
theorem dX0_holds_14 : decode cX0_holds 14 = .ok (.ireturn, 1) := by decide +kernel
theorem dX0_holds_15 : decode cX0_holds 15 = .ok (.iconst 0, 1) := by decide +kernel
theorem dX0_holds_16 : decode cX0_holds 16 = .ok (.istore_n 3, 1) := by decide +kernel
theorem dX0_holds_17 : decode cX0_holds 17 = .ok (.iload_n 3, 1) := by decide +kernel
theorem dX0_holds_18 : decode cX0_holds 18 = .ok (.iconst 4, 1) := by decide +kernel
theorem dX0_holds_19 : decode cX0_holds 19 = .ok (.aload_n 2, 1) := by decide +kernel
theorem dX0_holds_20 : decode cX0_holds 20 = .ok (.getfield 25, 3) := by decide +kernel
theorem dX0_holds_23 : decode cX0_holds 23 = .ok (.imul, 1) := by decide +kernel
theorem dX0_holds_24 : decode cX0_holds 24 = .ok (.if_icmp .ge 31, 3) := by decide +kernel
theorem dX0_holds_27 : decode cX0_holds 27 = .ok (.aload_n 0, 1) := by decide +kernel
theorem dX0_holds_28 : decode cX0_holds 28 = .ok (.getfield 18, 3) := by decide +kernel
theorem dX0_holds_31 : decode cX0_holds 31 = .ok (.iload_n 1, 1) := by decide +kernel
theorem dX0_holds_32 : decode cX0_holds 32 = .ok (.bipush 32, 2) := by decide +kernel
theorem dX0_holds_34 : decode cX0_holds 34 = .ok (.imul, 1) := by decide +kernel
theorem dX0_holds_35 : decode cX0_holds 35 = .ok (.iload_n 3, 1) := by decide +kernel
theorem dX0_holds_36 : decode cX0_holds 36 = .ok (.iadd, 1) := by decide +kernel
theorem dX0_holds_37 : decode cX0_holds 37 = .ok (.iaload, 1) := by decide +kernel
theorem dX0_holds_38 : decode cX0_holds 38 = .ok (.aload_n 2, 1) := by decide +kernel
theorem dX0_holds_39 : decode cX0_holds 39 = .ok (.getfield 29, 3) := by decide +kernel
theorem dX0_holds_42 : decode cX0_holds 42 = .ok (.iload_n 3, 1) := by decide +kernel
theorem dX0_holds_43 : decode cX0_holds 43 = .ok (.iaload, 1) := by decide +kernel
theorem dX0_holds_44 : decode cX0_holds 44 = .ok (.if_icmp .eq 5, 3) := by decide +kernel
theorem dX0_holds_47 : decode cX0_holds 47 = .ok (.iconst 0, 1) := by decide +kernel
theorem dX0_holds_48 : decode cX0_holds 48 = .ok (.ireturn, 1) := by decide +kernel
theorem dX0_holds_49 : decode cX0_holds 49 = .ok (.iinc 3 1, 3) := by decide +kernel
theorem dX0_holds_52 : decode cX0_holds 52 = .ok (.goto (-35), 3) := by decide +kernel
theorem dX0_holds_55 : decode cX0_holds 55 = .ok (.iconst 1, 1) := by decide +kernel
theorem dX0_holds_56 : decode cX0_holds 56 = .ok (.ireturn, 1) := by decide +kernel
theorem dX1_init_0 : decode cX1_init 0 = .ok (.aload_n 0, 1) := by decide +kernel
theorem dX1_init_1 : decode cX1_init 1 = .ok (.invokespecial 3, 3) := by decide +kernel
theorem dX1_init_4 : decode cX1_init 4 = .ok (.aload_n 0, 1) := by decide +kernel
theorem dX1_init_5 : decode cX1_init 5 = .ok (.new 9, 3) := by decide +kernel
theorem dX1_init_8 : decode cX1_init 8 = .ok (.dup, 1) := by decide +kernel
theorem dX1_init_9 : decode cX1_init 9 = .ok (.invokespecial 11, 3) := by decide +kernel
theorem dX1_init_12 : decode cX1_init 12 = .ok (.putfield 12, 3) := by decide +kernel
theorem dX1_init_15 : decode cX1_init 15 = .ok (.aload_n 0, 1) := by decide +kernel
theorem dX1_init_16 : decode cX1_init 16 = .ok (.bipush 32, 2) := by decide +kernel
theorem dX1_init_18 : decode cX1_init 18 = .ok (.newarray .int, 2) := by decide +kernel
theorem dX1_init_20 : decode cX1_init 20 = .ok (.putfield 18, 3) := by decide +kernel
theorem dX1_init_23 : decode cX1_init 23 = .ok (.aload_n 0, 1) := by decide +kernel
theorem dX1_init_24 : decode cX1_init 24 = .ok (.bipush 32, 2) := by decide +kernel
theorem dX1_init_26 : decode cX1_init 26 = .ok (.newarray .int, 2) := by decide +kernel
theorem dX1_init_28 : decode cX1_init 28 = .ok (.putfield 22, 3) := by decide +kernel
theorem dX1_init_31 : decode cX1_init 31 = .ok (.aload_n 0, 1) := by decide +kernel
theorem dX1_init_32 : decode cX1_init 32 = .ok (.aload_n 1, 1) := by decide +kernel
theorem dX1_init_33 : decode cX1_init 33 = .ok (.putfield 25, 3) := by decide +kernel
theorem dX1_init_36 : decode cX1_init 36 = .ok (.aload_n 0, 1) := by decide +kernel
theorem dX1_init_37 : decode cX1_init 37 = .ok (.aload_n 2, 1) := by decide +kernel
theorem dX1_init_38 : decode cX1_init 38 = .ok (.putfield 29, 3) := by decide +kernel
theorem dX1_init_41 : decode cX1_init 41 = .ok (.return_, 1) := by decide +kernel
theorem dX1_kindOf_0 : decode cX1_kindOf 0 = .ok (.iload_n 0, 1) := by decide +kernel
theorem dX1_kindOf_1 : decode cX1_kindOf 1 = .ok (.sipush 160, 3) := by decide +kernel
theorem dX1_kindOf_4 : decode cX1_kindOf 4 = .ok (.if_icmp .ge 15, 3) := by decide +kernel
theorem dX1_kindOf_7 : decode cX1_kindOf 7 = .ok (.iload_n 0, 1) := by decide +kernel
theorem dX1_kindOf_8 : decode cX1_kindOf 8 = .ok (.bipush 32, 2) := by decide +kernel
theorem dX1_kindOf_10 : decode cX1_kindOf 10 = .ok (.if_icmp .ge 7, 3) := by decide +kernel
theorem dX1_kindOf_13 : decode cX1_kindOf 13 = .ok (.iconst 0, 1) := by decide +kernel
theorem dX1_kindOf_14 : decode cX1_kindOf 14 = .ok (.goto 4, 3) := by decide +kernel
theorem dX1_kindOf_17 : decode cX1_kindOf 17 = .ok (.iconst 1, 1) := by decide +kernel
theorem dX1_kindOf_18 : decode cX1_kindOf 18 = .ok (.ireturn, 1) := by decide +kernel
theorem dX1_kindOf_19 : decode cX1_kindOf 19 = .ok (.iload_n 0, 1) := by decide +kernel
theorem dX1_kindOf_20 : decode cX1_kindOf 20 = .ok (.sipush 168, 3) := by decide +kernel
theorem dX1_kindOf_23 : decode cX1_kindOf 23 = .ok (.if_icmp .ge 7, 3) := by decide +kernel
theorem dX1_kindOf_26 : decode cX1_kindOf 26 = .ok (.iconst 2, 1) := by decide +kernel
theorem dX1_kindOf_27 : decode cX1_kindOf 27 = .ok (.goto 4, 3) := by decide +kernel
theorem dX1_kindOf_30 : decode cX1_kindOf 30 = .ok (.iconst 3, 1) := by decide +kernel
theorem dX1_kindOf_31 : decode cX1_kindOf 31 = .ok (.ireturn, 1) := by decide +kernel
theorem dX1_growth_0 : decode cX1_growth 0 = .ok (.iload_n 0, 1) := by decide +kernel
theorem dX1_growth_1 : decode cX1_growth 1 = .ok (.sipush 160, 3) := by decide +kernel
theorem dX1_growth_4 : decode cX1_growth 4 = .ok (.if_icmp .ge 15, 3) := by decide +kernel
theorem dX1_growth_7 : decode cX1_growth 7 = .ok (.iload_n 0, 1) := by decide +kernel
theorem dX1_growth_8 : decode cX1_growth 8 = .ok (.bipush 32, 2) := by decide +kernel
theorem dX1_growth_10 : decode cX1_growth 10 = .ok (.if_icmp .ge 7, 3) := by decide +kernel
theorem dX1_growth_13 : decode cX1_growth 13 = .ok (.iconst 1, 1) := by decide +kernel
theorem dX1_growth_14 : decode cX1_growth 14 = .ok (.goto 4, 3) := by decide +kernel
theorem dX1_growth_17 : decode cX1_growth 17 = .ok (.iconst (-1), 1) := by decide +kernel
theorem dX1_growth_18 : decode cX1_growth 18 = .ok (.ireturn, 1) := by decide +kernel
theorem dX1_growth_19 : decode cX1_growth 19 = .ok (.iload_n 0, 1) := by decide +kernel
theorem dX1_growth_20 : decode cX1_growth 20 = .ok (.sipush 168, 3) := by decide +kernel
theorem dX1_growth_23 : decode cX1_growth 23 = .ok (.if_icmp .ge 7, 3) := by decide +kernel
theorem dX1_growth_26 : decode cX1_growth 26 = .ok (.iconst 3, 1) := by decide +kernel
theorem dX1_growth_27 : decode cX1_growth 27 = .ok (.goto 5, 3) := by decide +kernel
theorem dX1_growth_30 : decode cX1_growth 30 = .ok (.bipush (-3), 2) := by decide +kernel
theorem dX1_growth_32 : decode cX1_growth 32 = .ok (.ireturn, 1) := by decide +kernel
theorem dX1_attempt_0 : decode cX1_attempt 0 = .ok (.aload_n 1, 1) := by decide +kernel
theorem dX1_attempt_1 : decode cX1_attempt 1 = .ok (.iload_n 2, 1) := by decide +kernel
theorem dX1_attempt_2 : decode cX1_attempt 2 = .ok (.iload_n 3, 1) := by decide +kernel
theorem dX1_attempt_3 : decode cX1_attempt 3 = .ok (.iload 4, 2) := by decide +kernel
theorem dX1_attempt_5 : decode cX1_attempt 5 = .ok (.iload 5, 2) := by decide +kernel
theorem dX1_attempt_7 : decode cX1_attempt 7 = .ok (.invokestatic 33, 3) := by decide +kernel
theorem dX1_attempt_10 : decode cX1_attempt 10 = .ok (.istore 6, 2) := by decide +kernel
theorem dX1_attempt_12 : decode cX1_attempt 12 = .ok (.iload 6, 2) := by decide +kernel
theorem dX1_attempt_14 : decode cX1_attempt 14 = .ok (.ifCond .ge 5, 3) := by decide +kernel
theorem dX1_attempt_17 : decode cX1_attempt 17 = .ok (.iconst (-1), 1) := by decide +kernel
theorem dX1_attempt_18 : decode cX1_attempt 18 = .ok (.ireturn, 1) := by decide +kernel
theorem dX1_attempt_19 : decode cX1_attempt 19 = .ok (.iload_n 2, 1) := by decide +kernel
theorem dX1_attempt_20 : decode cX1_attempt 20 = .ok (.iconst 1, 1) := by decide +kernel
theorem dX1_attempt_21 : decode cX1_attempt 21 = .ok (.if_icmp .eq 8, 3) := by decide +kernel
theorem dX1_attempt_24 : decode cX1_attempt 24 = .ok (.iload_n 2, 1) := by decide +kernel
theorem dX1_attempt_25 : decode cX1_attempt 25 = .ok (.iconst 3, 1) := by decide +kernel
theorem dX1_attempt_26 : decode cX1_attempt 26 = .ok (.if_icmp .ne 11, 3) := by decide +kernel
theorem dX1_attempt_29 : decode cX1_attempt 29 = .ok (.aload_n 0, 1) := by decide +kernel
theorem dX1_attempt_30 : decode cX1_attempt 30 = .ok (.getfield 25, 3) := by decide +kernel
theorem dX1_attempt_33 : decode cX1_attempt 33 = .ok (.aload_n 1, 1) := by decide +kernel
theorem dX1_attempt_34 : decode cX1_attempt 34 = .ok (.invokevirtual 37, 3) := by decide +kernel
theorem dX1_attempt_37 : decode cX1_attempt 37 = .ok (.aload_n 0, 1) := by decide +kernel
theorem dX1_attempt_38 : decode cX1_attempt 38 = .ok (.aload_n 1, 1) := by decide +kernel
theorem dX1_attempt_39 : decode cX1_attempt 39 = .ok (.iload 6, 2) := by decide +kernel
theorem dX1_attempt_41 : decode cX1_attempt 41 = .ok (.invokevirtual 43, 3) := by decide +kernel
theorem dX1_attempt_44 : decode cX1_attempt 44 = .ok (.istore 7, 2) := by decide +kernel
theorem dX1_attempt_46 : decode cX1_attempt 46 = .ok (.iload 7, 2) := by decide +kernel
theorem dX1_attempt_48 : decode cX1_attempt 48 = .ok (.ifCond .ge 6, 3) := by decide +kernel
theorem dX1_attempt_51 : decode cX1_attempt 51 = .ok (.iload 7, 2) := by decide +kernel
theorem dX1_attempt_53 : decode cX1_attempt 53 = .ok (.ireturn, 1) := by decide +kernel
theorem dX1_attempt_54 : decode cX1_attempt 54 = .ok (.aload_n 0, 1) := by decide +kernel
theorem dX1_attempt_55 : decode cX1_attempt 55 = .ok (.aload_n 1, 1) := by decide +kernel
theorem dX1_attempt_56 : decode cX1_attempt 56 = .ok (.iload 6, 2) := by decide +kernel
theorem dX1_attempt_58 : decode cX1_attempt 58 = .ok (.aload_n 0, 1) := by decide +kernel
theorem dX1_attempt_59 : decode cX1_attempt 59 = .ok (.getfield 12, 3) := by decide +kernel
theorem dX1_attempt_62 : decode cX1_attempt 62 = .ok (.invokevirtual 47, 3) := by decide +kernel
theorem dX1_attempt_65 : decode cX1_attempt 65 = .ok (.aload_n 1, 1) := by decide +kernel
theorem dX1_attempt_66 : decode cX1_attempt 66 = .ok (.aload_n 0, 1) := by decide +kernel
theorem dX1_attempt_67 : decode cX1_attempt 67 = .ok (.getfield 12, 3) := by decide +kernel
theorem dX1_attempt_70 : decode cX1_attempt 70 = .ok (.invokevirtual 51, 3) := by decide +kernel
theorem dX1_attempt_73 : decode cX1_attempt 73 = .ok (.aload_n 1, 1) := by decide +kernel
theorem dX1_attempt_74 : decode cX1_attempt 74 = .ok (.getfield 54, 3) := by decide +kernel
theorem dX1_attempt_77 : decode cX1_attempt 77 = .ok (.ireturn, 1) := by decide +kernel
theorem dX1_placeOf_0 : decode cX1_placeOf 0 = .ok (.aload_n 0, 1) := by decide +kernel
theorem dX1_placeOf_1 : decode cX1_placeOf 1 = .ok (.iload_n 2, 1) := by decide +kernel
theorem dX1_placeOf_2 : decode cX1_placeOf 2 = .ok (.invokevirtual 58, 3) := by decide +kernel
theorem dX1_placeOf_5 : decode cX1_placeOf 5 = .ok (.ifCond .ne 5, 3) := by decide +kernel
theorem dX1_placeOf_8 : decode cX1_placeOf 8 = .ok (.iconst (-1), 1) := by decide +kernel
theorem dX1_placeOf_9 : decode cX1_placeOf 9 = .ok (.ireturn, 1) := by decide +kernel
theorem dX1_placeOf_10 : decode cX1_placeOf 10 = .ok (.iload_n 1, 1) := by decide +kernel
theorem dX1_placeOf_11 : decode cX1_placeOf 11 = .ok (.iconst 2, 1) := by decide +kernel
theorem dX1_placeOf_12 : decode cX1_placeOf 12 = .ok (.if_icmp .ne 9, 3) := by decide +kernel
theorem dX1_placeOf_15 : decode cX1_placeOf 15 = .ok (.sipush 160, 3) := by decide +kernel
theorem dX1_placeOf_18 : decode cX1_placeOf 18 = .ok (.iload_n 2, 1) := by decide +kernel
theorem dX1_placeOf_19 : decode cX1_placeOf 19 = .ok (.iadd, 1) := by decide +kernel
theorem dX1_placeOf_20 : decode cX1_placeOf 20 = .ok (.ireturn, 1) := by decide +kernel
theorem dX1_placeOf_21 : decode cX1_placeOf 21 = .ok (.iload_n 1, 1) := by decide +kernel
theorem dX1_placeOf_22 : decode cX1_placeOf 22 = .ok (.iconst 1, 1) := by decide +kernel
theorem dX1_placeOf_23 : decode cX1_placeOf 23 = .ok (.if_icmp .ne 40, 3) := by decide +kernel
theorem dX1_placeOf_26 : decode cX1_placeOf 26 = .ok (.aload_n 0, 1) := by decide +kernel
theorem dX1_placeOf_27 : decode cX1_placeOf 27 = .ok (.iload_n 2, 1) := by decide +kernel
theorem dX1_placeOf_28 : decode cX1_placeOf 28 = .ok (.iload_n 3, 1) := by decide +kernel
theorem dX1_placeOf_29 : decode cX1_placeOf 29 = .ok (.iload 4, 2) := by decide +kernel
theorem dX1_placeOf_31 : decode cX1_placeOf 31 = .ok (.invokevirtual 62, 3) := by decide +kernel
theorem dX1_placeOf_34 : decode cX1_placeOf 34 = .ok (.ifCond .ne 5, 3) := by decide +kernel
theorem dX1_placeOf_37 : decode cX1_placeOf 37 = .ok (.iconst (-1), 1) := by decide +kernel
theorem dX1_placeOf_38 : decode cX1_placeOf 38 = .ok (.ireturn, 1) := by decide +kernel
theorem dX1_placeOf_39 : decode cX1_placeOf 39 = .ok (.bipush 32, 2) := by decide +kernel
theorem dX1_placeOf_41 : decode cX1_placeOf 41 = .ok (.bipush 16, 2) := by decide +kernel
theorem dX1_placeOf_43 : decode cX1_placeOf 43 = .ok (.iload_n 2, 1) := by decide +kernel
theorem dX1_placeOf_44 : decode cX1_placeOf 44 = .ok (.imul, 1) := by decide +kernel
theorem dX1_placeOf_45 : decode cX1_placeOf 45 = .ok (.iadd, 1) := by decide +kernel
theorem dX1_placeOf_46 : decode cX1_placeOf 46 = .ok (.iconst 4, 1) := by decide +kernel
theorem dX1_placeOf_47 : decode cX1_placeOf 47 = .ok (.iload_n 3, 1) := by decide +kernel
theorem dX1_placeOf_48 : decode cX1_placeOf 48 = .ok (.iload 4, 2) := by decide +kernel
theorem dX1_placeOf_50 : decode cX1_placeOf 50 = .ok (.invokestatic 66, 3) := by decide +kernel
theorem dX1_placeOf_53 : decode cX1_placeOf 53 = .ok (.imul, 1) := by decide +kernel
theorem dX1_placeOf_54 : decode cX1_placeOf 54 = .ok (.iadd, 1) := by decide +kernel
theorem dX1_placeOf_55 : decode cX1_placeOf 55 = .ok (.iload_n 3, 1) := by decide +kernel
theorem dX1_placeOf_56 : decode cX1_placeOf 56 = .ok (.iload 4, 2) := by decide +kernel
theorem dX1_placeOf_58 : decode cX1_placeOf 58 = .ok (.invokestatic 72, 3) := by decide +kernel
theorem dX1_placeOf_61 : decode cX1_placeOf 61 = .ok (.iadd, 1) := by decide +kernel
theorem dX1_placeOf_62 : decode cX1_placeOf 62 = .ok (.ireturn, 1) := by decide +kernel
theorem dX1_placeOf_63 : decode cX1_placeOf 63 = .ok (.aload_n 0, 1) := by decide +kernel
theorem dX1_placeOf_64 : decode cX1_placeOf 64 = .ok (.iload_n 2, 1) := by decide +kernel
theorem dX1_placeOf_65 : decode cX1_placeOf 65 = .ok (.iload_n 3, 1) := by decide +kernel
theorem dX1_placeOf_66 : decode cX1_placeOf 66 = .ok (.invokevirtual 75, 3) := by decide +kernel
theorem dX1_placeOf_69 : decode cX1_placeOf 69 = .ok (.ifCond .ne 5, 3) := by decide +kernel
theorem dX1_placeOf_72 : decode cX1_placeOf 72 = .ok (.iconst (-1), 1) := by decide +kernel
theorem dX1_placeOf_73 : decode cX1_placeOf 73 = .ok (.ireturn, 1) := by decide +kernel
theorem dX1_placeOf_74 : decode cX1_placeOf 74 = .ok (.iload_n 1, 1) := by decide +kernel
theorem dX1_placeOf_75 : decode cX1_placeOf 75 = .ok (.ifCond .ne 7, 3) := by decide +kernel
theorem dX1_placeOf_78 : decode cX1_placeOf 78 = .ok (.iconst 0, 1) := by decide +kernel
theorem dX1_placeOf_79 : decode cX1_placeOf 79 = .ok (.goto 6, 3) := by decide +kernel
theorem dX1_placeOf_82 : decode cX1_placeOf 82 = .ok (.sipush 168, 3) := by decide +kernel
theorem dX1_placeOf_85 : decode cX1_placeOf 85 = .ok (.iconst 4, 1) := by decide +kernel
theorem dX1_placeOf_86 : decode cX1_placeOf 86 = .ok (.iload_n 2, 1) := by decide +kernel
theorem dX1_placeOf_87 : decode cX1_placeOf 87 = .ok (.imul, 1) := by decide +kernel
theorem dX1_placeOf_88 : decode cX1_placeOf 88 = .ok (.iadd, 1) := by decide +kernel
theorem dX1_placeOf_89 : decode cX1_placeOf 89 = .ok (.iload_n 3, 1) := by decide +kernel
theorem dX1_placeOf_90 : decode cX1_placeOf 90 = .ok (.iadd, 1) := by decide +kernel
theorem dX1_placeOf_91 : decode cX1_placeOf 91 = .ok (.ireturn, 1) := by decide +kernel
theorem dX1_simplify_0 : decode cX1_simplify 0 = .ok (.aload_n 0, 1) := by decide +kernel
theorem dX1_simplify_1 : decode cX1_simplify 1 = .ok (.getfield 25, 3) := by decide +kernel
theorem dX1_simplify_4 : decode cX1_simplify 4 = .ok (.aload_n 1, 1) := by decide +kernel
theorem dX1_simplify_5 : decode cX1_simplify 5 = .ok (.invokevirtual 37, 3) := by decide +kernel
theorem dX1_simplify_8 : decode cX1_simplify 8 = .ok (.aload_n 0, 1) := by decide +kernel
theorem dX1_simplify_9 : decode cX1_simplify 9 = .ok (.aload_n 1, 1) := by decide +kernel
theorem dX1_simplify_10 : decode cX1_simplify 10 = .ok (.sipush 168, 3) := by decide +kernel
theorem dX1_simplify_13 : decode cX1_simplify 13 = .ok (.sipush 200, 3) := by decide +kernel
theorem dX1_simplify_16 : decode cX1_simplify 16 = .ok (.invokevirtual 79, 3) := by decide +kernel
theorem dX1_simplify_19 : decode cX1_simplify 19 = .ok (.istore_n 2, 1) := by decide +kernel
theorem dX1_simplify_20 : decode cX1_simplify 20 = .ok (.iload_n 2, 1) := by decide +kernel
theorem dX1_simplify_21 : decode cX1_simplify 21 = .ok (.ifCond .ge 14, 3) := by decide +kernel
theorem dX1_simplify_24 : decode cX1_simplify 24 = .ok (.aload_n 0, 1) := by decide +kernel
theorem dX1_simplify_25 : decode cX1_simplify 25 = .ok (.aload_n 1, 1) := by decide +kernel
theorem dX1_simplify_26 : decode cX1_simplify 26 = .ok (.bipush 32, 2) := by decide +kernel
theorem dX1_simplify_28 : decode cX1_simplify 28 = .ok (.sipush 160, 3) := by decide +kernel
theorem dX1_simplify_31 : decode cX1_simplify 31 = .ok (.invokevirtual 79, 3) := by decide +kernel
theorem dX1_simplify_34 : decode cX1_simplify 34 = .ok (.istore_n 2, 1) := by decide +kernel
theorem dX1_simplify_35 : decode cX1_simplify 35 = .ok (.iload_n 2, 1) := by decide +kernel
theorem dX1_simplify_36 : decode cX1_simplify 36 = .ok (.ifCond .ge 5, 3) := by decide +kernel
theorem dX1_simplify_39 : decode cX1_simplify 39 = .ok (.iconst 0, 1) := by decide +kernel
theorem dX1_simplify_40 : decode cX1_simplify 40 = .ok (.ireturn, 1) := by decide +kernel
theorem dX1_simplify_41 : decode cX1_simplify 41 = .ok (.aload_n 0, 1) := by decide +kernel
theorem dX1_simplify_42 : decode cX1_simplify 42 = .ok (.aload_n 1, 1) := by decide +kernel
theorem dX1_simplify_43 : decode cX1_simplify 43 = .ok (.iload_n 2, 1) := by decide +kernel
theorem dX1_simplify_44 : decode cX1_simplify 44 = .ok (.aload_n 0, 1) := by decide +kernel
theorem dX1_simplify_45 : decode cX1_simplify 45 = .ok (.getfield 12, 3) := by decide +kernel
theorem dX1_simplify_48 : decode cX1_simplify 48 = .ok (.invokevirtual 47, 3) := by decide +kernel
theorem dX1_simplify_51 : decode cX1_simplify 51 = .ok (.aload_n 1, 1) := by decide +kernel
theorem dX1_simplify_52 : decode cX1_simplify 52 = .ok (.aload_n 0, 1) := by decide +kernel
theorem dX1_simplify_53 : decode cX1_simplify 53 = .ok (.getfield 12, 3) := by decide +kernel
theorem dX1_simplify_56 : decode cX1_simplify 56 = .ok (.invokevirtual 51, 3) := by decide +kernel
theorem dX1_simplify_59 : decode cX1_simplify 59 = .ok (.iconst 1, 1) := by decide +kernel
theorem dX1_simplify_60 : decode cX1_simplify 60 = .ok (.ireturn, 1) := by decide +kernel
theorem dX1_firstBetween_0 : decode cX1_firstBetween 0 = .ok (.iload_n 2, 1) := by decide +kernel
theorem dX1_firstBetween_1 : decode cX1_firstBetween 1 = .ok (.istore 4, 2) := by decide +kernel
theorem dX1_firstBetween_3 : decode cX1_firstBetween 3 = .ok (.iload 4, 2) := by decide +kernel
theorem dX1_firstBetween_5 : decode cX1_firstBetween 5 = .ok (.iload_n 3, 1) := by decide +kernel
theorem dX1_firstBetween_6 : decode cX1_firstBetween 6 = .ok (.if_icmp .ge 22, 3) := by decide +kernel
theorem dX1_firstBetween_9 : decode cX1_firstBetween 9 = .ok (.aload_n 0, 1) := by decide +kernel
theorem dX1_firstBetween_10 : decode cX1_firstBetween 10 = .ok (.aload_n 1, 1) := by decide +kernel
theorem dX1_firstBetween_11 : decode cX1_firstBetween 11 = .ok (.iload 4, 2) := by decide +kernel
theorem dX1_firstBetween_13 : decode cX1_firstBetween 13 = .ok (.invokevirtual 43, 3) := by decide +kernel
theorem dX1_firstBetween_16 : decode cX1_firstBetween 16 = .ok (.ifCond .ne 6, 3) := by decide +kernel
theorem dX1_firstBetween_19 : decode cX1_firstBetween 19 = .ok (.iload 4, 2) := by decide +kernel
theorem dX1_firstBetween_21 : decode cX1_firstBetween 21 = .ok (.ireturn, 1) := by decide +kernel
theorem dX1_firstBetween_22 : decode cX1_firstBetween 22 = .ok (.iinc 4 1, 3) := by decide +kernel
theorem dX1_firstBetween_25 : decode cX1_firstBetween 25 = .ok (.goto (-22), 3) := by decide +kernel
theorem dX1_firstBetween_28 : decode cX1_firstBetween 28 = .ok (.iconst (-1), 1) := by decide +kernel
theorem dX1_firstBetween_29 : decode cX1_firstBetween 29 = .ok (.ireturn, 1) := by decide +kernel
theorem dX1_refusal_0 : decode cX1_refusal 0 = .ok (.iload_n 2, 1) := by decide +kernel
theorem dX1_refusal_1 : decode cX1_refusal 1 = .ok (.bipush 32, 2) := by decide +kernel
theorem dX1_refusal_3 : decode cX1_refusal 3 = .ok (.if_icmp .ge 10, 3) := by decide +kernel
theorem dX1_refusal_6 : decode cX1_refusal 6 = .ok (.aload_n 0, 1) := by decide +kernel
theorem dX1_refusal_7 : decode cX1_refusal 7 = .ok (.aload_n 1, 1) := by decide +kernel
theorem dX1_refusal_8 : decode cX1_refusal 8 = .ok (.iload_n 2, 1) := by decide +kernel
theorem dX1_refusal_9 : decode cX1_refusal 9 = .ok (.invokevirtual 83, 3) := by decide +kernel
theorem dX1_refusal_12 : decode cX1_refusal 12 = .ok (.ireturn, 1) := by decide +kernel
theorem dX1_refusal_13 : decode cX1_refusal 13 = .ok (.iload_n 2, 1) := by decide +kernel
theorem dX1_refusal_14 : decode cX1_refusal 14 = .ok (.sipush 160, 3) := by decide +kernel
theorem dX1_refusal_17 : decode cX1_refusal 17 = .ok (.if_icmp .ge 13, 3) := by decide +kernel
theorem dX1_refusal_20 : decode cX1_refusal 20 = .ok (.aload_n 0, 1) := by decide +kernel
theorem dX1_refusal_21 : decode cX1_refusal 21 = .ok (.aload_n 1, 1) := by decide +kernel
theorem dX1_refusal_22 : decode cX1_refusal 22 = .ok (.iload_n 2, 1) := by decide +kernel
theorem dX1_refusal_23 : decode cX1_refusal 23 = .ok (.bipush 32, 2) := by decide +kernel
theorem dX1_refusal_25 : decode cX1_refusal 25 = .ok (.isub, 1) := by decide +kernel
theorem dX1_refusal_26 : decode cX1_refusal 26 = .ok (.invokevirtual 86, 3) := by decide +kernel
theorem dX1_refusal_29 : decode cX1_refusal 29 = .ok (.ireturn, 1) := by decide +kernel
theorem dX1_refusal_30 : decode cX1_refusal 30 = .ok (.iload_n 2, 1) := by decide +kernel
theorem dX1_refusal_31 : decode cX1_refusal 31 = .ok (.sipush 168, 3) := by decide +kernel
theorem dX1_refusal_34 : decode cX1_refusal 34 = .ok (.if_icmp .ge 35, 3) := by decide +kernel
theorem dX1_refusal_37 : decode cX1_refusal 37 = .ok (.aload_n 1, 1) := by decide +kernel
theorem dX1_refusal_38 : decode cX1_refusal 38 = .ok (.iload_n 2, 1) := by decide +kernel
theorem dX1_refusal_39 : decode cX1_refusal 39 = .ok (.sipush 160, 3) := by decide +kernel
theorem dX1_refusal_42 : decode cX1_refusal 42 = .ok (.isub, 1) := by decide +kernel
theorem dX1_refusal_43 : decode cX1_refusal 43 = .ok (.invokevirtual 58, 3) := by decide +kernel
theorem dX1_refusal_46 : decode cX1_refusal 46 = .ok (.ifCond .ne 5, 3) := by decide +kernel
theorem dX1_refusal_49 : decode cX1_refusal 49 = .ok (.iconst (-1), 1) := by decide +kernel
theorem dX1_refusal_50 : decode cX1_refusal 50 = .ok (.ireturn, 1) := by decide +kernel
theorem dX1_refusal_51 : decode cX1_refusal 51 = .ok (.aload_n 1, 1) := by decide +kernel
theorem dX1_refusal_52 : decode cX1_refusal 52 = .ok (.getfield 54, 3) := by decide +kernel
theorem dX1_refusal_55 : decode cX1_refusal 55 = .ok (.iconst 3, 1) := by decide +kernel
theorem dX1_refusal_56 : decode cX1_refusal 56 = .ok (.iadd, 1) := by decide +kernel
theorem dX1_refusal_57 : decode cX1_refusal 57 = .ok (.bipush 8, 2) := by decide +kernel
theorem dX1_refusal_59 : decode cX1_refusal 59 = .ok (.if_icmp .le 8, 3) := by decide +kernel
theorem dX1_refusal_62 : decode cX1_refusal 62 = .ok (.bipush (-3), 2) := by decide +kernel
theorem dX1_refusal_64 : decode cX1_refusal 64 = .ok (.goto 4, 3) := by decide +kernel
theorem dX1_refusal_67 : decode cX1_refusal 67 = .ok (.iconst 0, 1) := by decide +kernel
theorem dX1_refusal_68 : decode cX1_refusal 68 = .ok (.ireturn, 1) := by decide +kernel
theorem dX1_refusal_69 : decode cX1_refusal 69 = .ok (.aload_n 0, 1) := by decide +kernel
theorem dX1_refusal_70 : decode cX1_refusal 70 = .ok (.aload_n 1, 1) := by decide +kernel
theorem dX1_refusal_71 : decode cX1_refusal 71 = .ok (.iload_n 2, 1) := by decide +kernel
theorem dX1_refusal_72 : decode cX1_refusal 72 = .ok (.sipush 168, 3) := by decide +kernel
theorem dX1_refusal_75 : decode cX1_refusal 75 = .ok (.isub, 1) := by decide +kernel
theorem dX1_refusal_76 : decode cX1_refusal 76 = .ok (.invokevirtual 89, 3) := by decide +kernel
theorem dX1_refusal_79 : decode cX1_refusal 79 = .ok (.ireturn, 1) := by decide +kernel
theorem dX1_refusalOfTwo_0 : decode cX1_refusalOfTwo 0 = .ok (.aload_n 1, 1) := by decide +kernel
theorem dX1_refusalOfTwo_1 : decode cX1_refusalOfTwo 1 = .ok (.iload_n 2, 1) := by decide +kernel
theorem dX1_refusalOfTwo_2 : decode cX1_refusalOfTwo 2 = .ok (.iconst 2, 1) := by decide +kernel
theorem dX1_refusalOfTwo_3 : decode cX1_refusalOfTwo 3 = .ok (.ishr, 1) := by decide +kernel
theorem dX1_refusalOfTwo_4 : decode cX1_refusalOfTwo 4 = .ok (.invokevirtual 58, 3) := by decide +kernel
theorem dX1_refusalOfTwo_7 : decode cX1_refusalOfTwo 7 = .ok (.ifCond .ne 5, 3) := by decide +kernel
theorem dX1_refusalOfTwo_10 : decode cX1_refusalOfTwo 10 = .ok (.iconst (-1), 1) := by decide +kernel
theorem dX1_refusalOfTwo_11 : decode cX1_refusalOfTwo 11 = .ok (.ireturn, 1) := by decide +kernel
theorem dX1_refusalOfTwo_12 : decode cX1_refusalOfTwo 12 = .ok (.aload_n 1, 1) := by decide +kernel
theorem dX1_refusalOfTwo_13 : decode cX1_refusalOfTwo 13 = .ok (.getfield 92, 3) := by decide +kernel
theorem dX1_refusalOfTwo_16 : decode cX1_refusalOfTwo 16 = .ok (.iload_n 2, 1) := by decide +kernel
theorem dX1_refusalOfTwo_17 : decode cX1_refusalOfTwo 17 = .ok (.iaload, 1) := by decide +kernel
theorem dX1_refusalOfTwo_18 : decode cX1_refusalOfTwo 18 = .ok (.istore_n 3, 1) := by decide +kernel
theorem dX1_refusalOfTwo_19 : decode cX1_refusalOfTwo 19 = .ok (.iload_n 3, 1) := by decide +kernel
theorem dX1_refusalOfTwo_20 : decode cX1_refusalOfTwo 20 = .ok (.ifCond .lt 12, 3) := by decide +kernel
theorem dX1_refusalOfTwo_23 : decode cX1_refusalOfTwo 23 = .ok (.iload_n 3, 1) := by decide +kernel
theorem dX1_refusalOfTwo_24 : decode cX1_refusalOfTwo 24 = .ok (.iconst 5, 1) := by decide +kernel
theorem dX1_refusalOfTwo_25 : decode cX1_refusalOfTwo 25 = .ok (.ishr, 1) := by decide +kernel
theorem dX1_refusalOfTwo_26 : decode cX1_refusalOfTwo 26 = .ok (.iload_n 2, 1) := by decide +kernel
theorem dX1_refusalOfTwo_27 : decode cX1_refusalOfTwo 27 = .ok (.iconst 2, 1) := by decide +kernel
theorem dX1_refusalOfTwo_28 : decode cX1_refusalOfTwo 28 = .ok (.ishr, 1) := by decide +kernel
theorem dX1_refusalOfTwo_29 : decode cX1_refusalOfTwo 29 = .ok (.if_icmp .ne 6, 3) := by decide +kernel
theorem dX1_refusalOfTwo_32 : decode cX1_refusalOfTwo 32 = .ok (.bipush (-2), 2) := by decide +kernel
theorem dX1_refusalOfTwo_34 : decode cX1_refusalOfTwo 34 = .ok (.ireturn, 1) := by decide +kernel
theorem dX1_refusalOfTwo_35 : decode cX1_refusalOfTwo 35 = .ok (.aload_n 1, 1) := by decide +kernel
theorem dX1_refusalOfTwo_36 : decode cX1_refusalOfTwo 36 = .ok (.getfield 54, 3) := by decide +kernel
theorem dX1_refusalOfTwo_39 : decode cX1_refusalOfTwo 39 = .ok (.iconst 1, 1) := by decide +kernel
theorem dX1_refusalOfTwo_40 : decode cX1_refusalOfTwo 40 = .ok (.iadd, 1) := by decide +kernel
theorem dX1_refusalOfTwo_41 : decode cX1_refusalOfTwo 41 = .ok (.bipush 8, 2) := by decide +kernel
theorem dX1_refusalOfTwo_43 : decode cX1_refusalOfTwo 43 = .ok (.if_icmp .le 8, 3) := by decide +kernel
theorem dX1_refusalOfTwo_46 : decode cX1_refusalOfTwo 46 = .ok (.bipush (-3), 2) := by decide +kernel
theorem dX1_refusalOfTwo_48 : decode cX1_refusalOfTwo 48 = .ok (.goto 4, 3) := by decide +kernel
theorem dX1_refusalOfTwo_51 : decode cX1_refusalOfTwo 51 = .ok (.iconst 0, 1) := by decide +kernel
theorem dX1_refusalOfTwo_52 : decode cX1_refusalOfTwo 52 = .ok (.ireturn, 1) := by decide +kernel
theorem dX1_refusalOfThree_0 : decode cX1_refusalOfThree 0 = .ok (.iload_n 2, 1) := by decide +kernel
theorem dX1_refusalOfThree_1 : decode cX1_refusalOfThree 1 = .ok (.iconst 2, 1) := by decide +kernel
theorem dX1_refusalOfThree_2 : decode cX1_refusalOfThree 2 = .ok (.ishr, 1) := by decide +kernel
theorem dX1_refusalOfThree_3 : decode cX1_refusalOfThree 3 = .ok (.iconst 3, 1) := by decide +kernel
theorem dX1_refusalOfThree_4 : decode cX1_refusalOfThree 4 = .ok (.iand, 1) := by decide +kernel
theorem dX1_refusalOfThree_5 : decode cX1_refusalOfThree 5 = .ok (.istore_n 3, 1) := by decide +kernel
theorem dX1_refusalOfThree_6 : decode cX1_refusalOfThree 6 = .ok (.iload_n 2, 1) := by decide +kernel
theorem dX1_refusalOfThree_7 : decode cX1_refusalOfThree 7 = .ok (.iconst 3, 1) := by decide +kernel
theorem dX1_refusalOfThree_8 : decode cX1_refusalOfThree 8 = .ok (.iand, 1) := by decide +kernel
theorem dX1_refusalOfThree_9 : decode cX1_refusalOfThree 9 = .ok (.istore 4, 2) := by decide +kernel
theorem dX1_refusalOfThree_11 : decode cX1_refusalOfThree 11 = .ok (.aload_n 1, 1) := by decide +kernel
theorem dX1_refusalOfThree_12 : decode cX1_refusalOfThree 12 = .ok (.iload_n 2, 1) := by decide +kernel
theorem dX1_refusalOfThree_13 : decode cX1_refusalOfThree 13 = .ok (.iconst 4, 1) := by decide +kernel
theorem dX1_refusalOfThree_14 : decode cX1_refusalOfThree 14 = .ok (.ishr, 1) := by decide +kernel
theorem dX1_refusalOfThree_15 : decode cX1_refusalOfThree 15 = .ok (.invokevirtual 58, 3) := by decide +kernel
theorem dX1_refusalOfThree_18 : decode cX1_refusalOfThree 18 = .ok (.ifCond .eq 9, 3) := by decide +kernel
theorem dX1_refusalOfThree_21 : decode cX1_refusalOfThree 21 = .ok (.iload_n 3, 1) := by decide +kernel
theorem dX1_refusalOfThree_22 : decode cX1_refusalOfThree 22 = .ok (.iload 4, 2) := by decide +kernel
theorem dX1_refusalOfThree_24 : decode cX1_refusalOfThree 24 = .ok (.if_icmp .lt 5, 3) := by decide +kernel
theorem dX1_refusalOfThree_27 : decode cX1_refusalOfThree 27 = .ok (.iconst (-1), 1) := by decide +kernel
theorem dX1_refusalOfThree_28 : decode cX1_refusalOfThree 28 = .ok (.ireturn, 1) := by decide +kernel
theorem dX1_refusalOfThree_29 : decode cX1_refusalOfThree 29 = .ok (.aload_n 0, 1) := by decide +kernel
theorem dX1_refusalOfThree_30 : decode cX1_refusalOfThree 30 = .ok (.getfield 25, 3) := by decide +kernel
theorem dX1_refusalOfThree_33 : decode cX1_refusalOfThree 33 = .ok (.getfield 95, 3) := by decide +kernel
theorem dX1_refusalOfThree_36 : decode cX1_refusalOfThree 36 = .ok (.iload_n 2, 1) := by decide +kernel
theorem dX1_refusalOfThree_37 : decode cX1_refusalOfThree 37 = .ok (.iaload, 1) := by decide +kernel
theorem dX1_refusalOfThree_38 : decode cX1_refusalOfThree 38 = .ok (.istore 5, 2) := by decide +kernel
theorem dX1_refusalOfThree_40 : decode cX1_refusalOfThree 40 = .ok (.aload_n 0, 1) := by decide +kernel
theorem dX1_refusalOfThree_41 : decode cX1_refusalOfThree 41 = .ok (.getfield 25, 3) := by decide +kernel
theorem dX1_refusalOfThree_44 : decode cX1_refusalOfThree 44 = .ok (.getfield 98, 3) := by decide +kernel
theorem dX1_refusalOfThree_47 : decode cX1_refusalOfThree 47 = .ok (.iload 5, 2) := by decide +kernel
theorem dX1_refusalOfThree_49 : decode cX1_refusalOfThree 49 = .ok (.iaload, 1) := by decide +kernel
theorem dX1_refusalOfThree_50 : decode cX1_refusalOfThree 50 = .ok (.iconst 3, 1) := by decide +kernel
theorem dX1_refusalOfThree_51 : decode cX1_refusalOfThree 51 = .ok (.if_icmp .ne 28, 3) := by decide +kernel
theorem dX1_refusalOfThree_54 : decode cX1_refusalOfThree 54 = .ok (.aload_n 0, 1) := by decide +kernel
theorem dX1_refusalOfThree_55 : decode cX1_refusalOfThree 55 = .ok (.getfield 25, 3) := by decide +kernel
theorem dX1_refusalOfThree_58 : decode cX1_refusalOfThree 58 = .ok (.getfield 101, 3) := by decide +kernel
theorem dX1_refusalOfThree_61 : decode cX1_refusalOfThree 61 = .ok (.iload 5, 2) := by decide +kernel
theorem dX1_refusalOfThree_63 : decode cX1_refusalOfThree 63 = .ok (.baload, 1) := by decide +kernel
theorem dX1_refusalOfThree_64 : decode cX1_refusalOfThree 64 = .ok (.ifCond .ne 15, 3) := by decide +kernel
theorem dX1_refusalOfThree_67 : decode cX1_refusalOfThree 67 = .ok (.aload_n 0, 1) := by decide +kernel
theorem dX1_refusalOfThree_68 : decode cX1_refusalOfThree 68 = .ok (.getfield 25, 3) := by decide +kernel
theorem dX1_refusalOfThree_71 : decode cX1_refusalOfThree 71 = .ok (.iload 5, 2) := by decide +kernel
theorem dX1_refusalOfThree_73 : decode cX1_refusalOfThree 73 = .ok (.invokevirtual 105, 3) := by decide +kernel
theorem dX1_refusalOfThree_76 : decode cX1_refusalOfThree 76 = .ok (.ifCond .eq 6, 3) := by decide +kernel
theorem dX1_refusalOfThree_79 : decode cX1_refusalOfThree 79 = .ok (.bipush (-2), 2) := by decide +kernel
theorem dX1_refusalOfThree_81 : decode cX1_refusalOfThree 81 = .ok (.ireturn, 1) := by decide +kernel
theorem dX1_refusalOfThree_82 : decode cX1_refusalOfThree 82 = .ok (.iconst 1, 1) := by decide +kernel
theorem dX1_refusalOfThree_83 : decode cX1_refusalOfThree 83 = .ok (.iload_n 2, 1) := by decide +kernel
theorem dX1_refusalOfThree_84 : decode cX1_refusalOfThree 84 = .ok (.iconst 4, 1) := by decide +kernel
theorem dX1_refusalOfThree_85 : decode cX1_refusalOfThree 85 = .ok (.ishr, 1) := by decide +kernel
theorem dX1_refusalOfThree_86 : decode cX1_refusalOfThree 86 = .ok (.ishl, 1) := by decide +kernel
theorem dX1_refusalOfThree_87 : decode cX1_refusalOfThree 87 = .ok (.istore 6, 2) := by decide +kernel
theorem dX1_refusalOfThree_89 : decode cX1_refusalOfThree 89 = .ok (.iconst 0, 1) := by decide +kernel
theorem dX1_refusalOfThree_90 : decode cX1_refusalOfThree 90 = .ok (.istore 7, 2) := by decide +kernel
theorem dX1_refusalOfThree_92 : decode cX1_refusalOfThree 92 = .ok (.iload 7, 2) := by decide +kernel
theorem dX1_refusalOfThree_94 : decode cX1_refusalOfThree 94 = .ok (.iconst 4, 1) := by decide +kernel
theorem dX1_refusalOfThree_95 : decode cX1_refusalOfThree 95 = .ok (.if_icmp .ge 44, 3) := by decide +kernel
theorem dX1_refusalOfThree_98 : decode cX1_refusalOfThree 98 = .ok (.iload 7, 2) := by decide +kernel
theorem dX1_refusalOfThree_100 : decode cX1_refusalOfThree 100 = .ok (.iload_n 3, 1) := by decide +kernel
theorem dX1_refusalOfThree_101 : decode cX1_refusalOfThree 101 = .ok (.if_icmp .eq 32, 3) := by decide +kernel
theorem dX1_refusalOfThree_104 : decode cX1_refusalOfThree 104 = .ok (.iload 7, 2) := by decide +kernel
theorem dX1_refusalOfThree_106 : decode cX1_refusalOfThree 106 = .ok (.iload 4, 2) := by decide +kernel
theorem dX1_refusalOfThree_108 : decode cX1_refusalOfThree 108 = .ok (.if_icmp .eq 25, 3) := by decide +kernel
theorem dX1_refusalOfThree_111 : decode cX1_refusalOfThree 111 = .ok (.iload 6, 2) := by decide +kernel
theorem dX1_refusalOfThree_113 : decode cX1_refusalOfThree 113 = .ok (.iconst 1, 1) := by decide +kernel
theorem dX1_refusalOfThree_114 : decode cX1_refusalOfThree 114 = .ok (.aload_n 1, 1) := by decide +kernel
theorem dX1_refusalOfThree_115 : decode cX1_refusalOfThree 115 = .ok (.getfield 92, 3) := by decide +kernel
theorem dX1_refusalOfThree_118 : decode cX1_refusalOfThree 118 = .ok (.iconst 4, 1) := by decide +kernel
theorem dX1_refusalOfThree_119 : decode cX1_refusalOfThree 119 = .ok (.iload_n 2, 1) := by decide +kernel
theorem dX1_refusalOfThree_120 : decode cX1_refusalOfThree 120 = .ok (.iconst 4, 1) := by decide +kernel
theorem dX1_refusalOfThree_121 : decode cX1_refusalOfThree 121 = .ok (.ishr, 1) := by decide +kernel
theorem dX1_refusalOfThree_122 : decode cX1_refusalOfThree 122 = .ok (.imul, 1) := by decide +kernel
theorem dX1_refusalOfThree_123 : decode cX1_refusalOfThree 123 = .ok (.iload 7, 2) := by decide +kernel
theorem dX1_refusalOfThree_125 : decode cX1_refusalOfThree 125 = .ok (.iadd, 1) := by decide +kernel
theorem dX1_refusalOfThree_126 : decode cX1_refusalOfThree 126 = .ok (.iaload, 1) := by decide +kernel
theorem dX1_refusalOfThree_127 : decode cX1_refusalOfThree 127 = .ok (.iconst 5, 1) := by decide +kernel
theorem dX1_refusalOfThree_128 : decode cX1_refusalOfThree 128 = .ok (.ishr, 1) := by decide +kernel
theorem dX1_refusalOfThree_129 : decode cX1_refusalOfThree 129 = .ok (.ishl, 1) := by decide +kernel
theorem dX1_refusalOfThree_130 : decode cX1_refusalOfThree 130 = .ok (.ior, 1) := by decide +kernel
theorem dX1_refusalOfThree_131 : decode cX1_refusalOfThree 131 = .ok (.istore 6, 2) := by decide +kernel
theorem dX1_refusalOfThree_133 : decode cX1_refusalOfThree 133 = .ok (.iinc 7 1, 3) := by decide +kernel
theorem dX1_refusalOfThree_136 : decode cX1_refusalOfThree 136 = .ok (.goto (-44), 3) := by decide +kernel
theorem dX1_refusalOfThree_139 : decode cX1_refusalOfThree 139 = .ok (.iload 6, 2) := by decide +kernel
theorem dX1_refusalOfThree_141 : decode cX1_refusalOfThree 141 = .ok (.invokestatic 108, 3) := by decide +kernel
theorem dX1_refusalOfThree_144 : decode cX1_refusalOfThree 144 = .ok (.iconst 3, 1) := by decide +kernel
theorem dX1_refusalOfThree_145 : decode cX1_refusalOfThree 145 = .ok (.if_icmp .ne 7, 3) := by decide +kernel
theorem dX1_refusalOfThree_148 : decode cX1_refusalOfThree 148 = .ok (.iconst 0, 1) := by decide +kernel
theorem dX1_refusalOfThree_149 : decode cX1_refusalOfThree 149 = .ok (.goto 5, 3) := by decide +kernel
theorem dX1_refusalOfThree_152 : decode cX1_refusalOfThree 152 = .ok (.bipush (-2), 2) := by decide +kernel
theorem dX1_refusalOfThree_154 : decode cX1_refusalOfThree 154 = .ok (.ireturn, 1) := by decide +kernel
theorem dX1_refusalOfFour_0 : decode cX1_refusalOfFour 0 = .ok (.aload_n 1, 1) := by decide +kernel
theorem dX1_refusalOfFour_1 : decode cX1_refusalOfFour 1 = .ok (.iload_n 2, 1) := by decide +kernel
theorem dX1_refusalOfFour_2 : decode cX1_refusalOfFour 2 = .ok (.iconst 2, 1) := by decide +kernel
theorem dX1_refusalOfFour_3 : decode cX1_refusalOfFour 3 = .ok (.ishr, 1) := by decide +kernel
theorem dX1_refusalOfFour_4 : decode cX1_refusalOfFour 4 = .ok (.invokevirtual 58, 3) := by decide +kernel
theorem dX1_refusalOfFour_7 : decode cX1_refusalOfFour 7 = .ok (.ifCond .ne 5, 3) := by decide +kernel
theorem dX1_refusalOfFour_10 : decode cX1_refusalOfFour 10 = .ok (.iconst (-1), 1) := by decide +kernel
theorem dX1_refusalOfFour_11 : decode cX1_refusalOfFour 11 = .ok (.ireturn, 1) := by decide +kernel
theorem dX1_refusalOfFour_12 : decode cX1_refusalOfFour 12 = .ok (.aload_n 0, 1) := by decide +kernel
theorem dX1_refusalOfFour_13 : decode cX1_refusalOfFour 13 = .ok (.getfield 25, 3) := by decide +kernel
theorem dX1_refusalOfFour_16 : decode cX1_refusalOfFour 16 = .ok (.getfield 114, 3) := by decide +kernel
theorem dX1_refusalOfFour_19 : decode cX1_refusalOfFour 19 = .ok (.iload_n 2, 1) := by decide +kernel
theorem dX1_refusalOfFour_20 : decode cX1_refusalOfFour 20 = .ok (.iaload, 1) := by decide +kernel
theorem dX1_refusalOfFour_21 : decode cX1_refusalOfFour 21 = .ok (.istore_n 3, 1) := by decide +kernel
theorem dX1_refusalOfFour_22 : decode cX1_refusalOfFour 22 = .ok (.aload_n 0, 1) := by decide +kernel
theorem dX1_refusalOfFour_23 : decode cX1_refusalOfFour 23 = .ok (.getfield 25, 3) := by decide +kernel
theorem dX1_refusalOfFour_26 : decode cX1_refusalOfFour 26 = .ok (.getfield 117, 3) := by decide +kernel
theorem dX1_refusalOfFour_29 : decode cX1_refusalOfFour 29 = .ok (.iload_n 3, 1) := by decide +kernel
theorem dX1_refusalOfFour_30 : decode cX1_refusalOfFour 30 = .ok (.iaload, 1) := by decide +kernel
theorem dX1_refusalOfFour_31 : decode cX1_refusalOfFour 31 = .ok (.iconst 4, 1) := by decide +kernel
theorem dX1_refusalOfFour_32 : decode cX1_refusalOfFour 32 = .ok (.if_icmp .ne 14, 3) := by decide +kernel
theorem dX1_refusalOfFour_35 : decode cX1_refusalOfFour 35 = .ok (.aload_n 0, 1) := by decide +kernel
theorem dX1_refusalOfFour_36 : decode cX1_refusalOfFour 36 = .ok (.getfield 25, 3) := by decide +kernel
theorem dX1_refusalOfFour_39 : decode cX1_refusalOfFour 39 = .ok (.iload_n 3, 1) := by decide +kernel
theorem dX1_refusalOfFour_40 : decode cX1_refusalOfFour 40 = .ok (.invokevirtual 120, 3) := by decide +kernel
theorem dX1_refusalOfFour_43 : decode cX1_refusalOfFour 43 = .ok (.ifCond .ne 6, 3) := by decide +kernel
theorem dX1_refusalOfFour_46 : decode cX1_refusalOfFour 46 = .ok (.bipush (-2), 2) := by decide +kernel
theorem dX1_refusalOfFour_48 : decode cX1_refusalOfFour 48 = .ok (.ireturn, 1) := by decide +kernel
theorem dX1_refusalOfFour_49 : decode cX1_refusalOfFour 49 = .ok (.iconst 0, 1) := by decide +kernel
theorem dX1_refusalOfFour_50 : decode cX1_refusalOfFour 50 = .ok (.istore 4, 2) := by decide +kernel
theorem dX1_refusalOfFour_52 : decode cX1_refusalOfFour 52 = .ok (.iconst 0, 1) := by decide +kernel
theorem dX1_refusalOfFour_53 : decode cX1_refusalOfFour 53 = .ok (.istore 5, 2) := by decide +kernel
theorem dX1_refusalOfFour_55 : decode cX1_refusalOfFour 55 = .ok (.iload 5, 2) := by decide +kernel
theorem dX1_refusalOfFour_57 : decode cX1_refusalOfFour 57 = .ok (.iconst 4, 1) := by decide +kernel
theorem dX1_refusalOfFour_58 : decode cX1_refusalOfFour 58 = .ok (.aload_n 1, 1) := by decide +kernel
theorem dX1_refusalOfFour_59 : decode cX1_refusalOfFour 59 = .ok (.getfield 54, 3) := by decide +kernel
theorem dX1_refusalOfFour_62 : decode cX1_refusalOfFour 62 = .ok (.imul, 1) := by decide +kernel
theorem dX1_refusalOfFour_63 : decode cX1_refusalOfFour 63 = .ok (.if_icmp .ge 34, 3) := by decide +kernel
theorem dX1_refusalOfFour_66 : decode cX1_refusalOfFour 66 = .ok (.aload_n 0, 1) := by decide +kernel
theorem dX1_refusalOfFour_67 : decode cX1_refusalOfFour 67 = .ok (.getfield 25, 3) := by decide +kernel
theorem dX1_refusalOfFour_70 : decode cX1_refusalOfFour 70 = .ok (.getfield 114, 3) := by decide +kernel
theorem dX1_refusalOfFour_73 : decode cX1_refusalOfFour 73 = .ok (.iload 5, 2) := by decide +kernel
theorem dX1_refusalOfFour_75 : decode cX1_refusalOfFour 75 = .ok (.iaload, 1) := by decide +kernel
theorem dX1_refusalOfFour_76 : decode cX1_refusalOfFour 76 = .ok (.iload_n 3, 1) := by decide +kernel
theorem dX1_refusalOfFour_77 : decode cX1_refusalOfFour 77 = .ok (.if_icmp .ne 14, 3) := by decide +kernel
theorem dX1_refusalOfFour_80 : decode cX1_refusalOfFour 80 = .ok (.iload 4, 2) := by decide +kernel
theorem dX1_refusalOfFour_82 : decode cX1_refusalOfFour 82 = .ok (.iconst 1, 1) := by decide +kernel
theorem dX1_refusalOfFour_83 : decode cX1_refusalOfFour 83 = .ok (.iload 5, 2) := by decide +kernel
theorem dX1_refusalOfFour_85 : decode cX1_refusalOfFour 85 = .ok (.iconst 2, 1) := by decide +kernel
theorem dX1_refusalOfFour_86 : decode cX1_refusalOfFour 86 = .ok (.ishr, 1) := by decide +kernel
theorem dX1_refusalOfFour_87 : decode cX1_refusalOfFour 87 = .ok (.ishl, 1) := by decide +kernel
theorem dX1_refusalOfFour_88 : decode cX1_refusalOfFour 88 = .ok (.ior, 1) := by decide +kernel
theorem dX1_refusalOfFour_89 : decode cX1_refusalOfFour 89 = .ok (.istore 4, 2) := by decide +kernel
theorem dX1_refusalOfFour_91 : decode cX1_refusalOfFour 91 = .ok (.iinc 5 1, 3) := by decide +kernel
theorem dX1_refusalOfFour_94 : decode cX1_refusalOfFour 94 = .ok (.goto (-39), 3) := by decide +kernel
theorem dX1_refusalOfFour_97 : decode cX1_refusalOfFour 97 = .ok (.iconst 0, 1) := by decide +kernel
theorem dX1_refusalOfFour_98 : decode cX1_refusalOfFour 98 = .ok (.istore 5, 2) := by decide +kernel
theorem dX1_refusalOfFour_100 : decode cX1_refusalOfFour 100 = .ok (.iload 5, 2) := by decide +kernel
theorem dX1_refusalOfFour_102 : decode cX1_refusalOfFour 102 = .ok (.iconst 4, 1) := by decide +kernel
theorem dX1_refusalOfFour_103 : decode cX1_refusalOfFour 103 = .ok (.aload_n 1, 1) := by decide +kernel
theorem dX1_refusalOfFour_104 : decode cX1_refusalOfFour 104 = .ok (.getfield 54, 3) := by decide +kernel
theorem dX1_refusalOfFour_107 : decode cX1_refusalOfFour 107 = .ok (.imul, 1) := by decide +kernel
theorem dX1_refusalOfFour_108 : decode cX1_refusalOfFour 108 = .ok (.if_icmp .ge 44, 3) := by decide +kernel
theorem dX1_refusalOfFour_111 : decode cX1_refusalOfFour 111 = .ok (.aload_n 0, 1) := by decide +kernel
theorem dX1_refusalOfFour_112 : decode cX1_refusalOfFour 112 = .ok (.getfield 25, 3) := by decide +kernel
theorem dX1_refusalOfFour_115 : decode cX1_refusalOfFour 115 = .ok (.getfield 114, 3) := by decide +kernel
theorem dX1_refusalOfFour_118 : decode cX1_refusalOfFour 118 = .ok (.iload 5, 2) := by decide +kernel
theorem dX1_refusalOfFour_120 : decode cX1_refusalOfFour 120 = .ok (.iaload, 1) := by decide +kernel
theorem dX1_refusalOfFour_121 : decode cX1_refusalOfFour 121 = .ok (.iload_n 3, 1) := by decide +kernel
theorem dX1_refusalOfFour_122 : decode cX1_refusalOfFour 122 = .ok (.if_icmp .ne 24, 3) := by decide +kernel
theorem dX1_refusalOfFour_125 : decode cX1_refusalOfFour 125 = .ok (.aload_n 1, 1) := by decide +kernel
theorem dX1_refusalOfFour_126 : decode cX1_refusalOfFour 126 = .ok (.iload 5, 2) := by decide +kernel
theorem dX1_refusalOfFour_128 : decode cX1_refusalOfFour 128 = .ok (.invokestatic 123, 3) := by decide +kernel
theorem dX1_refusalOfFour_131 : decode cX1_refusalOfFour 131 = .ok (.iconst 1, 1) := by decide +kernel
theorem dX1_refusalOfFour_132 : decode cX1_refusalOfFour 132 = .ok (.iload 5, 2) := by decide +kernel
theorem dX1_refusalOfFour_134 : decode cX1_refusalOfFour 134 = .ok (.iconst 2, 1) := by decide +kernel
theorem dX1_refusalOfFour_135 : decode cX1_refusalOfFour 135 = .ok (.ishr, 1) := by decide +kernel
theorem dX1_refusalOfFour_136 : decode cX1_refusalOfFour 136 = .ok (.ishl, 1) := by decide +kernel
theorem dX1_refusalOfFour_137 : decode cX1_refusalOfFour 137 = .ok (.ior, 1) := by decide +kernel
theorem dX1_refusalOfFour_138 : decode cX1_refusalOfFour 138 = .ok (.iload 4, 2) := by decide +kernel
theorem dX1_refusalOfFour_140 : decode cX1_refusalOfFour 140 = .ok (.if_icmp .eq 6, 3) := by decide +kernel
theorem dX1_refusalOfFour_143 : decode cX1_refusalOfFour 143 = .ok (.bipush (-2), 2) := by decide +kernel
theorem dX1_refusalOfFour_145 : decode cX1_refusalOfFour 145 = .ok (.ireturn, 1) := by decide +kernel
theorem dX1_refusalOfFour_146 : decode cX1_refusalOfFour 146 = .ok (.iinc 5 1, 3) := by decide +kernel
theorem dX1_refusalOfFour_149 : decode cX1_refusalOfFour 149 = .ok (.goto (-49), 3) := by decide +kernel
theorem dX1_refusalOfFour_152 : decode cX1_refusalOfFour 152 = .ok (.iload 4, 2) := by decide +kernel
theorem dX1_refusalOfFour_154 : decode cX1_refusalOfFour 154 = .ok (.invokestatic 108, 3) := by decide +kernel
theorem dX1_refusalOfFour_157 : decode cX1_refusalOfFour 157 = .ok (.iconst 4, 1) := by decide +kernel
theorem dX1_refusalOfFour_158 : decode cX1_refusalOfFour 158 = .ok (.if_icmp .ne 7, 3) := by decide +kernel
theorem dX1_refusalOfFour_161 : decode cX1_refusalOfFour 161 = .ok (.iconst 0, 1) := by decide +kernel
theorem dX1_refusalOfFour_162 : decode cX1_refusalOfFour 162 = .ok (.goto 5, 3) := by decide +kernel
theorem dX1_refusalOfFour_165 : decode cX1_refusalOfFour 165 = .ok (.bipush (-2), 2) := by decide +kernel
theorem dX1_refusalOfFour_167 : decode cX1_refusalOfFour 167 = .ok (.ireturn, 1) := by decide +kernel
theorem dX1_neighbours_0 : decode cX1_neighbours 0 = .ok (.iconst 0, 1) := by decide +kernel
theorem dX1_neighbours_1 : decode cX1_neighbours 1 = .ok (.istore_n 2, 1) := by decide +kernel
theorem dX1_neighbours_2 : decode cX1_neighbours 2 = .ok (.iconst 0, 1) := by decide +kernel
theorem dX1_neighbours_3 : decode cX1_neighbours 3 = .ok (.istore_n 3, 1) := by decide +kernel
theorem dX1_neighbours_4 : decode cX1_neighbours 4 = .ok (.iload_n 3, 1) := by decide +kernel
theorem dX1_neighbours_5 : decode cX1_neighbours 5 = .ok (.iconst 4, 1) := by decide +kernel
theorem dX1_neighbours_6 : decode cX1_neighbours 6 = .ok (.if_icmp .ge 43, 3) := by decide +kernel
theorem dX1_neighbours_9 : decode cX1_neighbours 9 = .ok (.aload_n 0, 1) := by decide +kernel
theorem dX1_neighbours_10 : decode cX1_neighbours 10 = .ok (.getfield 92, 3) := by decide +kernel
theorem dX1_neighbours_13 : decode cX1_neighbours 13 = .ok (.iload_n 1, 1) := by decide +kernel
theorem dX1_neighbours_14 : decode cX1_neighbours 14 = .ok (.bipush 28, 2) := by decide +kernel
theorem dX1_neighbours_16 : decode cX1_neighbours 16 = .ok (.iand, 1) := by decide +kernel
theorem dX1_neighbours_17 : decode cX1_neighbours 17 = .ok (.iload_n 3, 1) := by decide +kernel
theorem dX1_neighbours_18 : decode cX1_neighbours 18 = .ok (.iadd, 1) := by decide +kernel
theorem dX1_neighbours_19 : decode cX1_neighbours 19 = .ok (.iaload, 1) := by decide +kernel
theorem dX1_neighbours_20 : decode cX1_neighbours 20 = .ok (.istore 4, 2) := by decide +kernel
theorem dX1_neighbours_22 : decode cX1_neighbours 22 = .ok (.iload_n 3, 1) := by decide +kernel
theorem dX1_neighbours_23 : decode cX1_neighbours 23 = .ok (.iload_n 1, 1) := by decide +kernel
theorem dX1_neighbours_24 : decode cX1_neighbours 24 = .ok (.iconst 3, 1) := by decide +kernel
theorem dX1_neighbours_25 : decode cX1_neighbours 25 = .ok (.iand, 1) := by decide +kernel
theorem dX1_neighbours_26 : decode cX1_neighbours 26 = .ok (.if_icmp .eq 17, 3) := by decide +kernel
theorem dX1_neighbours_29 : decode cX1_neighbours 29 = .ok (.iload 4, 2) := by decide +kernel
theorem dX1_neighbours_31 : decode cX1_neighbours 31 = .ok (.ifCond .lt 12, 3) := by decide +kernel
theorem dX1_neighbours_34 : decode cX1_neighbours 34 = .ok (.iload_n 2, 1) := by decide +kernel
theorem dX1_neighbours_35 : decode cX1_neighbours 35 = .ok (.iconst 1, 1) := by decide +kernel
theorem dX1_neighbours_36 : decode cX1_neighbours 36 = .ok (.iload 4, 2) := by decide +kernel
theorem dX1_neighbours_38 : decode cX1_neighbours 38 = .ok (.iconst 5, 1) := by decide +kernel
theorem dX1_neighbours_39 : decode cX1_neighbours 39 = .ok (.ishr, 1) := by decide +kernel
theorem dX1_neighbours_40 : decode cX1_neighbours 40 = .ok (.ishl, 1) := by decide +kernel
theorem dX1_neighbours_41 : decode cX1_neighbours 41 = .ok (.ior, 1) := by decide +kernel
theorem dX1_neighbours_42 : decode cX1_neighbours 42 = .ok (.istore_n 2, 1) := by decide +kernel
theorem dX1_neighbours_43 : decode cX1_neighbours 43 = .ok (.iinc 3 1, 3) := by decide +kernel
theorem dX1_neighbours_46 : decode cX1_neighbours 46 = .ok (.goto (-42), 3) := by decide +kernel
theorem dX1_neighbours_49 : decode cX1_neighbours 49 = .ok (.iload_n 2, 1) := by decide +kernel
theorem dX1_neighbours_50 : decode cX1_neighbours 50 = .ok (.ireturn, 1) := by decide +kernel
theorem dX1_isFirstName_0 : decode cX1_isFirstName 0 = .ok (.iload_n 2, 1) := by decide +kernel
theorem dX1_isFirstName_1 : decode cX1_isFirstName 1 = .ok (.bipush 32, 2) := by decide +kernel
theorem dX1_isFirstName_3 : decode cX1_isFirstName 3 = .ok (.if_icmp .ge 18, 3) := by decide +kernel
theorem dX1_isFirstName_6 : decode cX1_isFirstName 6 = .ok (.aload_n 1, 1) := by decide +kernel
theorem dX1_isFirstName_7 : decode cX1_isFirstName 7 = .ok (.iload_n 2, 1) := by decide +kernel
theorem dX1_isFirstName_8 : decode cX1_isFirstName 8 = .ok (.invokevirtual 126, 3) := by decide +kernel
theorem dX1_isFirstName_11 : decode cX1_isFirstName 11 = .ok (.iload_n 2, 1) := by decide +kernel
theorem dX1_isFirstName_12 : decode cX1_isFirstName 12 = .ok (.if_icmp .le 7, 3) := by decide +kernel
theorem dX1_isFirstName_15 : decode cX1_isFirstName 15 = .ok (.iconst 1, 1) := by decide +kernel
theorem dX1_isFirstName_16 : decode cX1_isFirstName 16 = .ok (.goto 4, 3) := by decide +kernel
theorem dX1_isFirstName_19 : decode cX1_isFirstName 19 = .ok (.iconst 0, 1) := by decide +kernel
theorem dX1_isFirstName_20 : decode cX1_isFirstName 20 = .ok (.ireturn, 1) := by decide +kernel
theorem dX1_isFirstName_21 : decode cX1_isFirstName 21 = .ok (.iload_n 2, 1) := by decide +kernel
theorem dX1_isFirstName_22 : decode cX1_isFirstName 22 = .ok (.sipush 160, 3) := by decide +kernel
theorem dX1_isFirstName_25 : decode cX1_isFirstName 25 = .ok (.if_icmp .ge 28, 3) := by decide +kernel
theorem dX1_isFirstName_28 : decode cX1_isFirstName 28 = .ok (.aload_n 0, 1) := by decide +kernel
theorem dX1_isFirstName_29 : decode cX1_isFirstName 29 = .ok (.getfield 25, 3) := by decide +kernel
theorem dX1_isFirstName_32 : decode cX1_isFirstName 32 = .ok (.getfield 95, 3) := by decide +kernel
theorem dX1_isFirstName_35 : decode cX1_isFirstName 35 = .ok (.iload_n 2, 1) := by decide +kernel
theorem dX1_isFirstName_36 : decode cX1_isFirstName 36 = .ok (.bipush 32, 2) := by decide +kernel
theorem dX1_isFirstName_38 : decode cX1_isFirstName 38 = .ok (.isub, 1) := by decide +kernel
theorem dX1_isFirstName_39 : decode cX1_isFirstName 39 = .ok (.iaload, 1) := by decide +kernel
theorem dX1_isFirstName_40 : decode cX1_isFirstName 40 = .ok (.iload_n 2, 1) := by decide +kernel
theorem dX1_isFirstName_41 : decode cX1_isFirstName 41 = .ok (.bipush 32, 2) := by decide +kernel
theorem dX1_isFirstName_43 : decode cX1_isFirstName 43 = .ok (.isub, 1) := by decide +kernel
theorem dX1_isFirstName_44 : decode cX1_isFirstName 44 = .ok (.if_icmp .ne 7, 3) := by decide +kernel
theorem dX1_isFirstName_47 : decode cX1_isFirstName 47 = .ok (.iconst 1, 1) := by decide +kernel
theorem dX1_isFirstName_48 : decode cX1_isFirstName 48 = .ok (.goto 4, 3) := by decide +kernel
theorem dX1_isFirstName_51 : decode cX1_isFirstName 51 = .ok (.iconst 0, 1) := by decide +kernel
theorem dX1_isFirstName_52 : decode cX1_isFirstName 52 = .ok (.ireturn, 1) := by decide +kernel
theorem dX1_isFirstName_53 : decode cX1_isFirstName 53 = .ok (.iload_n 2, 1) := by decide +kernel
theorem dX1_isFirstName_54 : decode cX1_isFirstName 54 = .ok (.sipush 168, 3) := by decide +kernel
theorem dX1_isFirstName_57 : decode cX1_isFirstName 57 = .ok (.if_icmp .lt 24, 3) := by decide +kernel
theorem dX1_isFirstName_60 : decode cX1_isFirstName 60 = .ok (.aload_n 0, 1) := by decide +kernel
theorem dX1_isFirstName_61 : decode cX1_isFirstName 61 = .ok (.getfield 25, 3) := by decide +kernel
theorem dX1_isFirstName_64 : decode cX1_isFirstName 64 = .ok (.getfield 114, 3) := by decide +kernel
theorem dX1_isFirstName_67 : decode cX1_isFirstName 67 = .ok (.iload_n 2, 1) := by decide +kernel
theorem dX1_isFirstName_68 : decode cX1_isFirstName 68 = .ok (.sipush 168, 3) := by decide +kernel
theorem dX1_isFirstName_71 : decode cX1_isFirstName 71 = .ok (.isub, 1) := by decide +kernel
theorem dX1_isFirstName_72 : decode cX1_isFirstName 72 = .ok (.iaload, 1) := by decide +kernel
theorem dX1_isFirstName_73 : decode cX1_isFirstName 73 = .ok (.iload_n 2, 1) := by decide +kernel
theorem dX1_isFirstName_74 : decode cX1_isFirstName 74 = .ok (.sipush 168, 3) := by decide +kernel
theorem dX1_isFirstName_77 : decode cX1_isFirstName 77 = .ok (.isub, 1) := by decide +kernel
theorem dX1_isFirstName_78 : decode cX1_isFirstName 78 = .ok (.if_icmp .ne 7, 3) := by decide +kernel
theorem dX1_isFirstName_81 : decode cX1_isFirstName 81 = .ok (.iconst 1, 1) := by decide +kernel
theorem dX1_isFirstName_82 : decode cX1_isFirstName 82 = .ok (.goto 4, 3) := by decide +kernel
theorem dX1_isFirstName_85 : decode cX1_isFirstName 85 = .ok (.iconst 0, 1) := by decide +kernel
theorem dX1_isFirstName_86 : decode cX1_isFirstName 86 = .ok (.ireturn, 1) := by decide +kernel
theorem dX1_make_0 : decode cX1_make 0 = .ok (.aload_n 3, 1) := by decide +kernel
theorem dX1_make_1 : decode cX1_make 1 = .ok (.aload_n 1, 1) := by decide +kernel
theorem dX1_make_2 : decode cX1_make 2 = .ok (.getfield 54, 3) := by decide +kernel
theorem dX1_make_5 : decode cX1_make 5 = .ok (.iload_n 2, 1) := by decide +kernel
theorem dX1_make_6 : decode cX1_make 6 = .ok (.invokestatic 129, 3) := by decide +kernel
theorem dX1_make_9 : decode cX1_make 9 = .ok (.iadd, 1) := by decide +kernel
theorem dX1_make_10 : decode cX1_make 10 = .ok (.invokevirtual 132, 3) := by decide +kernel
theorem dX1_make_13 : decode cX1_make 13 = .ok (.iload_n 2, 1) := by decide +kernel
theorem dX1_make_14 : decode cX1_make 14 = .ok (.bipush 32, 2) := by decide +kernel
theorem dX1_make_16 : decode cX1_make 16 = .ok (.if_icmp .ge 13, 3) := by decide +kernel
theorem dX1_make_19 : decode cX1_make 19 = .ok (.aload_n 0, 1) := by decide +kernel
theorem dX1_make_20 : decode cX1_make 20 = .ok (.aload_n 1, 1) := by decide +kernel
theorem dX1_make_21 : decode cX1_make 21 = .ok (.iload_n 2, 1) := by decide +kernel
theorem dX1_make_22 : decode cX1_make 22 = .ok (.aload_n 3, 1) := by decide +kernel
theorem dX1_make_23 : decode cX1_make 23 = .ok (.invokevirtual 136, 3) := by decide +kernel
theorem dX1_make_26 : decode cX1_make 26 = .ok (.goto 55, 3) := by decide +kernel
theorem dX1_make_29 : decode cX1_make 29 = .ok (.iload_n 2, 1) := by decide +kernel
theorem dX1_make_30 : decode cX1_make 30 = .ok (.sipush 160, 3) := by decide +kernel
theorem dX1_make_33 : decode cX1_make 33 = .ok (.if_icmp .ge 16, 3) := by decide +kernel
theorem dX1_make_36 : decode cX1_make 36 = .ok (.aload_n 0, 1) := by decide +kernel
theorem dX1_make_37 : decode cX1_make 37 = .ok (.aload_n 1, 1) := by decide +kernel
theorem dX1_make_38 : decode cX1_make 38 = .ok (.iload_n 2, 1) := by decide +kernel
theorem dX1_make_39 : decode cX1_make 39 = .ok (.bipush 32, 2) := by decide +kernel
theorem dX1_make_41 : decode cX1_make 41 = .ok (.isub, 1) := by decide +kernel
theorem dX1_make_42 : decode cX1_make 42 = .ok (.aload_n 3, 1) := by decide +kernel
theorem dX1_make_43 : decode cX1_make 43 = .ok (.invokevirtual 139, 3) := by decide +kernel
theorem dX1_make_46 : decode cX1_make 46 = .ok (.goto 35, 3) := by decide +kernel
theorem dX1_make_49 : decode cX1_make 49 = .ok (.iload_n 2, 1) := by decide +kernel
theorem dX1_make_50 : decode cX1_make 50 = .ok (.sipush 168, 3) := by decide +kernel
theorem dX1_make_53 : decode cX1_make 53 = .ok (.if_icmp .ge 17, 3) := by decide +kernel
theorem dX1_make_56 : decode cX1_make 56 = .ok (.aload_n 0, 1) := by decide +kernel
theorem dX1_make_57 : decode cX1_make 57 = .ok (.aload_n 1, 1) := by decide +kernel
theorem dX1_make_58 : decode cX1_make 58 = .ok (.iload_n 2, 1) := by decide +kernel
theorem dX1_make_59 : decode cX1_make 59 = .ok (.sipush 160, 3) := by decide +kernel
theorem dX1_make_62 : decode cX1_make 62 = .ok (.isub, 1) := by decide +kernel
theorem dX1_make_63 : decode cX1_make 63 = .ok (.aload_n 3, 1) := by decide +kernel
theorem dX1_make_64 : decode cX1_make 64 = .ok (.invokevirtual 142, 3) := by decide +kernel
theorem dX1_make_67 : decode cX1_make 67 = .ok (.goto 14, 3) := by decide +kernel
theorem dX1_make_70 : decode cX1_make 70 = .ok (.aload_n 0, 1) := by decide +kernel
theorem dX1_make_71 : decode cX1_make 71 = .ok (.aload_n 1, 1) := by decide +kernel
theorem dX1_make_72 : decode cX1_make 72 = .ok (.iload_n 2, 1) := by decide +kernel
theorem dX1_make_73 : decode cX1_make 73 = .ok (.sipush 168, 3) := by decide +kernel
theorem dX1_make_76 : decode cX1_make 76 = .ok (.isub, 1) := by decide +kernel
theorem dX1_make_77 : decode cX1_make 77 = .ok (.aload_n 3, 1) := by decide +kernel
theorem dX1_make_78 : decode cX1_make 78 = .ok (.invokevirtual 145, 3) := by decide +kernel
theorem dX1_make_81 : decode cX1_make 81 = .ok (.aload_n 0, 1) := by decide +kernel
theorem dX1_make_82 : decode cX1_make 82 = .ok (.getfield 29, 3) := by decide +kernel
theorem dX1_make_85 : decode cX1_make 85 = .ok (.aload_n 3, 1) := by decide +kernel
theorem dX1_make_86 : decode cX1_make 86 = .ok (.invokevirtual 148, 3) := by decide +kernel
theorem dX1_make_89 : decode cX1_make 89 = .ok (.pop, 1) := by decide +kernel
theorem dX1_make_90 : decode cX1_make 90 = .ok (.return_, 1) := by decide +kernel
theorem dX1_twoToThree_0 : decode cX1_twoToThree 0 = .ok (.iload_n 2, 1) := by decide +kernel
theorem dX1_twoToThree_1 : decode cX1_twoToThree 1 = .ok (.iconst 2, 1) := by decide +kernel
theorem dX1_twoToThree_2 : decode cX1_twoToThree 2 = .ok (.ishr, 1) := by decide +kernel
theorem dX1_twoToThree_3 : decode cX1_twoToThree 3 = .ok (.istore 4, 2) := by decide +kernel
theorem dX1_twoToThree_5 : decode cX1_twoToThree 5 = .ok (.iload_n 2, 1) := by decide +kernel
theorem dX1_twoToThree_6 : decode cX1_twoToThree 6 = .ok (.iconst 3, 1) := by decide +kernel
theorem dX1_twoToThree_7 : decode cX1_twoToThree 7 = .ok (.iand, 1) := by decide +kernel
theorem dX1_twoToThree_8 : decode cX1_twoToThree 8 = .ok (.istore 5, 2) := by decide +kernel
theorem dX1_twoToThree_10 : decode cX1_twoToThree 10 = .ok (.aload_n 1, 1) := by decide +kernel
theorem dX1_twoToThree_11 : decode cX1_twoToThree 11 = .ok (.getfield 92, 3) := by decide +kernel
theorem dX1_twoToThree_14 : decode cX1_twoToThree 14 = .ok (.iload_n 2, 1) := by decide +kernel
theorem dX1_twoToThree_15 : decode cX1_twoToThree 15 = .ok (.iaload, 1) := by decide +kernel
theorem dX1_twoToThree_16 : decode cX1_twoToThree 16 = .ok (.iconst 5, 1) := by decide +kernel
theorem dX1_twoToThree_17 : decode cX1_twoToThree 17 = .ok (.ishr, 1) := by decide +kernel
theorem dX1_twoToThree_18 : decode cX1_twoToThree 18 = .ok (.istore 6, 2) := by decide +kernel
theorem dX1_twoToThree_20 : decode cX1_twoToThree 20 = .ok (.aload_n 0, 1) := by decide +kernel
theorem dX1_twoToThree_21 : decode cX1_twoToThree 21 = .ok (.aload_n 1, 1) := by decide +kernel
theorem dX1_twoToThree_22 : decode cX1_twoToThree 22 = .ok (.iconst 1, 1) := by decide +kernel
theorem dX1_twoToThree_23 : decode cX1_twoToThree 23 = .ok (.iload 4, 2) := by decide +kernel
theorem dX1_twoToThree_25 : decode cX1_twoToThree 25 = .ok (.ishl, 1) := by decide +kernel
theorem dX1_twoToThree_26 : decode cX1_twoToThree 26 = .ok (.iconst 1, 1) := by decide +kernel
theorem dX1_twoToThree_27 : decode cX1_twoToThree 27 = .ok (.iload 6, 2) := by decide +kernel
theorem dX1_twoToThree_29 : decode cX1_twoToThree 29 = .ok (.ishl, 1) := by decide +kernel
theorem dX1_twoToThree_30 : decode cX1_twoToThree 30 = .ok (.ior, 1) := by decide +kernel
theorem dX1_twoToThree_31 : decode cX1_twoToThree 31 = .ok (.invokevirtual 154, 3) := by decide +kernel
theorem dX1_twoToThree_34 : decode cX1_twoToThree 34 = .ok (.istore 7, 2) := by decide +kernel
theorem dX1_twoToThree_36 : decode cX1_twoToThree 36 = .ok (.iload 7, 2) := by decide +kernel
theorem dX1_twoToThree_38 : decode cX1_twoToThree 38 = .ok (.istore 8, 2) := by decide +kernel
theorem dX1_twoToThree_40 : decode cX1_twoToThree 40 = .ok (.iconst 0, 1) := by decide +kernel
theorem dX1_twoToThree_41 : decode cX1_twoToThree 41 = .ok (.istore 9, 2) := by decide +kernel
theorem dX1_twoToThree_43 : decode cX1_twoToThree 43 = .ok (.iload 9, 2) := by decide +kernel
theorem dX1_twoToThree_45 : decode cX1_twoToThree 45 = .ok (.iconst 4, 1) := by decide +kernel
theorem dX1_twoToThree_46 : decode cX1_twoToThree 46 = .ok (.if_icmp .ge 49, 3) := by decide +kernel
theorem dX1_twoToThree_49 : decode cX1_twoToThree 49 = .ok (.iload 9, 2) := by decide +kernel
theorem dX1_twoToThree_51 : decode cX1_twoToThree 51 = .ok (.iload 5, 2) := by decide +kernel
theorem dX1_twoToThree_53 : decode cX1_twoToThree 53 = .ok (.if_icmp .eq 36, 3) := by decide +kernel
theorem dX1_twoToThree_56 : decode cX1_twoToThree 56 = .ok (.aload_n 0, 1) := by decide +kernel
theorem dX1_twoToThree_57 : decode cX1_twoToThree 57 = .ok (.iconst 4, 1) := by decide +kernel
theorem dX1_twoToThree_58 : decode cX1_twoToThree 58 = .ok (.iload 4, 2) := by decide +kernel
theorem dX1_twoToThree_60 : decode cX1_twoToThree 60 = .ok (.imul, 1) := by decide +kernel
theorem dX1_twoToThree_61 : decode cX1_twoToThree 61 = .ok (.iload 9, 2) := by decide +kernel
theorem dX1_twoToThree_63 : decode cX1_twoToThree 63 = .ok (.iadd, 1) := by decide +kernel
theorem dX1_twoToThree_64 : decode cX1_twoToThree 64 = .ok (.iload 8, 2) := by decide +kernel
theorem dX1_twoToThree_66 : decode cX1_twoToThree 66 = .ok (.iconst 0, 1) := by decide +kernel
theorem dX1_twoToThree_67 : decode cX1_twoToThree 67 = .ok (.invokevirtual 157, 3) := by decide +kernel
theorem dX1_twoToThree_70 : decode cX1_twoToThree 70 = .ok (.aload_n 0, 1) := by decide +kernel
theorem dX1_twoToThree_71 : decode cX1_twoToThree 71 = .ok (.aload_n 1, 1) := by decide +kernel
theorem dX1_twoToThree_72 : decode cX1_twoToThree 72 = .ok (.getfield 92, 3) := by decide +kernel
theorem dX1_twoToThree_75 : decode cX1_twoToThree 75 = .ok (.iload_n 2, 1) := by decide +kernel
theorem dX1_twoToThree_76 : decode cX1_twoToThree 76 = .ok (.iaload, 1) := by decide +kernel
theorem dX1_twoToThree_77 : decode cX1_twoToThree 77 = .ok (.iload 5, 2) := by decide +kernel
theorem dX1_twoToThree_79 : decode cX1_twoToThree 79 = .ok (.iload 9, 2) := by decide +kernel
theorem dX1_twoToThree_81 : decode cX1_twoToThree 81 = .ok (.iload 8, 2) := by decide +kernel
theorem dX1_twoToThree_83 : decode cX1_twoToThree 83 = .ok (.invokevirtual 161, 3) := by decide +kernel
theorem dX1_twoToThree_86 : decode cX1_twoToThree 86 = .ok (.iinc 8 1, 3) := by decide +kernel
theorem dX1_twoToThree_89 : decode cX1_twoToThree 89 = .ok (.iinc 9 1, 3) := by decide +kernel
theorem dX1_twoToThree_92 : decode cX1_twoToThree 92 = .ok (.goto (-49), 3) := by decide +kernel
theorem dX1_twoToThree_95 : decode cX1_twoToThree 95 = .ok (.aload_n 0, 1) := by decide +kernel
theorem dX1_twoToThree_96 : decode cX1_twoToThree 96 = .ok (.aload_n 1, 1) := by decide +kernel
theorem dX1_twoToThree_97 : decode cX1_twoToThree 97 = .ok (.aload_n 3, 1) := by decide +kernel
theorem dX1_twoToThree_98 : decode cX1_twoToThree 98 = .ok (.invokevirtual 165, 3) := by decide +kernel
theorem dX1_twoToThree_101 : decode cX1_twoToThree 101 = .ok (.aload_n 3, 1) := by decide +kernel
theorem dX1_twoToThree_102 : decode cX1_twoToThree 102 = .ok (.iload 7, 2) := by decide +kernel
theorem dX1_twoToThree_104 : decode cX1_twoToThree 104 = .ok (.iload 5, 2) := by decide +kernel
theorem dX1_twoToThree_106 : decode cX1_twoToThree 106 = .ok (.invokestatic 169, 3) := by decide +kernel
theorem dX1_twoToThree_109 : decode cX1_twoToThree 109 = .ok (.return_, 1) := by decide +kernel
theorem dX1_threeToTwo_0 : decode cX1_threeToTwo 0 = .ok (.iload_n 2, 1) := by decide +kernel
theorem dX1_threeToTwo_1 : decode cX1_threeToTwo 1 = .ok (.iconst 4, 1) := by decide +kernel
theorem dX1_threeToTwo_2 : decode cX1_threeToTwo 2 = .ok (.ishr, 1) := by decide +kernel
theorem dX1_threeToTwo_3 : decode cX1_threeToTwo 3 = .ok (.istore 4, 2) := by decide +kernel
theorem dX1_threeToTwo_5 : decode cX1_threeToTwo 5 = .ok (.iload_n 2, 1) := by decide +kernel
theorem dX1_threeToTwo_6 : decode cX1_threeToTwo 6 = .ok (.iconst 2, 1) := by decide +kernel
theorem dX1_threeToTwo_7 : decode cX1_threeToTwo 7 = .ok (.ishr, 1) := by decide +kernel
theorem dX1_threeToTwo_8 : decode cX1_threeToTwo 8 = .ok (.iconst 3, 1) := by decide +kernel
theorem dX1_threeToTwo_9 : decode cX1_threeToTwo 9 = .ok (.iand, 1) := by decide +kernel
theorem dX1_threeToTwo_10 : decode cX1_threeToTwo 10 = .ok (.istore 5, 2) := by decide +kernel
theorem dX1_threeToTwo_12 : decode cX1_threeToTwo 12 = .ok (.iload_n 2, 1) := by decide +kernel
theorem dX1_threeToTwo_13 : decode cX1_threeToTwo 13 = .ok (.iconst 3, 1) := by decide +kernel
theorem dX1_threeToTwo_14 : decode cX1_threeToTwo 14 = .ok (.iand, 1) := by decide +kernel
theorem dX1_threeToTwo_15 : decode cX1_threeToTwo 15 = .ok (.istore 6, 2) := by decide +kernel
theorem dX1_threeToTwo_17 : decode cX1_threeToTwo 17 = .ok (.iconst 1, 1) := by decide +kernel
theorem dX1_threeToTwo_18 : decode cX1_threeToTwo 18 = .ok (.iload 4, 2) := by decide +kernel
theorem dX1_threeToTwo_20 : decode cX1_threeToTwo 20 = .ok (.ishl, 1) := by decide +kernel
theorem dX1_threeToTwo_21 : decode cX1_threeToTwo 21 = .ok (.istore 7, 2) := by decide +kernel
theorem dX1_threeToTwo_23 : decode cX1_threeToTwo 23 = .ok (.iconst 0, 1) := by decide +kernel
theorem dX1_threeToTwo_24 : decode cX1_threeToTwo 24 = .ok (.istore 8, 2) := by decide +kernel
theorem dX1_threeToTwo_26 : decode cX1_threeToTwo 26 = .ok (.iload 8, 2) := by decide +kernel
theorem dX1_threeToTwo_28 : decode cX1_threeToTwo 28 = .ok (.iconst 4, 1) := by decide +kernel
theorem dX1_threeToTwo_29 : decode cX1_threeToTwo 29 = .ok (.if_icmp .ge 44, 3) := by decide +kernel
theorem dX1_threeToTwo_32 : decode cX1_threeToTwo 32 = .ok (.iload 8, 2) := by decide +kernel
theorem dX1_threeToTwo_34 : decode cX1_threeToTwo 34 = .ok (.iload 5, 2) := by decide +kernel
theorem dX1_threeToTwo_36 : decode cX1_threeToTwo 36 = .ok (.if_icmp .eq 31, 3) := by decide +kernel
theorem dX1_threeToTwo_39 : decode cX1_threeToTwo 39 = .ok (.iload 8, 2) := by decide +kernel
theorem dX1_threeToTwo_41 : decode cX1_threeToTwo 41 = .ok (.iload 6, 2) := by decide +kernel
theorem dX1_threeToTwo_43 : decode cX1_threeToTwo 43 = .ok (.if_icmp .eq 24, 3) := by decide +kernel
theorem dX1_threeToTwo_46 : decode cX1_threeToTwo 46 = .ok (.iload 7, 2) := by decide +kernel
theorem dX1_threeToTwo_48 : decode cX1_threeToTwo 48 = .ok (.iconst 1, 1) := by decide +kernel
theorem dX1_threeToTwo_49 : decode cX1_threeToTwo 49 = .ok (.aload_n 1, 1) := by decide +kernel
theorem dX1_threeToTwo_50 : decode cX1_threeToTwo 50 = .ok (.getfield 92, 3) := by decide +kernel
theorem dX1_threeToTwo_53 : decode cX1_threeToTwo 53 = .ok (.iconst 4, 1) := by decide +kernel
theorem dX1_threeToTwo_54 : decode cX1_threeToTwo 54 = .ok (.iload 4, 2) := by decide +kernel
theorem dX1_threeToTwo_56 : decode cX1_threeToTwo 56 = .ok (.imul, 1) := by decide +kernel
theorem dX1_threeToTwo_57 : decode cX1_threeToTwo 57 = .ok (.iload 8, 2) := by decide +kernel
theorem dX1_threeToTwo_59 : decode cX1_threeToTwo 59 = .ok (.iadd, 1) := by decide +kernel
theorem dX1_threeToTwo_60 : decode cX1_threeToTwo 60 = .ok (.iaload, 1) := by decide +kernel
theorem dX1_threeToTwo_61 : decode cX1_threeToTwo 61 = .ok (.iconst 5, 1) := by decide +kernel
theorem dX1_threeToTwo_62 : decode cX1_threeToTwo 62 = .ok (.ishr, 1) := by decide +kernel
theorem dX1_threeToTwo_63 : decode cX1_threeToTwo 63 = .ok (.ishl, 1) := by decide +kernel
theorem dX1_threeToTwo_64 : decode cX1_threeToTwo 64 = .ok (.ior, 1) := by decide +kernel
theorem dX1_threeToTwo_65 : decode cX1_threeToTwo 65 = .ok (.istore 7, 2) := by decide +kernel
theorem dX1_threeToTwo_67 : decode cX1_threeToTwo 67 = .ok (.iinc 8 1, 3) := by decide +kernel
theorem dX1_threeToTwo_70 : decode cX1_threeToTwo 70 = .ok (.goto (-44), 3) := by decide +kernel
theorem dX1_threeToTwo_73 : decode cX1_threeToTwo 73 = .ok (.aload_n 0, 1) := by decide +kernel
theorem dX1_threeToTwo_74 : decode cX1_threeToTwo 74 = .ok (.aload_n 1, 1) := by decide +kernel
theorem dX1_threeToTwo_75 : decode cX1_threeToTwo 75 = .ok (.iload 7, 2) := by decide +kernel
theorem dX1_threeToTwo_77 : decode cX1_threeToTwo 77 = .ok (.invokevirtual 154, 3) := by decide +kernel
theorem dX1_threeToTwo_80 : decode cX1_threeToTwo 80 = .ok (.istore 8, 2) := by decide +kernel
theorem dX1_threeToTwo_82 : decode cX1_threeToTwo 82 = .ok (.aload_n 0, 1) := by decide +kernel
theorem dX1_threeToTwo_83 : decode cX1_threeToTwo 83 = .ok (.iconst 4, 1) := by decide +kernel
theorem dX1_threeToTwo_84 : decode cX1_threeToTwo 84 = .ok (.iload 4, 2) := by decide +kernel
theorem dX1_threeToTwo_86 : decode cX1_threeToTwo 86 = .ok (.imul, 1) := by decide +kernel
theorem dX1_threeToTwo_87 : decode cX1_threeToTwo 87 = .ok (.iload 6, 2) := by decide +kernel
theorem dX1_threeToTwo_89 : decode cX1_threeToTwo 89 = .ok (.iadd, 1) := by decide +kernel
theorem dX1_threeToTwo_90 : decode cX1_threeToTwo 90 = .ok (.iload 8, 2) := by decide +kernel
theorem dX1_threeToTwo_92 : decode cX1_threeToTwo 92 = .ok (.iconst 0, 1) := by decide +kernel
theorem dX1_threeToTwo_93 : decode cX1_threeToTwo 93 = .ok (.invokevirtual 157, 3) := by decide +kernel
theorem dX1_threeToTwo_96 : decode cX1_threeToTwo 96 = .ok (.aload_n 0, 1) := by decide +kernel
theorem dX1_threeToTwo_97 : decode cX1_threeToTwo 97 = .ok (.iconst 4, 1) := by decide +kernel
theorem dX1_threeToTwo_98 : decode cX1_threeToTwo 98 = .ok (.iload 4, 2) := by decide +kernel
theorem dX1_threeToTwo_100 : decode cX1_threeToTwo 100 = .ok (.imul, 1) := by decide +kernel
theorem dX1_threeToTwo_101 : decode cX1_threeToTwo 101 = .ok (.iload 5, 2) := by decide +kernel
theorem dX1_threeToTwo_103 : decode cX1_threeToTwo 103 = .ok (.iadd, 1) := by decide +kernel
theorem dX1_threeToTwo_104 : decode cX1_threeToTwo 104 = .ok (.iload 8, 2) := by decide +kernel
theorem dX1_threeToTwo_106 : decode cX1_threeToTwo 106 = .ok (.iconst 1, 1) := by decide +kernel
theorem dX1_threeToTwo_107 : decode cX1_threeToTwo 107 = .ok (.iadd, 1) := by decide +kernel
theorem dX1_threeToTwo_108 : decode cX1_threeToTwo 108 = .ok (.iconst 0, 1) := by decide +kernel
theorem dX1_threeToTwo_109 : decode cX1_threeToTwo 109 = .ok (.invokevirtual 157, 3) := by decide +kernel
theorem dX1_threeToTwo_112 : decode cX1_threeToTwo 112 = .ok (.iconst 0, 1) := by decide +kernel
theorem dX1_threeToTwo_113 : decode cX1_threeToTwo 113 = .ok (.istore 9, 2) := by decide +kernel
theorem dX1_threeToTwo_115 : decode cX1_threeToTwo 115 = .ok (.iload 9, 2) := by decide +kernel
theorem dX1_threeToTwo_117 : decode cX1_threeToTwo 117 = .ok (.iconst 4, 1) := by decide +kernel
theorem dX1_threeToTwo_118 : decode cX1_threeToTwo 118 = .ok (.if_icmp .ge 69, 3) := by decide +kernel
theorem dX1_threeToTwo_121 : decode cX1_threeToTwo 121 = .ok (.iload 9, 2) := by decide +kernel
theorem dX1_threeToTwo_123 : decode cX1_threeToTwo 123 = .ok (.iload 5, 2) := by decide +kernel
theorem dX1_threeToTwo_125 : decode cX1_threeToTwo 125 = .ok (.if_icmp .eq 56, 3) := by decide +kernel
theorem dX1_threeToTwo_128 : decode cX1_threeToTwo 128 = .ok (.iload 9, 2) := by decide +kernel
theorem dX1_threeToTwo_130 : decode cX1_threeToTwo 130 = .ok (.iload 6, 2) := by decide +kernel
theorem dX1_threeToTwo_132 : decode cX1_threeToTwo 132 = .ok (.if_icmp .eq 49, 3) := by decide +kernel
theorem dX1_threeToTwo_135 : decode cX1_threeToTwo 135 = .ok (.aload_n 0, 1) := by decide +kernel
theorem dX1_threeToTwo_136 : decode cX1_threeToTwo 136 = .ok (.aload_n 1, 1) := by decide +kernel
theorem dX1_threeToTwo_137 : decode cX1_threeToTwo 137 = .ok (.getfield 92, 3) := by decide +kernel
theorem dX1_threeToTwo_140 : decode cX1_threeToTwo 140 = .ok (.iconst 4, 1) := by decide +kernel
theorem dX1_threeToTwo_141 : decode cX1_threeToTwo 141 = .ok (.iload 4, 2) := by decide +kernel
theorem dX1_threeToTwo_143 : decode cX1_threeToTwo 143 = .ok (.imul, 1) := by decide +kernel
theorem dX1_threeToTwo_144 : decode cX1_threeToTwo 144 = .ok (.iload 9, 2) := by decide +kernel
theorem dX1_threeToTwo_146 : decode cX1_threeToTwo 146 = .ok (.iadd, 1) := by decide +kernel
theorem dX1_threeToTwo_147 : decode cX1_threeToTwo 147 = .ok (.iaload, 1) := by decide +kernel
theorem dX1_threeToTwo_148 : decode cX1_threeToTwo 148 = .ok (.iload 9, 2) := by decide +kernel
theorem dX1_threeToTwo_150 : decode cX1_threeToTwo 150 = .ok (.iload 6, 2) := by decide +kernel
theorem dX1_threeToTwo_152 : decode cX1_threeToTwo 152 = .ok (.iload 8, 2) := by decide +kernel
theorem dX1_threeToTwo_154 : decode cX1_threeToTwo 154 = .ok (.invokevirtual 161, 3) := by decide +kernel
theorem dX1_threeToTwo_157 : decode cX1_threeToTwo 157 = .ok (.aload_n 0, 1) := by decide +kernel
theorem dX1_threeToTwo_158 : decode cX1_threeToTwo 158 = .ok (.aload_n 1, 1) := by decide +kernel
theorem dX1_threeToTwo_159 : decode cX1_threeToTwo 159 = .ok (.getfield 92, 3) := by decide +kernel
theorem dX1_threeToTwo_162 : decode cX1_threeToTwo 162 = .ok (.iconst 4, 1) := by decide +kernel
theorem dX1_threeToTwo_163 : decode cX1_threeToTwo 163 = .ok (.iload 4, 2) := by decide +kernel
theorem dX1_threeToTwo_165 : decode cX1_threeToTwo 165 = .ok (.imul, 1) := by decide +kernel
theorem dX1_threeToTwo_166 : decode cX1_threeToTwo 166 = .ok (.iload 9, 2) := by decide +kernel
theorem dX1_threeToTwo_168 : decode cX1_threeToTwo 168 = .ok (.iadd, 1) := by decide +kernel
theorem dX1_threeToTwo_169 : decode cX1_threeToTwo 169 = .ok (.iaload, 1) := by decide +kernel
theorem dX1_threeToTwo_170 : decode cX1_threeToTwo 170 = .ok (.iload 9, 2) := by decide +kernel
theorem dX1_threeToTwo_172 : decode cX1_threeToTwo 172 = .ok (.iload 5, 2) := by decide +kernel
theorem dX1_threeToTwo_174 : decode cX1_threeToTwo 174 = .ok (.iload 8, 2) := by decide +kernel
theorem dX1_threeToTwo_176 : decode cX1_threeToTwo 176 = .ok (.iconst 1, 1) := by decide +kernel
theorem dX1_threeToTwo_177 : decode cX1_threeToTwo 177 = .ok (.iadd, 1) := by decide +kernel
theorem dX1_threeToTwo_178 : decode cX1_threeToTwo 178 = .ok (.invokevirtual 161, 3) := by decide +kernel
theorem dX1_threeToTwo_181 : decode cX1_threeToTwo 181 = .ok (.iinc 9 1, 3) := by decide +kernel
theorem dX1_threeToTwo_184 : decode cX1_threeToTwo 184 = .ok (.goto (-69), 3) := by decide +kernel
theorem dX1_threeToTwo_187 : decode cX1_threeToTwo 187 = .ok (.aload_n 0, 1) := by decide +kernel
theorem dX1_threeToTwo_188 : decode cX1_threeToTwo 188 = .ok (.aload_n 1, 1) := by decide +kernel
theorem dX1_threeToTwo_189 : decode cX1_threeToTwo 189 = .ok (.aload_n 3, 1) := by decide +kernel
theorem dX1_threeToTwo_190 : decode cX1_threeToTwo 190 = .ok (.invokevirtual 165, 3) := by decide +kernel
theorem dX1_threeToTwo_193 : decode cX1_threeToTwo 193 = .ok (.aload_n 3, 1) := by decide +kernel
theorem dX1_threeToTwo_194 : decode cX1_threeToTwo 194 = .ok (.iconst 4, 1) := by decide +kernel
theorem dX1_threeToTwo_195 : decode cX1_threeToTwo 195 = .ok (.iload 8, 2) := by decide +kernel
theorem dX1_threeToTwo_197 : decode cX1_threeToTwo 197 = .ok (.imul, 1) := by decide +kernel
theorem dX1_threeToTwo_198 : decode cX1_threeToTwo 198 = .ok (.iload 5, 2) := by decide +kernel
theorem dX1_threeToTwo_200 : decode cX1_threeToTwo 200 = .ok (.iadd, 1) := by decide +kernel
theorem dX1_threeToTwo_201 : decode cX1_threeToTwo 201 = .ok (.iload 8, 2) := by decide +kernel
theorem dX1_threeToTwo_203 : decode cX1_threeToTwo 203 = .ok (.iconst 1, 1) := by decide +kernel
theorem dX1_threeToTwo_204 : decode cX1_threeToTwo 204 = .ok (.iadd, 1) := by decide +kernel
theorem dX1_threeToTwo_205 : decode cX1_threeToTwo 205 = .ok (.getstatic 173, 3) := by decide +kernel
theorem dX1_threeToTwo_208 : decode cX1_threeToTwo 208 = .ok (.iconst 4, 1) := by decide +kernel
theorem dX1_threeToTwo_209 : decode cX1_threeToTwo 209 = .ok (.iload 5, 2) := by decide +kernel
theorem dX1_threeToTwo_211 : decode cX1_threeToTwo 211 = .ok (.imul, 1) := by decide +kernel
theorem dX1_threeToTwo_212 : decode cX1_threeToTwo 212 = .ok (.iload 6, 2) := by decide +kernel
theorem dX1_threeToTwo_214 : decode cX1_threeToTwo 214 = .ok (.iadd, 1) := by decide +kernel
theorem dX1_threeToTwo_215 : decode cX1_threeToTwo 215 = .ok (.iaload, 1) := by decide +kernel
theorem dX1_threeToTwo_216 : decode cX1_threeToTwo 216 = .ok (.invokevirtual 176, 3) := by decide +kernel
theorem dX1_threeToTwo_219 : decode cX1_threeToTwo 219 = .ok (.return_, 1) := by decide +kernel
theorem dX1_oneToFour_0 : decode cX1_oneToFour 0 = .ok (.aload_n 0, 1) := by decide +kernel
theorem dX1_oneToFour_1 : decode cX1_oneToFour 1 = .ok (.aload_n 1, 1) := by decide +kernel
theorem dX1_oneToFour_2 : decode cX1_oneToFour 2 = .ok (.iconst 1, 1) := by decide +kernel
theorem dX1_oneToFour_3 : decode cX1_oneToFour 3 = .ok (.iload_n 2, 1) := by decide +kernel
theorem dX1_oneToFour_4 : decode cX1_oneToFour 4 = .ok (.ishl, 1) := by decide +kernel
theorem dX1_oneToFour_5 : decode cX1_oneToFour 5 = .ok (.invokevirtual 154, 3) := by decide +kernel
theorem dX1_oneToFour_8 : decode cX1_oneToFour 8 = .ok (.istore 4, 2) := by decide +kernel
theorem dX1_oneToFour_10 : decode cX1_oneToFour 10 = .ok (.iconst 0, 1) := by decide +kernel
theorem dX1_oneToFour_11 : decode cX1_oneToFour 11 = .ok (.istore 5, 2) := by decide +kernel
theorem dX1_oneToFour_13 : decode cX1_oneToFour 13 = .ok (.iload 5, 2) := by decide +kernel
theorem dX1_oneToFour_15 : decode cX1_oneToFour 15 = .ok (.iconst 4, 1) := by decide +kernel
theorem dX1_oneToFour_16 : decode cX1_oneToFour 16 = .ok (.if_icmp .ge 25, 3) := by decide +kernel
theorem dX1_oneToFour_19 : decode cX1_oneToFour 19 = .ok (.aload_n 0, 1) := by decide +kernel
theorem dX1_oneToFour_20 : decode cX1_oneToFour 20 = .ok (.iconst 4, 1) := by decide +kernel
theorem dX1_oneToFour_21 : decode cX1_oneToFour 21 = .ok (.iload_n 2, 1) := by decide +kernel
theorem dX1_oneToFour_22 : decode cX1_oneToFour 22 = .ok (.imul, 1) := by decide +kernel
theorem dX1_oneToFour_23 : decode cX1_oneToFour 23 = .ok (.iload 5, 2) := by decide +kernel
theorem dX1_oneToFour_25 : decode cX1_oneToFour 25 = .ok (.iadd, 1) := by decide +kernel
theorem dX1_oneToFour_26 : decode cX1_oneToFour 26 = .ok (.iload 4, 2) := by decide +kernel
theorem dX1_oneToFour_28 : decode cX1_oneToFour 28 = .ok (.iload 5, 2) := by decide +kernel
theorem dX1_oneToFour_30 : decode cX1_oneToFour 30 = .ok (.iadd, 1) := by decide +kernel
theorem dX1_oneToFour_31 : decode cX1_oneToFour 31 = .ok (.iconst 0, 1) := by decide +kernel
theorem dX1_oneToFour_32 : decode cX1_oneToFour 32 = .ok (.invokevirtual 157, 3) := by decide +kernel
theorem dX1_oneToFour_35 : decode cX1_oneToFour 35 = .ok (.iinc 5 1, 3) := by decide +kernel
theorem dX1_oneToFour_38 : decode cX1_oneToFour 38 = .ok (.goto (-25), 3) := by decide +kernel
theorem dX1_oneToFour_41 : decode cX1_oneToFour 41 = .ok (.aload_n 0, 1) := by decide +kernel
theorem dX1_oneToFour_42 : decode cX1_oneToFour 42 = .ok (.aload_n 1, 1) := by decide +kernel
theorem dX1_oneToFour_43 : decode cX1_oneToFour 43 = .ok (.aload_n 3, 1) := by decide +kernel
theorem dX1_oneToFour_44 : decode cX1_oneToFour 44 = .ok (.invokevirtual 165, 3) := by decide +kernel
theorem dX1_oneToFour_47 : decode cX1_oneToFour 47 = .ok (.aload_n 3, 1) := by decide +kernel
theorem dX1_oneToFour_48 : decode cX1_oneToFour 48 = .ok (.iload 4, 2) := by decide +kernel
theorem dX1_oneToFour_50 : decode cX1_oneToFour 50 = .ok (.iconst 4, 1) := by decide +kernel
theorem dX1_oneToFour_51 : decode cX1_oneToFour 51 = .ok (.invokestatic 169, 3) := by decide +kernel
theorem dX1_oneToFour_54 : decode cX1_oneToFour 54 = .ok (.return_, 1) := by decide +kernel
theorem dX1_fourToOne_0 : decode cX1_fourToOne 0 = .ok (.iload_n 2, 1) := by decide +kernel
theorem dX1_fourToOne_1 : decode cX1_fourToOne 1 = .ok (.iconst 2, 1) := by decide +kernel
theorem dX1_fourToOne_2 : decode cX1_fourToOne 2 = .ok (.ishr, 1) := by decide +kernel
theorem dX1_fourToOne_3 : decode cX1_fourToOne 3 = .ok (.istore 4, 2) := by decide +kernel
theorem dX1_fourToOne_5 : decode cX1_fourToOne 5 = .ok (.iload_n 2, 1) := by decide +kernel
theorem dX1_fourToOne_6 : decode cX1_fourToOne 6 = .ok (.iconst 3, 1) := by decide +kernel
theorem dX1_fourToOne_7 : decode cX1_fourToOne 7 = .ok (.iand, 1) := by decide +kernel
theorem dX1_fourToOne_8 : decode cX1_fourToOne 8 = .ok (.istore 5, 2) := by decide +kernel
theorem dX1_fourToOne_10 : decode cX1_fourToOne 10 = .ok (.aload_n 0, 1) := by decide +kernel
theorem dX1_fourToOne_11 : decode cX1_fourToOne 11 = .ok (.aload_n 1, 1) := by decide +kernel
theorem dX1_fourToOne_12 : decode cX1_fourToOne 12 = .ok (.aload_n 1, 1) := by decide +kernel
theorem dX1_fourToOne_13 : decode cX1_fourToOne 13 = .ok (.iload_n 2, 1) := by decide +kernel
theorem dX1_fourToOne_14 : decode cX1_fourToOne 14 = .ok (.invokestatic 123, 3) := by decide +kernel
theorem dX1_fourToOne_17 : decode cX1_fourToOne 17 = .ok (.iconst 1, 1) := by decide +kernel
theorem dX1_fourToOne_18 : decode cX1_fourToOne 18 = .ok (.iload 4, 2) := by decide +kernel
theorem dX1_fourToOne_20 : decode cX1_fourToOne 20 = .ok (.ishl, 1) := by decide +kernel
theorem dX1_fourToOne_21 : decode cX1_fourToOne 21 = .ok (.ior, 1) := by decide +kernel
theorem dX1_fourToOne_22 : decode cX1_fourToOne 22 = .ok (.invokevirtual 154, 3) := by decide +kernel
theorem dX1_fourToOne_25 : decode cX1_fourToOne 25 = .ok (.istore 6, 2) := by decide +kernel
theorem dX1_fourToOne_27 : decode cX1_fourToOne 27 = .ok (.aload_n 0, 1) := by decide +kernel
theorem dX1_fourToOne_28 : decode cX1_fourToOne 28 = .ok (.iload_n 2, 1) := by decide +kernel
theorem dX1_fourToOne_29 : decode cX1_fourToOne 29 = .ok (.iload 6, 2) := by decide +kernel
theorem dX1_fourToOne_31 : decode cX1_fourToOne 31 = .ok (.iconst 0, 1) := by decide +kernel
theorem dX1_fourToOne_32 : decode cX1_fourToOne 32 = .ok (.invokevirtual 157, 3) := by decide +kernel
theorem dX1_fourToOne_35 : decode cX1_fourToOne 35 = .ok (.iconst 0, 1) := by decide +kernel
theorem dX1_fourToOne_36 : decode cX1_fourToOne 36 = .ok (.istore 7, 2) := by decide +kernel
theorem dX1_fourToOne_38 : decode cX1_fourToOne 38 = .ok (.iload 7, 2) := by decide +kernel
theorem dX1_fourToOne_40 : decode cX1_fourToOne 40 = .ok (.iconst 4, 1) := by decide +kernel
theorem dX1_fourToOne_41 : decode cX1_fourToOne 41 = .ok (.if_icmp .ge 38, 3) := by decide +kernel
theorem dX1_fourToOne_44 : decode cX1_fourToOne 44 = .ok (.iload 7, 2) := by decide +kernel
theorem dX1_fourToOne_46 : decode cX1_fourToOne 46 = .ok (.iload 5, 2) := by decide +kernel
theorem dX1_fourToOne_48 : decode cX1_fourToOne 48 = .ok (.if_icmp .eq 25, 3) := by decide +kernel
theorem dX1_fourToOne_51 : decode cX1_fourToOne 51 = .ok (.aload_n 0, 1) := by decide +kernel
theorem dX1_fourToOne_52 : decode cX1_fourToOne 52 = .ok (.aload_n 1, 1) := by decide +kernel
theorem dX1_fourToOne_53 : decode cX1_fourToOne 53 = .ok (.getfield 92, 3) := by decide +kernel
theorem dX1_fourToOne_56 : decode cX1_fourToOne 56 = .ok (.iconst 4, 1) := by decide +kernel
theorem dX1_fourToOne_57 : decode cX1_fourToOne 57 = .ok (.iload 4, 2) := by decide +kernel
theorem dX1_fourToOne_59 : decode cX1_fourToOne 59 = .ok (.imul, 1) := by decide +kernel
theorem dX1_fourToOne_60 : decode cX1_fourToOne 60 = .ok (.iload 7, 2) := by decide +kernel
theorem dX1_fourToOne_62 : decode cX1_fourToOne 62 = .ok (.iadd, 1) := by decide +kernel
theorem dX1_fourToOne_63 : decode cX1_fourToOne 63 = .ok (.iaload, 1) := by decide +kernel
theorem dX1_fourToOne_64 : decode cX1_fourToOne 64 = .ok (.iload 7, 2) := by decide +kernel
theorem dX1_fourToOne_66 : decode cX1_fourToOne 66 = .ok (.iload 5, 2) := by decide +kernel
theorem dX1_fourToOne_68 : decode cX1_fourToOne 68 = .ok (.iload 6, 2) := by decide +kernel
theorem dX1_fourToOne_70 : decode cX1_fourToOne 70 = .ok (.invokevirtual 161, 3) := by decide +kernel
theorem dX1_fourToOne_73 : decode cX1_fourToOne 73 = .ok (.iinc 7 1, 3) := by decide +kernel
theorem dX1_fourToOne_76 : decode cX1_fourToOne 76 = .ok (.goto (-38), 3) := by decide +kernel
theorem dX1_fourToOne_79 : decode cX1_fourToOne 79 = .ok (.aload_n 0, 1) := by decide +kernel
theorem dX1_fourToOne_80 : decode cX1_fourToOne 80 = .ok (.aload_n 1, 1) := by decide +kernel
theorem dX1_fourToOne_81 : decode cX1_fourToOne 81 = .ok (.aload_n 3, 1) := by decide +kernel
theorem dX1_fourToOne_82 : decode cX1_fourToOne 82 = .ok (.invokevirtual 165, 3) := by decide +kernel
theorem dX1_fourToOne_85 : decode cX1_fourToOne 85 = .ok (.return_, 1) := by decide +kernel
theorem dX1_layOut_0 : decode cX1_layOut 0 = .ok (.iconst 0, 1) := by decide +kernel
theorem dX1_layOut_1 : decode cX1_layOut 1 = .ok (.istore_n 3, 1) := by decide +kernel
theorem dX1_layOut_2 : decode cX1_layOut 2 = .ok (.iconst 0, 1) := by decide +kernel
theorem dX1_layOut_3 : decode cX1_layOut 3 = .ok (.istore 4, 2) := by decide +kernel
theorem dX1_layOut_5 : decode cX1_layOut 5 = .ok (.iload 4, 2) := by decide +kernel
theorem dX1_layOut_7 : decode cX1_layOut 7 = .ok (.aload_n 1, 1) := by decide +kernel
theorem dX1_layOut_8 : decode cX1_layOut 8 = .ok (.getfield 54, 3) := by decide +kernel
theorem dX1_layOut_11 : decode cX1_layOut 11 = .ok (.if_icmp .ge 71, 3) := by decide +kernel
theorem dX1_layOut_14 : decode cX1_layOut 14 = .ok (.iload_n 2, 1) := by decide +kernel
theorem dX1_layOut_15 : decode cX1_layOut 15 = .ok (.iload 4, 2) := by decide +kernel
theorem dX1_layOut_17 : decode cX1_layOut 17 = .ok (.ishr, 1) := by decide +kernel
theorem dX1_layOut_18 : decode cX1_layOut 18 = .ok (.iconst 1, 1) := by decide +kernel
theorem dX1_layOut_19 : decode cX1_layOut 19 = .ok (.iand, 1) := by decide +kernel
theorem dX1_layOut_20 : decode cX1_layOut 20 = .ok (.iconst 1, 1) := by decide +kernel
theorem dX1_layOut_21 : decode cX1_layOut 21 = .ok (.if_icmp .ne 7, 3) := by decide +kernel
theorem dX1_layOut_24 : decode cX1_layOut 24 = .ok (.iconst 1, 1) := by decide +kernel
theorem dX1_layOut_25 : decode cX1_layOut 25 = .ok (.goto 4, 3) := by decide +kernel
theorem dX1_layOut_28 : decode cX1_layOut 28 = .ok (.iconst 0, 1) := by decide +kernel
theorem dX1_layOut_29 : decode cX1_layOut 29 = .ok (.istore 5, 2) := by decide +kernel
theorem dX1_layOut_31 : decode cX1_layOut 31 = .ok (.iconst 0, 1) := by decide +kernel
theorem dX1_layOut_32 : decode cX1_layOut 32 = .ok (.istore 6, 2) := by decide +kernel
theorem dX1_layOut_34 : decode cX1_layOut 34 = .ok (.iload 6, 2) := by decide +kernel
theorem dX1_layOut_36 : decode cX1_layOut 36 = .ok (.iconst 4, 1) := by decide +kernel
theorem dX1_layOut_37 : decode cX1_layOut 37 = .ok (.if_icmp .ge 31, 3) := by decide +kernel
theorem dX1_layOut_40 : decode cX1_layOut 40 = .ok (.aload_n 0, 1) := by decide +kernel
theorem dX1_layOut_41 : decode cX1_layOut 41 = .ok (.iconst 4, 1) := by decide +kernel
theorem dX1_layOut_42 : decode cX1_layOut 42 = .ok (.iload 4, 2) := by decide +kernel
theorem dX1_layOut_44 : decode cX1_layOut 44 = .ok (.imul, 1) := by decide +kernel
theorem dX1_layOut_45 : decode cX1_layOut 45 = .ok (.iload 6, 2) := by decide +kernel
theorem dX1_layOut_47 : decode cX1_layOut 47 = .ok (.iadd, 1) := by decide +kernel
theorem dX1_layOut_48 : decode cX1_layOut 48 = .ok (.iload 5, 2) := by decide +kernel
theorem dX1_layOut_50 : decode cX1_layOut 50 = .ok (.ifCond .eq 7, 3) := by decide +kernel
theorem dX1_layOut_53 : decode cX1_layOut 53 = .ok (.iconst (-1), 1) := by decide +kernel
theorem dX1_layOut_54 : decode cX1_layOut 54 = .ok (.goto 4, 3) := by decide +kernel
theorem dX1_layOut_57 : decode cX1_layOut 57 = .ok (.iload_n 3, 1) := by decide +kernel
theorem dX1_layOut_58 : decode cX1_layOut 58 = .ok (.iconst 0, 1) := by decide +kernel
theorem dX1_layOut_59 : decode cX1_layOut 59 = .ok (.invokevirtual 157, 3) := by decide +kernel
theorem dX1_layOut_62 : decode cX1_layOut 62 = .ok (.iinc 6 1, 3) := by decide +kernel
theorem dX1_layOut_65 : decode cX1_layOut 65 = .ok (.goto (-31), 3) := by decide +kernel
theorem dX1_layOut_68 : decode cX1_layOut 68 = .ok (.iload 5, 2) := by decide +kernel
theorem dX1_layOut_70 : decode cX1_layOut 70 = .ok (.ifCond .ne 6, 3) := by decide +kernel
theorem dX1_layOut_73 : decode cX1_layOut 73 = .ok (.iinc 3 1, 3) := by decide +kernel
theorem dX1_layOut_76 : decode cX1_layOut 76 = .ok (.iinc 4 1, 3) := by decide +kernel
theorem dX1_layOut_79 : decode cX1_layOut 79 = .ok (.goto (-74), 3) := by decide +kernel
theorem dX1_layOut_82 : decode cX1_layOut 82 = .ok (.iload_n 3, 1) := by decide +kernel
theorem dX1_layOut_83 : decode cX1_layOut 83 = .ok (.ireturn, 1) := by decide +kernel
theorem dX1_put_0 : decode cX1_put 0 = .ok (.aload_n 0, 1) := by decide +kernel
theorem dX1_put_1 : decode cX1_put 1 = .ok (.getfield 18, 3) := by decide +kernel
theorem dX1_put_4 : decode cX1_put 4 = .ok (.iload_n 1, 1) := by decide +kernel
theorem dX1_put_5 : decode cX1_put 5 = .ok (.iload_n 2, 1) := by decide +kernel
theorem dX1_put_6 : decode cX1_put 6 = .ok (.iastore, 1) := by decide +kernel
theorem dX1_put_7 : decode cX1_put 7 = .ok (.aload_n 0, 1) := by decide +kernel
theorem dX1_put_8 : decode cX1_put 8 = .ok (.getfield 22, 3) := by decide +kernel
theorem dX1_put_11 : decode cX1_put 11 = .ok (.iload_n 1, 1) := by decide +kernel
theorem dX1_put_12 : decode cX1_put 12 = .ok (.iload_n 3, 1) := by decide +kernel
theorem dX1_put_13 : decode cX1_put 13 = .ok (.iastore, 1) := by decide +kernel
theorem dX1_put_14 : decode cX1_put 14 = .ok (.return_, 1) := by decide +kernel
theorem dX1_putBeyond_0 : decode cX1_putBeyond 0 = .ok (.iload_n 1, 1) := by decide +kernel
theorem dX1_putBeyond_1 : decode cX1_putBeyond 1 = .ok (.bipush 31, 2) := by decide +kernel
theorem dX1_putBeyond_3 : decode cX1_putBeyond 3 = .ok (.iand, 1) := by decide +kernel
theorem dX1_putBeyond_4 : decode cX1_putBeyond 4 = .ok (.istore 5, 2) := by decide +kernel
theorem dX1_putBeyond_6 : decode cX1_putBeyond 6 = .ok (.aload_n 0, 1) := by decide +kernel
theorem dX1_putBeyond_7 : decode cX1_putBeyond 7 = .ok (.iconst 4, 1) := by decide +kernel
theorem dX1_putBeyond_8 : decode cX1_putBeyond 8 = .ok (.iload_n 1, 1) := by decide +kernel
theorem dX1_putBeyond_9 : decode cX1_putBeyond 9 = .ok (.iconst 5, 1) := by decide +kernel
theorem dX1_putBeyond_10 : decode cX1_putBeyond 10 = .ok (.ishr, 1) := by decide +kernel
theorem dX1_putBeyond_11 : decode cX1_putBeyond 11 = .ok (.imul, 1) := by decide +kernel
theorem dX1_putBeyond_12 : decode cX1_putBeyond 12 = .ok (.getstatic 179, 3) := by decide +kernel
theorem dX1_putBeyond_15 : decode cX1_putBeyond 15 = .ok (.iconst 4, 1) := by decide +kernel
theorem dX1_putBeyond_16 : decode cX1_putBeyond 16 = .ok (.iload 5, 2) := by decide +kernel
theorem dX1_putBeyond_18 : decode cX1_putBeyond 18 = .ok (.imul, 1) := by decide +kernel
theorem dX1_putBeyond_19 : decode cX1_putBeyond 19 = .ok (.iload_n 3, 1) := by decide +kernel
theorem dX1_putBeyond_20 : decode cX1_putBeyond 20 = .ok (.iadd, 1) := by decide +kernel
theorem dX1_putBeyond_21 : decode cX1_putBeyond 21 = .ok (.iaload, 1) := by decide +kernel
theorem dX1_putBeyond_22 : decode cX1_putBeyond 22 = .ok (.iadd, 1) := by decide +kernel
theorem dX1_putBeyond_23 : decode cX1_putBeyond 23 = .ok (.iload 4, 2) := by decide +kernel
theorem dX1_putBeyond_25 : decode cX1_putBeyond 25 = .ok (.getstatic 182, 3) := by decide +kernel
theorem dX1_putBeyond_28 : decode cX1_putBeyond 28 = .ok (.bipush 24, 2) := by decide +kernel
theorem dX1_putBeyond_30 : decode cX1_putBeyond 30 = .ok (.getstatic 173, 3) := by decide +kernel
theorem dX1_putBeyond_33 : decode cX1_putBeyond 33 = .ok (.iconst 4, 1) := by decide +kernel
theorem dX1_putBeyond_34 : decode cX1_putBeyond 34 = .ok (.iload_n 2, 1) := by decide +kernel
theorem dX1_putBeyond_35 : decode cX1_putBeyond 35 = .ok (.imul, 1) := by decide +kernel
theorem dX1_putBeyond_36 : decode cX1_putBeyond 36 = .ok (.iload_n 3, 1) := by decide +kernel
theorem dX1_putBeyond_37 : decode cX1_putBeyond 37 = .ok (.iadd, 1) := by decide +kernel
theorem dX1_putBeyond_38 : decode cX1_putBeyond 38 = .ok (.iaload, 1) := by decide +kernel
theorem dX1_putBeyond_39 : decode cX1_putBeyond 39 = .ok (.imul, 1) := by decide +kernel
theorem dX1_putBeyond_40 : decode cX1_putBeyond 40 = .ok (.getstatic 185, 3) := by decide +kernel
theorem dX1_putBeyond_43 : decode cX1_putBeyond 43 = .ok (.iload 5, 2) := by decide +kernel
theorem dX1_putBeyond_45 : decode cX1_putBeyond 45 = .ok (.iaload, 1) := by decide +kernel
theorem dX1_putBeyond_46 : decode cX1_putBeyond 46 = .ok (.iadd, 1) := by decide +kernel
theorem dX1_putBeyond_47 : decode cX1_putBeyond 47 = .ok (.iaload, 1) := by decide +kernel
theorem dX1_putBeyond_48 : decode cX1_putBeyond 48 = .ok (.invokevirtual 157, 3) := by decide +kernel
theorem dX1_putBeyond_51 : decode cX1_putBeyond 51 = .ok (.return_, 1) := by decide +kernel
theorem dX1_carry_0 : decode cX1_carry 0 = .ok (.iconst 0, 1) := by decide +kernel
theorem dX1_carry_1 : decode cX1_carry 1 = .ok (.istore_n 3, 1) := by decide +kernel
theorem dX1_carry_2 : decode cX1_carry 2 = .ok (.iload_n 3, 1) := by decide +kernel
theorem dX1_carry_3 : decode cX1_carry 3 = .ok (.iconst 4, 1) := by decide +kernel
theorem dX1_carry_4 : decode cX1_carry 4 = .ok (.aload_n 1, 1) := by decide +kernel
theorem dX1_carry_5 : decode cX1_carry 5 = .ok (.getfield 54, 3) := by decide +kernel
theorem dX1_carry_8 : decode cX1_carry 8 = .ok (.imul, 1) := by decide +kernel
theorem dX1_carry_9 : decode cX1_carry 9 = .ok (.if_icmp .ge 133, 3) := by decide +kernel
theorem dX1_carry_12 : decode cX1_carry 12 = .ok (.aload_n 1, 1) := by decide +kernel
theorem dX1_carry_13 : decode cX1_carry 13 = .ok (.iload_n 3, 1) := by decide +kernel
theorem dX1_carry_14 : decode cX1_carry 14 = .ok (.invokevirtual 126, 3) := by decide +kernel
theorem dX1_carry_17 : decode cX1_carry 17 = .ok (.istore 4, 2) := by decide +kernel
theorem dX1_carry_19 : decode cX1_carry 19 = .ok (.aload_n 0, 1) := by decide +kernel
theorem dX1_carry_20 : decode cX1_carry 20 = .ok (.getfield 18, 3) := by decide +kernel
theorem dX1_carry_23 : decode cX1_carry 23 = .ok (.iload_n 3, 1) := by decide +kernel
theorem dX1_carry_24 : decode cX1_carry 24 = .ok (.iaload, 1) := by decide +kernel
theorem dX1_carry_25 : decode cX1_carry 25 = .ok (.ifCond .lt 111, 3) := by decide +kernel
theorem dX1_carry_28 : decode cX1_carry 28 = .ok (.iload 4, 2) := by decide +kernel
theorem dX1_carry_30 : decode cX1_carry 30 = .ok (.ifCond .lt 106, 3) := by decide +kernel
theorem dX1_carry_33 : decode cX1_carry 33 = .ok (.aload_n 0, 1) := by decide +kernel
theorem dX1_carry_34 : decode cX1_carry 34 = .ok (.getfield 18, 3) := by decide +kernel
theorem dX1_carry_37 : decode cX1_carry 37 = .ok (.iload 4, 2) := by decide +kernel
theorem dX1_carry_39 : decode cX1_carry 39 = .ok (.iaload, 1) := by decide +kernel
theorem dX1_carry_40 : decode cX1_carry 40 = .ok (.ifCond .ge 6, 3) := by decide +kernel
theorem dX1_carry_43 : decode cX1_carry 43 = .ok (.goto 93, 3) := by decide +kernel
theorem dX1_carry_46 : decode cX1_carry 46 = .ok (.getstatic 182, 3) := by decide +kernel
theorem dX1_carry_49 : decode cX1_carry 49 = .ok (.bipush 24, 2) := by decide +kernel
theorem dX1_carry_51 : decode cX1_carry 51 = .ok (.aload_n 1, 1) := by decide +kernel
theorem dX1_carry_52 : decode cX1_carry 52 = .ok (.getfield 92, 3) := by decide +kernel
theorem dX1_carry_55 : decode cX1_carry 55 = .ok (.iload_n 3, 1) := by decide +kernel
theorem dX1_carry_56 : decode cX1_carry 56 = .ok (.iaload, 1) := by decide +kernel
theorem dX1_carry_57 : decode cX1_carry 57 = .ok (.bipush 31, 2) := by decide +kernel
theorem dX1_carry_59 : decode cX1_carry 59 = .ok (.iand, 1) := by decide +kernel
theorem dX1_carry_60 : decode cX1_carry 60 = .ok (.imul, 1) := by decide +kernel
theorem dX1_carry_61 : decode cX1_carry 61 = .ok (.getstatic 185, 3) := by decide +kernel
theorem dX1_carry_64 : decode cX1_carry 64 = .ok (.aload_n 0, 1) := by decide +kernel
theorem dX1_carry_65 : decode cX1_carry 65 = .ok (.getfield 22, 3) := by decide +kernel
theorem dX1_carry_68 : decode cX1_carry 68 = .ok (.iload_n 3, 1) := by decide +kernel
theorem dX1_carry_69 : decode cX1_carry 69 = .ok (.iaload, 1) := by decide +kernel
theorem dX1_carry_70 : decode cX1_carry 70 = .ok (.iaload, 1) := by decide +kernel
theorem dX1_carry_71 : decode cX1_carry 71 = .ok (.iadd, 1) := by decide +kernel
theorem dX1_carry_72 : decode cX1_carry 72 = .ok (.iaload, 1) := by decide +kernel
theorem dX1_carry_73 : decode cX1_carry 73 = .ok (.istore 5, 2) := by decide +kernel
theorem dX1_carry_75 : decode cX1_carry 75 = .ok (.iconst 4, 1) := by decide +kernel
theorem dX1_carry_76 : decode cX1_carry 76 = .ok (.aload_n 0, 1) := by decide +kernel
theorem dX1_carry_77 : decode cX1_carry 77 = .ok (.getfield 18, 3) := by decide +kernel
theorem dX1_carry_80 : decode cX1_carry 80 = .ok (.iload_n 3, 1) := by decide +kernel
theorem dX1_carry_81 : decode cX1_carry 81 = .ok (.iaload, 1) := by decide +kernel
theorem dX1_carry_82 : decode cX1_carry 82 = .ok (.imul, 1) := by decide +kernel
theorem dX1_carry_83 : decode cX1_carry 83 = .ok (.getstatic 179, 3) := by decide +kernel
theorem dX1_carry_86 : decode cX1_carry 86 = .ok (.iconst 4, 1) := by decide +kernel
theorem dX1_carry_87 : decode cX1_carry 87 = .ok (.aload_n 0, 1) := by decide +kernel
theorem dX1_carry_88 : decode cX1_carry 88 = .ok (.getfield 22, 3) := by decide +kernel
theorem dX1_carry_91 : decode cX1_carry 91 = .ok (.iload_n 3, 1) := by decide +kernel
theorem dX1_carry_92 : decode cX1_carry 92 = .ok (.iaload, 1) := by decide +kernel
theorem dX1_carry_93 : decode cX1_carry 93 = .ok (.imul, 1) := by decide +kernel
theorem dX1_carry_94 : decode cX1_carry 94 = .ok (.iload_n 3, 1) := by decide +kernel
theorem dX1_carry_95 : decode cX1_carry 95 = .ok (.iconst 3, 1) := by decide +kernel
theorem dX1_carry_96 : decode cX1_carry 96 = .ok (.iand, 1) := by decide +kernel
theorem dX1_carry_97 : decode cX1_carry 97 = .ok (.iadd, 1) := by decide +kernel
theorem dX1_carry_98 : decode cX1_carry 98 = .ok (.iaload, 1) := by decide +kernel
theorem dX1_carry_99 : decode cX1_carry 99 = .ok (.iadd, 1) := by decide +kernel
theorem dX1_carry_100 : decode cX1_carry 100 = .ok (.istore 6, 2) := by decide +kernel
theorem dX1_carry_102 : decode cX1_carry 102 = .ok (.aload_n 2, 1) := by decide +kernel
theorem dX1_carry_103 : decode cX1_carry 103 = .ok (.getfield 92, 3) := by decide +kernel
theorem dX1_carry_106 : decode cX1_carry 106 = .ok (.iload 6, 2) := by decide +kernel
theorem dX1_carry_108 : decode cX1_carry 108 = .ok (.aload_n 0, 1) := by decide +kernel
theorem dX1_carry_109 : decode cX1_carry 109 = .ok (.getfield 18, 3) := by decide +kernel
theorem dX1_carry_112 : decode cX1_carry 112 = .ok (.iload 4, 2) := by decide +kernel
theorem dX1_carry_114 : decode cX1_carry 114 = .ok (.iaload, 1) := by decide +kernel
theorem dX1_carry_115 : decode cX1_carry 115 = .ok (.iconst 5, 1) := by decide +kernel
theorem dX1_carry_116 : decode cX1_carry 116 = .ok (.ishl, 1) := by decide +kernel
theorem dX1_carry_117 : decode cX1_carry 117 = .ok (.getstatic 182, 3) := by decide +kernel
theorem dX1_carry_120 : decode cX1_carry 120 = .ok (.bipush 24, 2) := by decide +kernel
theorem dX1_carry_122 : decode cX1_carry 122 = .ok (.aload_n 0, 1) := by decide +kernel
theorem dX1_carry_123 : decode cX1_carry 123 = .ok (.getfield 22, 3) := by decide +kernel
theorem dX1_carry_126 : decode cX1_carry 126 = .ok (.iload 4, 2) := by decide +kernel
theorem dX1_carry_128 : decode cX1_carry 128 = .ok (.iaload, 1) := by decide +kernel
theorem dX1_carry_129 : decode cX1_carry 129 = .ok (.imul, 1) := by decide +kernel
theorem dX1_carry_130 : decode cX1_carry 130 = .ok (.iload 5, 2) := by decide +kernel
theorem dX1_carry_132 : decode cX1_carry 132 = .ok (.iadd, 1) := by decide +kernel
theorem dX1_carry_133 : decode cX1_carry 133 = .ok (.iaload, 1) := by decide +kernel
theorem dX1_carry_134 : decode cX1_carry 134 = .ok (.ior, 1) := by decide +kernel
theorem dX1_carry_135 : decode cX1_carry 135 = .ok (.iastore, 1) := by decide +kernel
theorem dX1_carry_136 : decode cX1_carry 136 = .ok (.iinc 3 1, 3) := by decide +kernel
theorem dX1_carry_139 : decode cX1_carry 139 = .ok (.goto (-137), 3) := by decide +kernel
theorem dX1_carry_142 : decode cX1_carry 142 = .ok (.return_, 1) := by decide +kernel
theorem dX1_joinFan_0 : decode cX1_joinFan 0 = .ok (.iconst 0, 1) := by decide +kernel
theorem dX1_joinFan_1 : decode cX1_joinFan 1 = .ok (.istore_n 3, 1) := by decide +kernel
theorem dX1_joinFan_2 : decode cX1_joinFan 2 = .ok (.iload_n 3, 1) := by decide +kernel
theorem dX1_joinFan_3 : decode cX1_joinFan 3 = .ok (.iconst 4, 1) := by decide +kernel
theorem dX1_joinFan_4 : decode cX1_joinFan 4 = .ok (.if_icmp .ge 95, 3) := by decide +kernel
theorem dX1_joinFan_7 : decode cX1_joinFan 7 = .ok (.iload_n 3, 1) := by decide +kernel
theorem dX1_joinFan_8 : decode cX1_joinFan 8 = .ok (.iconst 1, 1) := by decide +kernel
theorem dX1_joinFan_9 : decode cX1_joinFan 9 = .ok (.iadd, 1) := by decide +kernel
theorem dX1_joinFan_10 : decode cX1_joinFan 10 = .ok (.istore 4, 2) := by decide +kernel
theorem dX1_joinFan_12 : decode cX1_joinFan 12 = .ok (.iload 4, 2) := by decide +kernel
theorem dX1_joinFan_14 : decode cX1_joinFan 14 = .ok (.iconst 4, 1) := by decide +kernel
theorem dX1_joinFan_15 : decode cX1_joinFan 15 = .ok (.if_icmp .ge 78, 3) := by decide +kernel
theorem dX1_joinFan_18 : decode cX1_joinFan 18 = .ok (.iload_n 3, 1) := by decide +kernel
theorem dX1_joinFan_19 : decode cX1_joinFan 19 = .ok (.iload_n 2, 1) := by decide +kernel
theorem dX1_joinFan_20 : decode cX1_joinFan 20 = .ok (.if_icmp .eq 67, 3) := by decide +kernel
theorem dX1_joinFan_23 : decode cX1_joinFan 23 = .ok (.iload 4, 2) := by decide +kernel
theorem dX1_joinFan_25 : decode cX1_joinFan 25 = .ok (.iload_n 2, 1) := by decide +kernel
theorem dX1_joinFan_26 : decode cX1_joinFan 26 = .ok (.if_icmp .eq 61, 3) := by decide +kernel
theorem dX1_joinFan_29 : decode cX1_joinFan 29 = .ok (.iload_n 1, 1) := by decide +kernel
theorem dX1_joinFan_30 : decode cX1_joinFan 30 = .ok (.iload_n 3, 1) := by decide +kernel
theorem dX1_joinFan_31 : decode cX1_joinFan 31 = .ok (.iload_n 2, 1) := by decide +kernel
theorem dX1_joinFan_32 : decode cX1_joinFan 32 = .ok (.if_icmp .le 9, 3) := by decide +kernel
theorem dX1_joinFan_35 : decode cX1_joinFan 35 = .ok (.iload_n 3, 1) := by decide +kernel
theorem dX1_joinFan_36 : decode cX1_joinFan 36 = .ok (.iconst 1, 1) := by decide +kernel
theorem dX1_joinFan_37 : decode cX1_joinFan 37 = .ok (.isub, 1) := by decide +kernel
theorem dX1_joinFan_38 : decode cX1_joinFan 38 = .ok (.goto 4, 3) := by decide +kernel
theorem dX1_joinFan_41 : decode cX1_joinFan 41 = .ok (.iload_n 3, 1) := by decide +kernel
theorem dX1_joinFan_42 : decode cX1_joinFan 42 = .ok (.iadd, 1) := by decide +kernel
theorem dX1_joinFan_43 : decode cX1_joinFan 43 = .ok (.istore 5, 2) := by decide +kernel
theorem dX1_joinFan_45 : decode cX1_joinFan 45 = .ok (.iload_n 1, 1) := by decide +kernel
theorem dX1_joinFan_46 : decode cX1_joinFan 46 = .ok (.iload 4, 2) := by decide +kernel
theorem dX1_joinFan_48 : decode cX1_joinFan 48 = .ok (.iload_n 2, 1) := by decide +kernel
theorem dX1_joinFan_49 : decode cX1_joinFan 49 = .ok (.if_icmp .le 10, 3) := by decide +kernel
theorem dX1_joinFan_52 : decode cX1_joinFan 52 = .ok (.iload 4, 2) := by decide +kernel
theorem dX1_joinFan_54 : decode cX1_joinFan 54 = .ok (.iconst 1, 1) := by decide +kernel
theorem dX1_joinFan_55 : decode cX1_joinFan 55 = .ok (.isub, 1) := by decide +kernel
theorem dX1_joinFan_56 : decode cX1_joinFan 56 = .ok (.goto 5, 3) := by decide +kernel
theorem dX1_joinFan_59 : decode cX1_joinFan 59 = .ok (.iload 4, 2) := by decide +kernel
theorem dX1_joinFan_61 : decode cX1_joinFan 61 = .ok (.iadd, 1) := by decide +kernel
theorem dX1_joinFan_62 : decode cX1_joinFan 62 = .ok (.istore 6, 2) := by decide +kernel
theorem dX1_joinFan_64 : decode cX1_joinFan 64 = .ok (.aload_n 0, 1) := by decide +kernel
theorem dX1_joinFan_65 : decode cX1_joinFan 65 = .ok (.iconst 4, 1) := by decide +kernel
theorem dX1_joinFan_66 : decode cX1_joinFan 66 = .ok (.iload 5, 2) := by decide +kernel
theorem dX1_joinFan_68 : decode cX1_joinFan 68 = .ok (.imul, 1) := by decide +kernel
theorem dX1_joinFan_69 : decode cX1_joinFan 69 = .ok (.iload 4, 2) := by decide +kernel
theorem dX1_joinFan_71 : decode cX1_joinFan 71 = .ok (.iadd, 1) := by decide +kernel
theorem dX1_joinFan_72 : decode cX1_joinFan 72 = .ok (.iload 6, 2) := by decide +kernel
theorem dX1_joinFan_74 : decode cX1_joinFan 74 = .ok (.getstatic 173, 3) := by decide +kernel
theorem dX1_joinFan_77 : decode cX1_joinFan 77 = .ok (.iconst 4, 1) := by decide +kernel
theorem dX1_joinFan_78 : decode cX1_joinFan 78 = .ok (.iload_n 3, 1) := by decide +kernel
theorem dX1_joinFan_79 : decode cX1_joinFan 79 = .ok (.imul, 1) := by decide +kernel
theorem dX1_joinFan_80 : decode cX1_joinFan 80 = .ok (.iload 4, 2) := by decide +kernel
theorem dX1_joinFan_82 : decode cX1_joinFan 82 = .ok (.iadd, 1) := by decide +kernel
theorem dX1_joinFan_83 : decode cX1_joinFan 83 = .ok (.iaload, 1) := by decide +kernel
theorem dX1_joinFan_84 : decode cX1_joinFan 84 = .ok (.invokevirtual 176, 3) := by decide +kernel
theorem dX1_joinFan_87 : decode cX1_joinFan 87 = .ok (.iinc 4 1, 3) := by decide +kernel
theorem dX1_joinFan_90 : decode cX1_joinFan 90 = .ok (.goto (-78), 3) := by decide +kernel
theorem dX1_joinFan_93 : decode cX1_joinFan 93 = .ok (.iinc 3 1, 3) := by decide +kernel
theorem dX1_joinFan_96 : decode cX1_joinFan 96 = .ok (.goto (-94), 3) := by decide +kernel
theorem dX1_joinFan_99 : decode cX1_joinFan 99 = .ok (.return_, 1) := by decide +kernel
theorem dX2_init_0 : decode cX2_init 0 = .ok (.aload_n 0, 1) := by decide +kernel
theorem dX2_init_1 : decode cX2_init 1 = .ok (.invokespecial 3, 3) := by decide +kernel
theorem dX2_init_4 : decode cX2_init 4 = .ok (.aload_n 0, 1) := by decide +kernel
theorem dX2_init_5 : decode cX2_init 5 = .ok (.bipush 32, 2) := by decide +kernel
theorem dX2_init_7 : decode cX2_init 7 = .ok (.newarray .int, 2) := by decide +kernel
theorem dX2_init_9 : decode cX2_init 9 = .ok (.putfield 9, 3) := by decide +kernel
theorem dX2_init_12 : decode cX2_init 12 = .ok (.aload_n 0, 1) := by decide +kernel
theorem dX2_init_13 : decode cX2_init 13 = .ok (.bipush 8, 2) := by decide +kernel
theorem dX2_init_15 : decode cX2_init 15 = .ok (.newarray .int, 2) := by decide +kernel
theorem dX2_init_17 : decode cX2_init 17 = .ok (.putfield 15, 3) := by decide +kernel
theorem dX2_init_20 : decode cX2_init 20 = .ok (.aload_n 0, 1) := by decide +kernel
theorem dX2_init_21 : decode cX2_init 21 = .ok (.bipush 8, 2) := by decide +kernel
theorem dX2_init_23 : decode cX2_init 23 = .ok (.newarray .int, 2) := by decide +kernel
theorem dX2_init_25 : decode cX2_init 25 = .ok (.putfield 18, 3) := by decide +kernel
theorem dX2_init_28 : decode cX2_init 28 = .ok (.aload_n 0, 1) := by decide +kernel
theorem dX2_init_29 : decode cX2_init 29 = .ok (.bipush 8, 2) := by decide +kernel
theorem dX2_init_31 : decode cX2_init 31 = .ok (.newarray .int, 2) := by decide +kernel
theorem dX2_init_33 : decode cX2_init 33 = .ok (.putfield 21, 3) := by decide +kernel
theorem dX2_init_36 : decode cX2_init 36 = .ok (.return_, 1) := by decide +kernel
theorem dX2_settle_0 : decode cX2_settle 0 = .ok (.aload_n 0, 1) := by decide +kernel
theorem dX2_settle_1 : decode cX2_settle 1 = .ok (.getfield 9, 3) := by decide +kernel
theorem dX2_settle_4 : decode cX2_settle 4 = .ok (.ldc 24, 2) := by decide +kernel
theorem dX2_settle_6 : decode cX2_settle 6 = .ok (.invokestatic 25, 3) := by decide +kernel
theorem dX2_settle_9 : decode cX2_settle 9 = .ok (.iconst 0, 1) := by decide +kernel
theorem dX2_settle_10 : decode cX2_settle 10 = .ok (.istore_n 2, 1) := by decide +kernel
theorem dX2_settle_11 : decode cX2_settle 11 = .ok (.iconst 0, 1) := by decide +kernel
theorem dX2_settle_12 : decode cX2_settle 12 = .ok (.istore_n 3, 1) := by decide +kernel
theorem dX2_settle_13 : decode cX2_settle 13 = .ok (.iload_n 3, 1) := by decide +kernel
theorem dX2_settle_14 : decode cX2_settle 14 = .ok (.aload_n 1, 1) := by decide +kernel
theorem dX2_settle_15 : decode cX2_settle 15 = .ok (.getfield 31, 3) := by decide +kernel
theorem dX2_settle_18 : decode cX2_settle 18 = .ok (.if_icmp .ge 53, 3) := by decide +kernel
theorem dX2_settle_21 : decode cX2_settle 21 = .ok (.iconst 0, 1) := by decide +kernel
theorem dX2_settle_22 : decode cX2_settle 22 = .ok (.istore 4, 2) := by decide +kernel
theorem dX2_settle_24 : decode cX2_settle 24 = .ok (.iload 4, 2) := by decide +kernel
theorem dX2_settle_26 : decode cX2_settle 26 = .ok (.bipush 24, 2) := by decide +kernel
theorem dX2_settle_28 : decode cX2_settle 28 = .ok (.if_icmp .ge 37, 3) := by decide +kernel
theorem dX2_settle_31 : decode cX2_settle 31 = .ok (.aload_n 0, 1) := by decide +kernel
theorem dX2_settle_32 : decode cX2_settle 32 = .ok (.aload_n 1, 1) := by decide +kernel
theorem dX2_settle_33 : decode cX2_settle 33 = .ok (.iload_n 3, 1) := by decide +kernel
theorem dX2_settle_34 : decode cX2_settle 34 = .ok (.iload 4, 2) := by decide +kernel
theorem dX2_settle_36 : decode cX2_settle 36 = .ok (.invokevirtual 37, 3) := by decide +kernel
theorem dX2_settle_39 : decode cX2_settle 39 = .ok (.istore 5, 2) := by decide +kernel
theorem dX2_settle_41 : decode cX2_settle 41 = .ok (.iload 5, 2) := by decide +kernel
theorem dX2_settle_43 : decode cX2_settle 43 = .ok (.ifCond .ge 8, 3) := by decide +kernel
theorem dX2_settle_46 : decode cX2_settle 46 = .ok (.iconst 1, 1) := by decide +kernel
theorem dX2_settle_47 : decode cX2_settle 47 = .ok (.istore_n 2, 1) := by decide +kernel
theorem dX2_settle_48 : decode cX2_settle 48 = .ok (.goto 11, 3) := by decide +kernel
theorem dX2_settle_51 : decode cX2_settle 51 = .ok (.iload 5, 2) := by decide +kernel
theorem dX2_settle_53 : decode cX2_settle 53 = .ok (.ifCond .ne 6, 3) := by decide +kernel
theorem dX2_settle_56 : decode cX2_settle 56 = .ok (.iinc 2 1, 3) := by decide +kernel
theorem dX2_settle_59 : decode cX2_settle 59 = .ok (.iinc 4 1, 3) := by decide +kernel
theorem dX2_settle_62 : decode cX2_settle 62 = .ok (.goto (-38), 3) := by decide +kernel
theorem dX2_settle_65 : decode cX2_settle 65 = .ok (.iinc 3 1, 3) := by decide +kernel
theorem dX2_settle_68 : decode cX2_settle 68 = .ok (.goto (-55), 3) := by decide +kernel
theorem dX2_settle_71 : decode cX2_settle 71 = .ok (.aload_n 0, 1) := by decide +kernel
theorem dX2_settle_72 : decode cX2_settle 72 = .ok (.getfield 9, 3) := by decide +kernel
theorem dX2_settle_75 : decode cX2_settle 75 = .ok (.iconst 0, 1) := by decide +kernel
theorem dX2_settle_76 : decode cX2_settle 76 = .ok (.aload_n 1, 1) := by decide +kernel
theorem dX2_settle_77 : decode cX2_settle 77 = .ok (.getfield 41, 3) := by decide +kernel
theorem dX2_settle_80 : decode cX2_settle 80 = .ok (.iconst 0, 1) := by decide +kernel
theorem dX2_settle_81 : decode cX2_settle 81 = .ok (.iconst 4, 1) := by decide +kernel
theorem dX2_settle_82 : decode cX2_settle 82 = .ok (.aload_n 1, 1) := by decide +kernel
theorem dX2_settle_83 : decode cX2_settle 83 = .ok (.getfield 31, 3) := by decide +kernel
theorem dX2_settle_86 : decode cX2_settle 86 = .ok (.imul, 1) := by decide +kernel
theorem dX2_settle_87 : decode cX2_settle 87 = .ok (.invokestatic 44, 3) := by decide +kernel
theorem dX2_settle_90 : decode cX2_settle 90 = .ok (.iload_n 2, 1) := by decide +kernel
theorem dX2_settle_91 : decode cX2_settle 91 = .ok (.ireturn, 1) := by decide +kernel
theorem dX2_compare_0 : decode cX2_compare 0 = .ok (.aload_n 0, 1) := by decide +kernel
theorem dX2_compare_1 : decode cX2_compare 1 = .ok (.getfield 15, 3) := by decide +kernel
theorem dX2_compare_4 : decode cX2_compare 4 = .ok (.iconst (-1), 1) := by decide +kernel
theorem dX2_compare_5 : decode cX2_compare 5 = .ok (.invokestatic 25, 3) := by decide +kernel
theorem dX2_compare_8 : decode cX2_compare 8 = .ok (.aload_n 0, 1) := by decide +kernel
theorem dX2_compare_9 : decode cX2_compare 9 = .ok (.getfield 15, 3) := by decide +kernel
theorem dX2_compare_12 : decode cX2_compare 12 = .ok (.iload_n 2, 1) := by decide +kernel
theorem dX2_compare_13 : decode cX2_compare 13 = .ok (.iconst 0, 1) := by decide +kernel
theorem dX2_compare_14 : decode cX2_compare 14 = .ok (.iastore, 1) := by decide +kernel
theorem dX2_compare_15 : decode cX2_compare 15 = .ok (.aload_n 0, 1) := by decide +kernel
theorem dX2_compare_16 : decode cX2_compare 16 = .ok (.getfield 18, 3) := by decide +kernel
theorem dX2_compare_19 : decode cX2_compare 19 = .ok (.iconst 0, 1) := by decide +kernel
theorem dX2_compare_20 : decode cX2_compare 20 = .ok (.iload_n 2, 1) := by decide +kernel
theorem dX2_compare_21 : decode cX2_compare 21 = .ok (.iastore, 1) := by decide +kernel
theorem dX2_compare_22 : decode cX2_compare 22 = .ok (.aload_n 0, 1) := by decide +kernel
theorem dX2_compare_23 : decode cX2_compare 23 = .ok (.getfield 21, 3) := by decide +kernel
theorem dX2_compare_26 : decode cX2_compare 26 = .ok (.iload_n 2, 1) := by decide +kernel
theorem dX2_compare_27 : decode cX2_compare 27 = .ok (.iload_n 3, 1) := by decide +kernel
theorem dX2_compare_28 : decode cX2_compare 28 = .ok (.iastore, 1) := by decide +kernel
theorem dX2_compare_29 : decode cX2_compare 29 = .ok (.iconst 1, 1) := by decide +kernel
theorem dX2_compare_30 : decode cX2_compare 30 = .ok (.istore 4, 2) := by decide +kernel
theorem dX2_compare_32 : decode cX2_compare 32 = .ok (.iconst 0, 1) := by decide +kernel
theorem dX2_compare_33 : decode cX2_compare 33 = .ok (.istore 5, 2) := by decide +kernel
theorem dX2_compare_35 : decode cX2_compare 35 = .ok (.iconst 0, 1) := by decide +kernel
theorem dX2_compare_36 : decode cX2_compare 36 = .ok (.istore 6, 2) := by decide +kernel
theorem dX2_compare_38 : decode cX2_compare 38 = .ok (.iload 6, 2) := by decide +kernel
theorem dX2_compare_40 : decode cX2_compare 40 = .ok (.iconst 4, 1) := by decide +kernel
theorem dX2_compare_41 : decode cX2_compare 41 = .ok (.aload_n 1, 1) := by decide +kernel
theorem dX2_compare_42 : decode cX2_compare 42 = .ok (.getfield 31, 3) := by decide +kernel
theorem dX2_compare_45 : decode cX2_compare 45 = .ok (.imul, 1) := by decide +kernel
theorem dX2_compare_46 : decode cX2_compare 46 = .ok (.if_icmp .ge 214, 3) := by decide +kernel
theorem dX2_compare_49 : decode cX2_compare 49 = .ok (.aload_n 0, 1) := by decide +kernel
theorem dX2_compare_50 : decode cX2_compare 50 = .ok (.getfield 18, 3) := by decide +kernel
theorem dX2_compare_53 : decode cX2_compare 53 = .ok (.iload 6, 2) := by decide +kernel
theorem dX2_compare_55 : decode cX2_compare 55 = .ok (.iconst 2, 1) := by decide +kernel
theorem dX2_compare_56 : decode cX2_compare 56 = .ok (.ishr, 1) := by decide +kernel
theorem dX2_compare_57 : decode cX2_compare 57 = .ok (.iaload, 1) := by decide +kernel
theorem dX2_compare_58 : decode cX2_compare 58 = .ok (.istore 7, 2) := by decide +kernel
theorem dX2_compare_60 : decode cX2_compare 60 = .ok (.getstatic 50, 3) := by decide +kernel
theorem dX2_compare_63 : decode cX2_compare 63 = .ok (.aload_n 0, 1) := by decide +kernel
theorem dX2_compare_64 : decode cX2_compare 64 = .ok (.getfield 21, 3) := by decide +kernel
theorem dX2_compare_67 : decode cX2_compare 67 = .ok (.iload 7, 2) := by decide +kernel
theorem dX2_compare_69 : decode cX2_compare 69 = .ok (.iaload, 1) := by decide +kernel
theorem dX2_compare_70 : decode cX2_compare 70 = .ok (.iaload, 1) := by decide +kernel
theorem dX2_compare_71 : decode cX2_compare 71 = .ok (.istore 8, 2) := by decide +kernel
theorem dX2_compare_73 : decode cX2_compare 73 = .ok (.aload_n 1, 1) := by decide +kernel
theorem dX2_compare_74 : decode cX2_compare 74 = .ok (.getfield 41, 3) := by decide +kernel
theorem dX2_compare_77 : decode cX2_compare 77 = .ok (.iconst 4, 1) := by decide +kernel
theorem dX2_compare_78 : decode cX2_compare 78 = .ok (.iload 7, 2) := by decide +kernel
theorem dX2_compare_80 : decode cX2_compare 80 = .ok (.imul, 1) := by decide +kernel
theorem dX2_compare_81 : decode cX2_compare 81 = .ok (.getstatic 53, 3) := by decide +kernel
theorem dX2_compare_84 : decode cX2_compare 84 = .ok (.iconst 4, 1) := by decide +kernel
theorem dX2_compare_85 : decode cX2_compare 85 = .ok (.iload 8, 2) := by decide +kernel
theorem dX2_compare_87 : decode cX2_compare 87 = .ok (.imul, 1) := by decide +kernel
theorem dX2_compare_88 : decode cX2_compare 88 = .ok (.iload 6, 2) := by decide +kernel
theorem dX2_compare_90 : decode cX2_compare 90 = .ok (.iconst 3, 1) := by decide +kernel
theorem dX2_compare_91 : decode cX2_compare 91 = .ok (.iand, 1) := by decide +kernel
theorem dX2_compare_92 : decode cX2_compare 92 = .ok (.iadd, 1) := by decide +kernel
theorem dX2_compare_93 : decode cX2_compare 93 = .ok (.iaload, 1) := by decide +kernel
theorem dX2_compare_94 : decode cX2_compare 94 = .ok (.iadd, 1) := by decide +kernel
theorem dX2_compare_95 : decode cX2_compare 95 = .ok (.iaload, 1) := by decide +kernel
theorem dX2_compare_96 : decode cX2_compare 96 = .ok (.istore 9, 2) := by decide +kernel
theorem dX2_compare_98 : decode cX2_compare 98 = .ok (.iconst (-1), 1) := by decide +kernel
theorem dX2_compare_99 : decode cX2_compare 99 = .ok (.istore 10, 2) := by decide +kernel
theorem dX2_compare_101 : decode cX2_compare 101 = .ok (.iload 9, 2) := by decide +kernel
theorem dX2_compare_103 : decode cX2_compare 103 = .ok (.ifCond .lt 99, 3) := by decide +kernel
theorem dX2_compare_106 : decode cX2_compare 106 = .ok (.iload 9, 2) := by decide +kernel
theorem dX2_compare_108 : decode cX2_compare 108 = .ok (.iconst 5, 1) := by decide +kernel
theorem dX2_compare_109 : decode cX2_compare 109 = .ok (.ishr, 1) := by decide +kernel
theorem dX2_compare_110 : decode cX2_compare 110 = .ok (.istore 11, 2) := by decide +kernel
theorem dX2_compare_112 : decode cX2_compare 112 = .ok (.getstatic 56, 3) := by decide +kernel
theorem dX2_compare_115 : decode cX2_compare 115 = .ok (.bipush 24, 2) := by decide +kernel
theorem dX2_compare_117 : decode cX2_compare 117 = .ok (.iload 9, 2) := by decide +kernel
theorem dX2_compare_119 : decode cX2_compare 119 = .ok (.bipush 31, 2) := by decide +kernel
theorem dX2_compare_121 : decode cX2_compare 121 = .ok (.iand, 1) := by decide +kernel
theorem dX2_compare_122 : decode cX2_compare 122 = .ok (.imul, 1) := by decide +kernel
theorem dX2_compare_123 : decode cX2_compare 123 = .ok (.iload 8, 2) := by decide +kernel
theorem dX2_compare_125 : decode cX2_compare 125 = .ok (.iadd, 1) := by decide +kernel
theorem dX2_compare_126 : decode cX2_compare 126 = .ok (.iaload, 1) := by decide +kernel
theorem dX2_compare_127 : decode cX2_compare 127 = .ok (.istore 12, 2) := by decide +kernel
theorem dX2_compare_129 : decode cX2_compare 129 = .ok (.aload_n 0, 1) := by decide +kernel
theorem dX2_compare_130 : decode cX2_compare 130 = .ok (.getfield 15, 3) := by decide +kernel
theorem dX2_compare_133 : decode cX2_compare 133 = .ok (.iload 11, 2) := by decide +kernel
theorem dX2_compare_135 : decode cX2_compare 135 = .ok (.iaload, 1) := by decide +kernel
theorem dX2_compare_136 : decode cX2_compare 136 = .ok (.ifCond .ge 37, 3) := by decide +kernel
theorem dX2_compare_139 : decode cX2_compare 139 = .ok (.aload_n 0, 1) := by decide +kernel
theorem dX2_compare_140 : decode cX2_compare 140 = .ok (.getfield 15, 3) := by decide +kernel
theorem dX2_compare_143 : decode cX2_compare 143 = .ok (.iload 11, 2) := by decide +kernel
theorem dX2_compare_145 : decode cX2_compare 145 = .ok (.iload 4, 2) := by decide +kernel
theorem dX2_compare_147 : decode cX2_compare 147 = .ok (.iastore, 1) := by decide +kernel
theorem dX2_compare_148 : decode cX2_compare 148 = .ok (.aload_n 0, 1) := by decide +kernel
theorem dX2_compare_149 : decode cX2_compare 149 = .ok (.getfield 18, 3) := by decide +kernel
theorem dX2_compare_152 : decode cX2_compare 152 = .ok (.iload 4, 2) := by decide +kernel
theorem dX2_compare_154 : decode cX2_compare 154 = .ok (.iload 11, 2) := by decide +kernel
theorem dX2_compare_156 : decode cX2_compare 156 = .ok (.iastore, 1) := by decide +kernel
theorem dX2_compare_157 : decode cX2_compare 157 = .ok (.aload_n 0, 1) := by decide +kernel
theorem dX2_compare_158 : decode cX2_compare 158 = .ok (.getfield 21, 3) := by decide +kernel
theorem dX2_compare_161 : decode cX2_compare 161 = .ok (.iload 11, 2) := by decide +kernel
theorem dX2_compare_163 : decode cX2_compare 163 = .ok (.getstatic 50, 3) := by decide +kernel
theorem dX2_compare_166 : decode cX2_compare 166 = .ok (.iload 12, 2) := by decide +kernel
theorem dX2_compare_168 : decode cX2_compare 168 = .ok (.iaload, 1) := by decide +kernel
theorem dX2_compare_169 : decode cX2_compare 169 = .ok (.iastore, 1) := by decide +kernel
theorem dX2_compare_170 : decode cX2_compare 170 = .ok (.iinc 4 1, 3) := by decide +kernel
theorem dX2_compare_173 : decode cX2_compare 173 = .ok (.aload_n 0, 1) := by decide +kernel
theorem dX2_compare_174 : decode cX2_compare 174 = .ok (.getfield 15, 3) := by decide +kernel
theorem dX2_compare_177 : decode cX2_compare 177 = .ok (.iload 11, 2) := by decide +kernel
theorem dX2_compare_179 : decode cX2_compare 179 = .ok (.iaload, 1) := by decide +kernel
theorem dX2_compare_180 : decode cX2_compare 180 = .ok (.iconst 5, 1) := by decide +kernel
theorem dX2_compare_181 : decode cX2_compare 181 = .ok (.ishl, 1) := by decide +kernel
theorem dX2_compare_182 : decode cX2_compare 182 = .ok (.getstatic 56, 3) := by decide +kernel
theorem dX2_compare_185 : decode cX2_compare 185 = .ok (.bipush 24, 2) := by decide +kernel
theorem dX2_compare_187 : decode cX2_compare 187 = .ok (.aload_n 0, 1) := by decide +kernel
theorem dX2_compare_188 : decode cX2_compare 188 = .ok (.getfield 21, 3) := by decide +kernel
theorem dX2_compare_191 : decode cX2_compare 191 = .ok (.iload 11, 2) := by decide +kernel
theorem dX2_compare_193 : decode cX2_compare 193 = .ok (.iaload, 1) := by decide +kernel
theorem dX2_compare_194 : decode cX2_compare 194 = .ok (.imul, 1) := by decide +kernel
theorem dX2_compare_195 : decode cX2_compare 195 = .ok (.iload 12, 2) := by decide +kernel
theorem dX2_compare_197 : decode cX2_compare 197 = .ok (.iadd, 1) := by decide +kernel
theorem dX2_compare_198 : decode cX2_compare 198 = .ok (.iaload, 1) := by decide +kernel
theorem dX2_compare_199 : decode cX2_compare 199 = .ok (.ior, 1) := by decide +kernel
theorem dX2_compare_200 : decode cX2_compare 200 = .ok (.istore 10, 2) := by decide +kernel
theorem dX2_compare_202 : decode cX2_compare 202 = .ok (.iload 5, 2) := by decide +kernel
theorem dX2_compare_204 : decode cX2_compare 204 = .ok (.ifCond .ne 17, 3) := by decide +kernel
theorem dX2_compare_207 : decode cX2_compare 207 = .ok (.iload 10, 2) := by decide +kernel
theorem dX2_compare_209 : decode cX2_compare 209 = .ok (.aload_n 0, 1) := by decide +kernel
theorem dX2_compare_210 : decode cX2_compare 210 = .ok (.getfield 9, 3) := by decide +kernel
theorem dX2_compare_213 : decode cX2_compare 213 = .ok (.iload 6, 2) := by decide +kernel
theorem dX2_compare_215 : decode cX2_compare 215 = .ok (.iaload, 1) := by decide +kernel
theorem dX2_compare_216 : decode cX2_compare 216 = .ok (.if_icmp .le 5, 3) := by decide +kernel
theorem dX2_compare_219 : decode cX2_compare 219 = .ok (.iconst 1, 1) := by decide +kernel
theorem dX2_compare_220 : decode cX2_compare 220 = .ok (.ireturn, 1) := by decide +kernel
theorem dX2_compare_221 : decode cX2_compare 221 = .ok (.iload 5, 2) := by decide +kernel
theorem dX2_compare_223 : decode cX2_compare 223 = .ok (.ifCond .ne 15, 3) := by decide +kernel
theorem dX2_compare_226 : decode cX2_compare 226 = .ok (.iload 10, 2) := by decide +kernel
theorem dX2_compare_228 : decode cX2_compare 228 = .ok (.aload_n 0, 1) := by decide +kernel
theorem dX2_compare_229 : decode cX2_compare 229 = .ok (.getfield 9, 3) := by decide +kernel
theorem dX2_compare_232 : decode cX2_compare 232 = .ok (.iload 6, 2) := by decide +kernel
theorem dX2_compare_234 : decode cX2_compare 234 = .ok (.iaload, 1) := by decide +kernel
theorem dX2_compare_235 : decode cX2_compare 235 = .ok (.if_icmp .ge 7, 3) := by decide +kernel
theorem dX2_compare_238 : decode cX2_compare 238 = .ok (.iconst 1, 1) := by decide +kernel
theorem dX2_compare_239 : decode cX2_compare 239 = .ok (.goto 4, 3) := by decide +kernel
theorem dX2_compare_242 : decode cX2_compare 242 = .ok (.iconst 0, 1) := by decide +kernel
theorem dX2_compare_243 : decode cX2_compare 243 = .ok (.istore 5, 2) := by decide +kernel
theorem dX2_compare_245 : decode cX2_compare 245 = .ok (.aload_n 0, 1) := by decide +kernel
theorem dX2_compare_246 : decode cX2_compare 246 = .ok (.getfield 9, 3) := by decide +kernel
theorem dX2_compare_249 : decode cX2_compare 249 = .ok (.iload 6, 2) := by decide +kernel
theorem dX2_compare_251 : decode cX2_compare 251 = .ok (.iload 10, 2) := by decide +kernel
theorem dX2_compare_253 : decode cX2_compare 253 = .ok (.iastore, 1) := by decide +kernel
theorem dX2_compare_254 : decode cX2_compare 254 = .ok (.iinc 6 1, 3) := by decide +kernel
theorem dX2_compare_257 : decode cX2_compare 257 = .ok (.goto (-219), 3) := by decide +kernel
theorem dX2_compare_260 : decode cX2_compare 260 = .ok (.iload 5, 2) := by decide +kernel
theorem dX2_compare_262 : decode cX2_compare 262 = .ok (.ifCond .eq 7, 3) := by decide +kernel
theorem dX2_compare_265 : decode cX2_compare 265 = .ok (.iconst (-1), 1) := by decide +kernel
theorem dX2_compare_266 : decode cX2_compare 266 = .ok (.goto 4, 3) := by decide +kernel
theorem dX2_compare_269 : decode cX2_compare 269 = .ok (.iconst 0, 1) := by decide +kernel
theorem dX2_compare_270 : decode cX2_compare 270 = .ok (.ireturn, 1) := by decide +kernel
theorem dX3_init_0 : decode cX3_init 0 = .ok (.aload_n 0, 1) := by decide +kernel
theorem dX3_init_1 : decode cX3_init 1 = .ok (.invokespecial 3, 3) := by decide +kernel
theorem dX3_init_4 : decode cX3_init 4 = .ok (.aload_n 0, 1) := by decide +kernel
theorem dX3_init_5 : decode cX3_init 5 = .ok (.bipush 8, 2) := by decide +kernel
theorem dX3_init_7 : decode cX3_init 7 = .ok (.anewarray 11, 3) := by decide +kernel
theorem dX3_init_10 : decode cX3_init 10 = .ok (.putfield 13, 3) := by decide +kernel
theorem dX3_init_13 : decode cX3_init 13 = .ok (.iconst 0, 1) := by decide +kernel
theorem dX3_init_14 : decode cX3_init 14 = .ok (.istore_n 1, 1) := by decide +kernel
theorem dX3_init_15 : decode cX3_init 15 = .ok (.iload_n 1, 1) := by decide +kernel
theorem dX3_init_16 : decode cX3_init 16 = .ok (.bipush 8, 2) := by decide +kernel
theorem dX3_init_18 : decode cX3_init 18 = .ok (.if_icmp .ge 22, 3) := by decide +kernel
theorem dX3_init_21 : decode cX3_init 21 = .ok (.aload_n 0, 1) := by decide +kernel
theorem dX3_init_22 : decode cX3_init 22 = .ok (.getfield 13, 3) := by decide +kernel
theorem dX3_init_25 : decode cX3_init 25 = .ok (.iload_n 1, 1) := by decide +kernel
theorem dX3_init_26 : decode cX3_init 26 = .ok (.new 11, 3) := by decide +kernel
theorem dX3_init_29 : decode cX3_init 29 = .ok (.dup, 1) := by decide +kernel
theorem dX3_init_30 : decode cX3_init 30 = .ok (.invokespecial 17, 3) := by decide +kernel
theorem dX3_init_33 : decode cX3_init 33 = .ok (.aastore, 1) := by decide +kernel
theorem dX3_init_34 : decode cX3_init 34 = .ok (.iinc 1 1, 3) := by decide +kernel
theorem dX3_init_37 : decode cX3_init 37 = .ok (.goto (-22), 3) := by decide +kernel
theorem dX3_init_40 : decode cX3_init 40 = .ok (.return_, 1) := by decide +kernel
theorem dX3_push_0 : decode cX3_push 0 = .ok (.aload_n 0, 1) := by decide +kernel
theorem dX3_push_1 : decode cX3_push 1 = .ok (.getfield 13, 3) := by decide +kernel
theorem dX3_push_4 : decode cX3_push 4 = .ok (.aload_n 0, 1) := by decide +kernel
theorem dX3_push_5 : decode cX3_push 5 = .ok (.getfield 18, 3) := by decide +kernel
theorem dX3_push_8 : decode cX3_push 8 = .ok (.aaload, 1) := by decide +kernel
theorem dX3_push_9 : decode cX3_push 9 = .ok (.aload_n 1, 1) := by decide +kernel
theorem dX3_push_10 : decode cX3_push 10 = .ok (.invokevirtual 22, 3) := by decide +kernel
theorem dX3_push_13 : decode cX3_push 13 = .ok (.aload_n 0, 1) := by decide +kernel
theorem dX3_push_14 : decode cX3_push 14 = .ok (.aload_n 0, 1) := by decide +kernel
theorem dX3_push_15 : decode cX3_push 15 = .ok (.getfield 18, 3) := by decide +kernel
theorem dX3_push_18 : decode cX3_push 18 = .ok (.iconst 1, 1) := by decide +kernel
theorem dX3_push_19 : decode cX3_push 19 = .ok (.iadd, 1) := by decide +kernel
theorem dX3_push_20 : decode cX3_push 20 = .ok (.bipush 8, 2) := by decide +kernel
theorem dX3_push_22 : decode cX3_push 22 = .ok (.irem, 1) := by decide +kernel
theorem dX3_push_23 : decode cX3_push 23 = .ok (.putfield 18, 3) := by decide +kernel
theorem dX3_push_26 : decode cX3_push 26 = .ok (.aload_n 0, 1) := by decide +kernel
theorem dX3_push_27 : decode cX3_push 27 = .ok (.aload_n 0, 1) := by decide +kernel
theorem dX3_push_28 : decode cX3_push 28 = .ok (.getfield 26, 3) := by decide +kernel
theorem dX3_push_31 : decode cX3_push 31 = .ok (.iconst 1, 1) := by decide +kernel
theorem dX3_push_32 : decode cX3_push 32 = .ok (.iadd, 1) := by decide +kernel
theorem dX3_push_33 : decode cX3_push 33 = .ok (.bipush 8, 2) := by decide +kernel
theorem dX3_push_35 : decode cX3_push 35 = .ok (.invokestatic 29, 3) := by decide +kernel
theorem dX3_push_38 : decode cX3_push 38 = .ok (.putfield 26, 3) := by decide +kernel
theorem dX3_push_41 : decode cX3_push 41 = .ok (.return_, 1) := by decide +kernel
theorem dX3_pop_0 : decode cX3_pop 0 = .ok (.aload_n 0, 1) := by decide +kernel
theorem dX3_pop_1 : decode cX3_pop 1 = .ok (.getfield 26, 3) := by decide +kernel
theorem dX3_pop_4 : decode cX3_pop 4 = .ok (.iconst 1, 1) := by decide +kernel
theorem dX3_pop_5 : decode cX3_pop 5 = .ok (.if_icmp .ge 5, 3) := by decide +kernel
theorem dX3_pop_8 : decode cX3_pop 8 = .ok (.iconst (-1), 1) := by decide +kernel
theorem dX3_pop_9 : decode cX3_pop 9 = .ok (.ireturn, 1) := by decide +kernel
theorem dX3_pop_10 : decode cX3_pop 10 = .ok (.aload_n 0, 1) := by decide +kernel
theorem dX3_pop_11 : decode cX3_pop 11 = .ok (.aload_n 0, 1) := by decide +kernel
theorem dX3_pop_12 : decode cX3_pop 12 = .ok (.getfield 18, 3) := by decide +kernel
theorem dX3_pop_15 : decode cX3_pop 15 = .ok (.bipush 8, 2) := by decide +kernel
theorem dX3_pop_17 : decode cX3_pop 17 = .ok (.iadd, 1) := by decide +kernel
theorem dX3_pop_18 : decode cX3_pop 18 = .ok (.iconst 1, 1) := by decide +kernel
theorem dX3_pop_19 : decode cX3_pop 19 = .ok (.isub, 1) := by decide +kernel
theorem dX3_pop_20 : decode cX3_pop 20 = .ok (.bipush 8, 2) := by decide +kernel
theorem dX3_pop_22 : decode cX3_pop 22 = .ok (.irem, 1) := by decide +kernel
theorem dX3_pop_23 : decode cX3_pop 23 = .ok (.putfield 18, 3) := by decide +kernel
theorem dX3_pop_26 : decode cX3_pop 26 = .ok (.aload_n 0, 1) := by decide +kernel
theorem dX3_pop_27 : decode cX3_pop 27 = .ok (.dup, 1) := by decide +kernel
theorem dX3_pop_28 : decode cX3_pop 28 = .ok (.getfield 26, 3) := by decide +kernel
theorem dX3_pop_31 : decode cX3_pop 31 = .ok (.iconst 1, 1) := by decide +kernel
theorem dX3_pop_32 : decode cX3_pop 32 = .ok (.isub, 1) := by decide +kernel
theorem dX3_pop_33 : decode cX3_pop 33 = .ok (.putfield 26, 3) := by decide +kernel
theorem dX3_pop_36 : decode cX3_pop 36 = .ok (.aload_n 1, 1) := by decide +kernel
theorem dX3_pop_37 : decode cX3_pop 37 = .ok (.aload_n 0, 1) := by decide +kernel
theorem dX3_pop_38 : decode cX3_pop 38 = .ok (.getfield 13, 3) := by decide +kernel
theorem dX3_pop_41 : decode cX3_pop 41 = .ok (.aload_n 0, 1) := by decide +kernel
theorem dX3_pop_42 : decode cX3_pop 42 = .ok (.getfield 18, 3) := by decide +kernel
theorem dX3_pop_45 : decode cX3_pop 45 = .ok (.aaload, 1) := by decide +kernel
theorem dX3_pop_46 : decode cX3_pop 46 = .ok (.invokevirtual 22, 3) := by decide +kernel
theorem dX3_pop_49 : decode cX3_pop 49 = .ok (.aload_n 0, 1) := by decide +kernel
theorem dX3_pop_50 : decode cX3_pop 50 = .ok (.getfield 26, 3) := by decide +kernel
theorem dX3_pop_53 : decode cX3_pop 53 = .ok (.ireturn, 1) := by decide +kernel
theorem dX4_init_0 : decode cX4_init 0 = .ok (.aload_n 0, 1) := by decide +kernel
theorem dX4_init_1 : decode cX4_init 1 = .ok (.invokespecial 3, 3) := by decide +kernel
theorem dX4_init_4 : decode cX4_init 4 = .ok (.aload_n 0, 1) := by decide +kernel
theorem dX4_init_5 : decode cX4_init 5 = .ok (.bipush 8, 2) := by decide +kernel
theorem dX4_init_7 : decode cX4_init 7 = .ok (.newarray .int, 2) := by decide +kernel
theorem dX4_init_9 : decode cX4_init 9 = .ok (.putfield 11, 3) := by decide +kernel
theorem dX4_init_12 : decode cX4_init 12 = .ok (.aload_n 0, 1) := by decide +kernel
theorem dX4_init_13 : decode cX4_init 13 = .ok (.bipush 8, 2) := by decide +kernel
theorem dX4_init_15 : decode cX4_init 15 = .ok (.newarray .int, 2) := by decide +kernel
theorem dX4_init_17 : decode cX4_init 17 = .ok (.putfield 15, 3) := by decide +kernel
theorem dX4_init_20 : decode cX4_init 20 = .ok (.return_, 1) := by decide +kernel
theorem dX4_add_0 : decode cX4_add 0 = .ok (.aload_n 0, 1) := by decide +kernel
theorem dX4_add_1 : decode cX4_add 1 = .ok (.getfield 18, 3) := by decide +kernel
theorem dX4_add_4 : decode cX4_add 4 = .ok (.bipush 8, 2) := by decide +kernel
theorem dX4_add_6 : decode cX4_add 6 = .ok (.if_icmp .ge 15, 3) := by decide +kernel
theorem dX4_add_9 : decode cX4_add 9 = .ok (.iload_n 2, 1) := by decide +kernel
theorem dX4_add_10 : decode cX4_add 10 = .ok (.ifCond .lt 11, 3) := by decide +kernel
theorem dX4_add_13 : decode cX4_add 13 = .ok (.iload_n 2, 1) := by decide +kernel
theorem dX4_add_14 : decode cX4_add 14 = .ok (.iload_n 1, 1) := by decide +kernel
theorem dX4_add_15 : decode cX4_add 15 = .ok (.invokestatic 22, 3) := by decide +kernel
theorem dX4_add_18 : decode cX4_add 18 = .ok (.if_icmp .le 5, 3) := by decide +kernel
theorem dX4_add_21 : decode cX4_add 21 = .ok (.iconst (-1), 1) := by decide +kernel
theorem dX4_add_22 : decode cX4_add 22 = .ok (.ireturn, 1) := by decide +kernel
theorem dX4_add_23 : decode cX4_add 23 = .ok (.aload_n 0, 1) := by decide +kernel
theorem dX4_add_24 : decode cX4_add 24 = .ok (.getfield 11, 3) := by decide +kernel
theorem dX4_add_27 : decode cX4_add 27 = .ok (.aload_n 0, 1) := by decide +kernel
theorem dX4_add_28 : decode cX4_add 28 = .ok (.getfield 18, 3) := by decide +kernel
theorem dX4_add_31 : decode cX4_add 31 = .ok (.iload_n 1, 1) := by decide +kernel
theorem dX4_add_32 : decode cX4_add 32 = .ok (.iastore, 1) := by decide +kernel
theorem dX4_add_33 : decode cX4_add 33 = .ok (.aload_n 0, 1) := by decide +kernel
theorem dX4_add_34 : decode cX4_add 34 = .ok (.getfield 15, 3) := by decide +kernel
theorem dX4_add_37 : decode cX4_add 37 = .ok (.aload_n 0, 1) := by decide +kernel
theorem dX4_add_38 : decode cX4_add 38 = .ok (.getfield 18, 3) := by decide +kernel
theorem dX4_add_41 : decode cX4_add 41 = .ok (.iload_n 2, 1) := by decide +kernel
theorem dX4_add_42 : decode cX4_add 42 = .ok (.iastore, 1) := by decide +kernel
theorem dX4_add_43 : decode cX4_add 43 = .ok (.aload_n 0, 1) := by decide +kernel
theorem dX4_add_44 : decode cX4_add 44 = .ok (.dup, 1) := by decide +kernel
theorem dX4_add_45 : decode cX4_add 45 = .ok (.getfield 18, 3) := by decide +kernel
theorem dX4_add_48 : decode cX4_add 48 = .ok (.iconst 1, 1) := by decide +kernel
theorem dX4_add_49 : decode cX4_add 49 = .ok (.iadd, 1) := by decide +kernel
theorem dX4_add_50 : decode cX4_add 50 = .ok (.putfield 18, 3) := by decide +kernel
theorem dX4_add_53 : decode cX4_add 53 = .ok (.aload_n 0, 1) := by decide +kernel
theorem dX4_add_54 : decode cX4_add 54 = .ok (.getfield 18, 3) := by decide +kernel
theorem dX4_add_57 : decode cX4_add 57 = .ok (.ireturn, 1) := by decide +kernel
theorem dX4_greatest_0 : decode cX4_greatest 0 = .ok (.iload_n 0, 1) := by decide +kernel
theorem dX4_greatest_1 : decode cX4_greatest 1 = .ok (.tableswitch 43 0 4 #[35, 38, 38, 40, 38], 35) := by decide +kernel
theorem dX4_greatest_36 : decode cX4_greatest 36 = .ok (.bipush 48, 2) := by decide +kernel
theorem dX4_greatest_38 : decode cX4_greatest 38 = .ok (.ireturn, 1) := by decide +kernel
theorem dX4_greatest_39 : decode cX4_greatest 39 = .ok (.iconst 1, 1) := by decide +kernel
theorem dX4_greatest_40 : decode cX4_greatest 40 = .ok (.ireturn, 1) := by decide +kernel
theorem dX4_greatest_41 : decode cX4_greatest 41 = .ok (.bipush 7, 2) := by decide +kernel
theorem dX4_greatest_43 : decode cX4_greatest 43 = .ok (.ireturn, 1) := by decide +kernel
theorem dX4_greatest_44 : decode cX4_greatest 44 = .ok (.iconst (-1), 1) := by decide +kernel
theorem dX4_greatest_45 : decode cX4_greatest 45 = .ok (.ireturn, 1) := by decide +kernel
theorem dX4_allFit_0 : decode cX4_allFit 0 = .ok (.iconst 0, 1) := by decide +kernel
theorem dX4_allFit_1 : decode cX4_allFit 1 = .ok (.istore_n 3, 1) := by decide +kernel
theorem dX4_allFit_2 : decode cX4_allFit 2 = .ok (.iload_n 3, 1) := by decide +kernel
theorem dX4_allFit_3 : decode cX4_allFit 3 = .ok (.aload_n 0, 1) := by decide +kernel
theorem dX4_allFit_4 : decode cX4_allFit 4 = .ok (.getfield 18, 3) := by decide +kernel
theorem dX4_allFit_7 : decode cX4_allFit 7 = .ok (.if_icmp .ge 31, 3) := by decide +kernel
theorem dX4_allFit_10 : decode cX4_allFit 10 = .ok (.aload_n 1, 1) := by decide +kernel
theorem dX4_allFit_11 : decode cX4_allFit 11 = .ok (.iload_n 2, 1) := by decide +kernel
theorem dX4_allFit_12 : decode cX4_allFit 12 = .ok (.aload_n 0, 1) := by decide +kernel
theorem dX4_allFit_13 : decode cX4_allFit 13 = .ok (.getfield 11, 3) := by decide +kernel
theorem dX4_allFit_16 : decode cX4_allFit 16 = .ok (.iload_n 3, 1) := by decide +kernel
theorem dX4_allFit_17 : decode cX4_allFit 17 = .ok (.iaload, 1) := by decide +kernel
theorem dX4_allFit_18 : decode cX4_allFit 18 = .ok (.aload_n 0, 1) := by decide +kernel
theorem dX4_allFit_19 : decode cX4_allFit 19 = .ok (.getfield 15, 3) := by decide +kernel
theorem dX4_allFit_22 : decode cX4_allFit 22 = .ok (.iload_n 3, 1) := by decide +kernel
theorem dX4_allFit_23 : decode cX4_allFit 23 = .ok (.iaload, 1) := by decide +kernel
theorem dX4_allFit_24 : decode cX4_allFit 24 = .ok (.invokestatic 26, 3) := by decide +kernel
theorem dX4_allFit_27 : decode cX4_allFit 27 = .ok (.ifCond .ne 5, 3) := by decide +kernel
theorem dX4_allFit_30 : decode cX4_allFit 30 = .ok (.iconst 0, 1) := by decide +kernel
theorem dX4_allFit_31 : decode cX4_allFit 31 = .ok (.ireturn, 1) := by decide +kernel
theorem dX4_allFit_32 : decode cX4_allFit 32 = .ok (.iinc 3 1, 3) := by decide +kernel
theorem dX4_allFit_35 : decode cX4_allFit 35 = .ok (.goto (-33), 3) := by decide +kernel
theorem dX4_allFit_38 : decode cX4_allFit 38 = .ok (.iconst 1, 1) := by decide +kernel
theorem dX4_allFit_39 : decode cX4_allFit 39 = .ok (.ireturn, 1) := by decide +kernel
theorem dX4_fitsOne_0 : decode cX4_fitsOne 0 = .ok (.iload_n 2, 1) := by decide +kernel
theorem dX4_fitsOne_1 : decode cX4_fitsOne 1 = .ok (.tableswitch 103 0 3 #[31, 47, 72, 96], 31) := by decide +kernel
theorem dX4_fitsOne_32 : decode cX4_fitsOne 32 = .ok (.aload_n 0, 1) := by decide +kernel
theorem dX4_fitsOne_33 : decode cX4_fitsOne 33 = .ok (.getfield 30, 3) := by decide +kernel
theorem dX4_fitsOne_36 : decode cX4_fitsOne 36 = .ok (.iload_n 1, 1) := by decide +kernel
theorem dX4_fitsOne_37 : decode cX4_fitsOne 37 = .ok (.iaload, 1) := by decide +kernel
theorem dX4_fitsOne_38 : decode cX4_fitsOne 38 = .ok (.iload_n 3, 1) := by decide +kernel
theorem dX4_fitsOne_39 : decode cX4_fitsOne 39 = .ok (.if_icmp .lt 7, 3) := by decide +kernel
theorem dX4_fitsOne_42 : decode cX4_fitsOne 42 = .ok (.iconst 1, 1) := by decide +kernel
theorem dX4_fitsOne_43 : decode cX4_fitsOne 43 = .ok (.goto 4, 3) := by decide +kernel
theorem dX4_fitsOne_46 : decode cX4_fitsOne 46 = .ok (.iconst 0, 1) := by decide +kernel
theorem dX4_fitsOne_47 : decode cX4_fitsOne 47 = .ok (.ireturn, 1) := by decide +kernel
theorem dX4_fitsOne_48 : decode cX4_fitsOne 48 = .ok (.aload_n 0, 1) := by decide +kernel
theorem dX4_fitsOne_49 : decode cX4_fitsOne 49 = .ok (.getfield 35, 3) := by decide +kernel
theorem dX4_fitsOne_52 : decode cX4_fitsOne 52 = .ok (.iload_n 1, 1) := by decide +kernel
theorem dX4_fitsOne_53 : decode cX4_fitsOne 53 = .ok (.baload, 1) := by decide +kernel
theorem dX4_fitsOne_54 : decode cX4_fitsOne 54 = .ok (.iload_n 3, 1) := by decide +kernel
theorem dX4_fitsOne_55 : decode cX4_fitsOne 55 = .ok (.iconst 1, 1) := by decide +kernel
theorem dX4_fitsOne_56 : decode cX4_fitsOne 56 = .ok (.if_icmp .ne 7, 3) := by decide +kernel
theorem dX4_fitsOne_59 : decode cX4_fitsOne 59 = .ok (.iconst 1, 1) := by decide +kernel
theorem dX4_fitsOne_60 : decode cX4_fitsOne 60 = .ok (.goto 4, 3) := by decide +kernel
theorem dX4_fitsOne_63 : decode cX4_fitsOne 63 = .ok (.iconst 0, 1) := by decide +kernel
theorem dX4_fitsOne_64 : decode cX4_fitsOne 64 = .ok (.if_icmp .ne 7, 3) := by decide +kernel
theorem dX4_fitsOne_67 : decode cX4_fitsOne 67 = .ok (.iconst 1, 1) := by decide +kernel
theorem dX4_fitsOne_68 : decode cX4_fitsOne 68 = .ok (.goto 4, 3) := by decide +kernel
theorem dX4_fitsOne_71 : decode cX4_fitsOne 71 = .ok (.iconst 0, 1) := by decide +kernel
theorem dX4_fitsOne_72 : decode cX4_fitsOne 72 = .ok (.ireturn, 1) := by decide +kernel
theorem dX4_fitsOne_73 : decode cX4_fitsOne 73 = .ok (.aload_n 0, 1) := by decide +kernel
theorem dX4_fitsOne_74 : decode cX4_fitsOne 74 = .ok (.iload_n 1, 1) := by decide +kernel
theorem dX4_fitsOne_75 : decode cX4_fitsOne 75 = .ok (.invokevirtual 39, 3) := by decide +kernel
theorem dX4_fitsOne_78 : decode cX4_fitsOne 78 = .ok (.iload_n 3, 1) := by decide +kernel
theorem dX4_fitsOne_79 : decode cX4_fitsOne 79 = .ok (.iconst 1, 1) := by decide +kernel
theorem dX4_fitsOne_80 : decode cX4_fitsOne 80 = .ok (.if_icmp .ne 7, 3) := by decide +kernel
theorem dX4_fitsOne_83 : decode cX4_fitsOne 83 = .ok (.iconst 1, 1) := by decide +kernel
theorem dX4_fitsOne_84 : decode cX4_fitsOne 84 = .ok (.goto 4, 3) := by decide +kernel
theorem dX4_fitsOne_87 : decode cX4_fitsOne 87 = .ok (.iconst 0, 1) := by decide +kernel
theorem dX4_fitsOne_88 : decode cX4_fitsOne 88 = .ok (.if_icmp .ne 7, 3) := by decide +kernel
theorem dX4_fitsOne_91 : decode cX4_fitsOne 91 = .ok (.iconst 1, 1) := by decide +kernel
theorem dX4_fitsOne_92 : decode cX4_fitsOne 92 = .ok (.goto 4, 3) := by decide +kernel
theorem dX4_fitsOne_95 : decode cX4_fitsOne 95 = .ok (.iconst 0, 1) := by decide +kernel
theorem dX4_fitsOne_96 : decode cX4_fitsOne 96 = .ok (.ireturn, 1) := by decide +kernel
theorem dX4_fitsOne_97 : decode cX4_fitsOne 97 = .ok (.aload_n 0, 1) := by decide +kernel
theorem dX4_fitsOne_98 : decode cX4_fitsOne 98 = .ok (.iload_n 1, 1) := by decide +kernel
theorem dX4_fitsOne_99 : decode cX4_fitsOne 99 = .ok (.iload_n 3, 1) := by decide +kernel
theorem dX4_fitsOne_100 : decode cX4_fitsOne 100 = .ok (.invokestatic 43, 3) := by decide +kernel
theorem dX4_fitsOne_103 : decode cX4_fitsOne 103 = .ok (.ireturn, 1) := by decide +kernel
theorem dX4_fitsOne_104 : decode cX4_fitsOne 104 = .ok (.aload_n 0, 1) := by decide +kernel
theorem dX4_fitsOne_105 : decode cX4_fitsOne 105 = .ok (.getfield 47, 3) := by decide +kernel
theorem dX4_fitsOne_108 : decode cX4_fitsOne 108 = .ok (.iload_n 1, 1) := by decide +kernel
theorem dX4_fitsOne_109 : decode cX4_fitsOne 109 = .ok (.iconst 2, 1) := by decide +kernel
theorem dX4_fitsOne_110 : decode cX4_fitsOne 110 = .ok (.ishr, 1) := by decide +kernel
theorem dX4_fitsOne_111 : decode cX4_fitsOne 111 = .ok (.iaload, 1) := by decide +kernel
theorem dX4_fitsOne_112 : decode cX4_fitsOne 112 = .ok (.istore 4, 2) := by decide +kernel
theorem dX4_fitsOne_114 : decode cX4_fitsOne 114 = .ok (.aload_n 0, 1) := by decide +kernel
theorem dX4_fitsOne_115 : decode cX4_fitsOne 115 = .ok (.getfield 47, 3) := by decide +kernel
theorem dX4_fitsOne_118 : decode cX4_fitsOne 118 = .ok (.iload_n 1, 1) := by decide +kernel
theorem dX4_fitsOne_119 : decode cX4_fitsOne 119 = .ok (.iconst 4, 1) := by decide +kernel
theorem dX4_fitsOne_120 : decode cX4_fitsOne 120 = .ok (.ishr, 1) := by decide +kernel
theorem dX4_fitsOne_121 : decode cX4_fitsOne 121 = .ok (.iconst 2, 1) := by decide +kernel
theorem dX4_fitsOne_122 : decode cX4_fitsOne 122 = .ok (.ishl, 1) := by decide +kernel
theorem dX4_fitsOne_123 : decode cX4_fitsOne 123 = .ok (.iload_n 1, 1) := by decide +kernel
theorem dX4_fitsOne_124 : decode cX4_fitsOne 124 = .ok (.iconst 3, 1) := by decide +kernel
theorem dX4_fitsOne_125 : decode cX4_fitsOne 125 = .ok (.iand, 1) := by decide +kernel
theorem dX4_fitsOne_126 : decode cX4_fitsOne 126 = .ok (.ior, 1) := by decide +kernel
theorem dX4_fitsOne_127 : decode cX4_fitsOne 127 = .ok (.iaload, 1) := by decide +kernel
theorem dX4_fitsOne_128 : decode cX4_fitsOne 128 = .ok (.istore 5, 2) := by decide +kernel
theorem dX4_fitsOne_130 : decode cX4_fitsOne 130 = .ok (.iload 4, 2) := by decide +kernel
theorem dX4_fitsOne_132 : decode cX4_fitsOne 132 = .ok (.iload 5, 2) := by decide +kernel
theorem dX4_fitsOne_134 : decode cX4_fitsOne 134 = .ok (.if_icmp .ne 7, 3) := by decide +kernel
theorem dX4_fitsOne_137 : decode cX4_fitsOne 137 = .ok (.iconst 1, 1) := by decide +kernel
theorem dX4_fitsOne_138 : decode cX4_fitsOne 138 = .ok (.goto 4, 3) := by decide +kernel
theorem dX4_fitsOne_141 : decode cX4_fitsOne 141 = .ok (.iconst 0, 1) := by decide +kernel
theorem dX4_fitsOne_142 : decode cX4_fitsOne 142 = .ok (.iload_n 3, 1) := by decide +kernel
theorem dX4_fitsOne_143 : decode cX4_fitsOne 143 = .ok (.iconst 1, 1) := by decide +kernel
theorem dX4_fitsOne_144 : decode cX4_fitsOne 144 = .ok (.if_icmp .ne 7, 3) := by decide +kernel
theorem dX4_fitsOne_147 : decode cX4_fitsOne 147 = .ok (.iconst 1, 1) := by decide +kernel
theorem dX4_fitsOne_148 : decode cX4_fitsOne 148 = .ok (.goto 4, 3) := by decide +kernel
theorem dX4_fitsOne_151 : decode cX4_fitsOne 151 = .ok (.iconst 0, 1) := by decide +kernel
theorem dX4_fitsOne_152 : decode cX4_fitsOne 152 = .ok (.if_icmp .ne 7, 3) := by decide +kernel
theorem dX4_fitsOne_155 : decode cX4_fitsOne 155 = .ok (.iconst 1, 1) := by decide +kernel
theorem dX4_fitsOne_156 : decode cX4_fitsOne 156 = .ok (.goto 4, 3) := by decide +kernel
theorem dX4_fitsOne_159 : decode cX4_fitsOne 159 = .ok (.iconst 0, 1) := by decide +kernel
theorem dX4_fitsOne_160 : decode cX4_fitsOne 160 = .ok (.ireturn, 1) := by decide +kernel
theorem dX4_isOfTet_0 : decode cX4_isOfTet 0 = .ok (.bipush 16, 2) := by decide +kernel
theorem dX4_isOfTet_2 : decode cX4_isOfTet 2 = .ok (.iload_n 2, 1) := by decide +kernel
theorem dX4_isOfTet_3 : decode cX4_isOfTet 3 = .ok (.imul, 1) := by decide +kernel
theorem dX4_isOfTet_4 : decode cX4_isOfTet 4 = .ok (.istore_n 3, 1) := by decide +kernel
theorem dX4_isOfTet_5 : decode cX4_isOfTet 5 = .ok (.iload_n 3, 1) := by decide +kernel
theorem dX4_isOfTet_6 : decode cX4_isOfTet 6 = .ok (.bipush 16, 2) := by decide +kernel
theorem dX4_isOfTet_8 : decode cX4_isOfTet 8 = .ok (.iload_n 2, 1) := by decide +kernel
theorem dX4_isOfTet_9 : decode cX4_isOfTet 9 = .ok (.imul, 1) := by decide +kernel
theorem dX4_isOfTet_10 : decode cX4_isOfTet 10 = .ok (.bipush 16, 2) := by decide +kernel
theorem dX4_isOfTet_12 : decode cX4_isOfTet 12 = .ok (.iadd, 1) := by decide +kernel
theorem dX4_isOfTet_13 : decode cX4_isOfTet 13 = .ok (.if_icmp .ge 21, 3) := by decide +kernel
theorem dX4_isOfTet_16 : decode cX4_isOfTet 16 = .ok (.aload_n 0, 1) := by decide +kernel
theorem dX4_isOfTet_17 : decode cX4_isOfTet 17 = .ok (.getfield 50, 3) := by decide +kernel
theorem dX4_isOfTet_20 : decode cX4_isOfTet 20 = .ok (.iload_n 3, 1) := by decide +kernel
theorem dX4_isOfTet_21 : decode cX4_isOfTet 21 = .ok (.iaload, 1) := by decide +kernel
theorem dX4_isOfTet_22 : decode cX4_isOfTet 22 = .ok (.iload_n 1, 1) := by decide +kernel
theorem dX4_isOfTet_23 : decode cX4_isOfTet 23 = .ok (.if_icmp .ne 5, 3) := by decide +kernel
theorem dX4_isOfTet_26 : decode cX4_isOfTet 26 = .ok (.iconst 1, 1) := by decide +kernel
theorem dX4_isOfTet_27 : decode cX4_isOfTet 27 = .ok (.ireturn, 1) := by decide +kernel
theorem dX4_isOfTet_28 : decode cX4_isOfTet 28 = .ok (.iinc 3 1, 3) := by decide +kernel
theorem dX4_isOfTet_31 : decode cX4_isOfTet 31 = .ok (.goto (-26), 3) := by decide +kernel
theorem dX4_isOfTet_34 : decode cX4_isOfTet 34 = .ok (.iconst 0, 1) := by decide +kernel
theorem dX4_isOfTet_35 : decode cX4_isOfTet 35 = .ok (.ireturn, 1) := by decide +kernel
theorem dX5_init_0 : decode cX5_init 0 = .ok (.aload_n 0, 1) := by decide +kernel
theorem dX5_init_1 : decode cX5_init 1 = .ok (.invokespecial 3, 3) := by decide +kernel
theorem dX5_init_4 : decode cX5_init 4 = .ok (.aload_n 0, 1) := by decide +kernel
theorem dX5_init_5 : decode cX5_init 5 = .ok (.bipush 80, 2) := by decide +kernel
theorem dX5_init_7 : decode cX5_init 7 = .ok (.newarray .int, 2) := by decide +kernel
theorem dX5_init_9 : decode cX5_init 9 = .ok (.putfield 11, 3) := by decide +kernel
theorem dX5_init_12 : decode cX5_init 12 = .ok (.aload_n 0, 1) := by decide +kernel
theorem dX5_init_13 : decode cX5_init 13 = .ok (.sipush 160, 3) := by decide +kernel
theorem dX5_init_16 : decode cX5_init 16 = .ok (.newarray .int, 2) := by decide +kernel
theorem dX5_init_18 : decode cX5_init 18 = .ok (.putfield 15, 3) := by decide +kernel
theorem dX5_init_21 : decode cX5_init 21 = .ok (.return_, 1) := by decide +kernel
theorem dX5_append_0 : decode cX5_append 0 = .ok (.aload_n 0, 1) := by decide +kernel
theorem dX5_append_1 : decode cX5_append 1 = .ok (.getfield 18, 3) := by decide +kernel
theorem dX5_append_4 : decode cX5_append 4 = .ok (.iconst 4, 1) := by decide +kernel
theorem dX5_append_5 : decode cX5_append 5 = .ok (.iadd, 1) := by decide +kernel
theorem dX5_append_6 : decode cX5_append 6 = .ok (.bipush 80, 2) := by decide +kernel
theorem dX5_append_8 : decode cX5_append 8 = .ok (.if_icmp .le 5, 3) := by decide +kernel
theorem dX5_append_11 : decode cX5_append 11 = .ok (.iconst (-1), 1) := by decide +kernel
theorem dX5_append_12 : decode cX5_append 12 = .ok (.ireturn, 1) := by decide +kernel
theorem dX5_append_13 : decode cX5_append 13 = .ok (.bipush 24, 2) := by decide +kernel
theorem dX5_append_15 : decode cX5_append 15 = .ok (.istore_n 2, 1) := by decide +kernel
theorem dX5_append_16 : decode cX5_append 16 = .ok (.iload_n 2, 1) := by decide +kernel
theorem dX5_append_17 : decode cX5_append 17 = .ok (.ifCond .lt 35, 3) := by decide +kernel
theorem dX5_append_20 : decode cX5_append 20 = .ok (.aload_n 0, 1) := by decide +kernel
theorem dX5_append_21 : decode cX5_append 21 = .ok (.getfield 11, 3) := by decide +kernel
theorem dX5_append_24 : decode cX5_append 24 = .ok (.aload_n 0, 1) := by decide +kernel
theorem dX5_append_25 : decode cX5_append 25 = .ok (.getfield 18, 3) := by decide +kernel
theorem dX5_append_28 : decode cX5_append 28 = .ok (.iload_n 1, 1) := by decide +kernel
theorem dX5_append_29 : decode cX5_append 29 = .ok (.iload_n 2, 1) := by decide +kernel
theorem dX5_append_30 : decode cX5_append 30 = .ok (.ishr, 1) := by decide +kernel
theorem dX5_append_31 : decode cX5_append 31 = .ok (.sipush 255, 3) := by decide +kernel
theorem dX5_append_34 : decode cX5_append 34 = .ok (.iand, 1) := by decide +kernel
theorem dX5_append_35 : decode cX5_append 35 = .ok (.iastore, 1) := by decide +kernel
theorem dX5_append_36 : decode cX5_append 36 = .ok (.aload_n 0, 1) := by decide +kernel
theorem dX5_append_37 : decode cX5_append 37 = .ok (.dup, 1) := by decide +kernel
theorem dX5_append_38 : decode cX5_append 38 = .ok (.getfield 18, 3) := by decide +kernel
theorem dX5_append_41 : decode cX5_append 41 = .ok (.iconst 1, 1) := by decide +kernel
theorem dX5_append_42 : decode cX5_append 42 = .ok (.iadd, 1) := by decide +kernel
theorem dX5_append_43 : decode cX5_append 43 = .ok (.putfield 18, 3) := by decide +kernel
theorem dX5_append_46 : decode cX5_append 46 = .ok (.iinc 2 (-8), 3) := by decide +kernel
theorem dX5_append_49 : decode cX5_append 49 = .ok (.goto (-33), 3) := by decide +kernel
theorem dX5_append_52 : decode cX5_append 52 = .ok (.aload_n 0, 1) := by decide +kernel
theorem dX5_append_53 : decode cX5_append 53 = .ok (.getfield 18, 3) := by decide +kernel
theorem dX5_append_56 : decode cX5_append 56 = .ok (.ireturn, 1) := by decide +kernel
theorem dX5_cut_0 : decode cX5_cut 0 = .ok (.iload_n 1, 1) := by decide +kernel
theorem dX5_cut_1 : decode cX5_cut 1 = .ok (.ifCond .lt 11, 3) := by decide +kernel
theorem dX5_cut_4 : decode cX5_cut 4 = .ok (.iload_n 1, 1) := by decide +kernel
theorem dX5_cut_5 : decode cX5_cut 5 = .ok (.aload_n 0, 1) := by decide +kernel
theorem dX5_cut_6 : decode cX5_cut 6 = .ok (.getfield 18, 3) := by decide +kernel
theorem dX5_cut_9 : decode cX5_cut 9 = .ok (.if_icmp .le 5, 3) := by decide +kernel
theorem dX5_cut_12 : decode cX5_cut 12 = .ok (.iconst 0, 1) := by decide +kernel
theorem dX5_cut_13 : decode cX5_cut 13 = .ok (.ireturn, 1) := by decide +kernel
theorem dX5_cut_14 : decode cX5_cut 14 = .ok (.aload_n 0, 1) := by decide +kernel
theorem dX5_cut_15 : decode cX5_cut 15 = .ok (.iload_n 1, 1) := by decide +kernel
theorem dX5_cut_16 : decode cX5_cut 16 = .ok (.putfield 18, 3) := by decide +kernel
theorem dX5_cut_19 : decode cX5_cut 19 = .ok (.iconst 1, 1) := by decide +kernel
theorem dX5_cut_20 : decode cX5_cut 20 = .ok (.ireturn, 1) := by decide +kernel
theorem dX5_signAt_0 : decode cX5_signAt 0 = .ok (.iload_n 1, 1) := by decide +kernel
theorem dX5_signAt_1 : decode cX5_signAt 1 = .ok (.ifCond .lt 20, 3) := by decide +kernel
theorem dX5_signAt_4 : decode cX5_signAt 4 = .ok (.iload_n 1, 1) := by decide +kernel
theorem dX5_signAt_5 : decode cX5_signAt 5 = .ok (.aload_n 0, 1) := by decide +kernel
theorem dX5_signAt_6 : decode cX5_signAt 6 = .ok (.getfield 18, 3) := by decide +kernel
theorem dX5_signAt_9 : decode cX5_signAt 9 = .ok (.if_icmp .ge 12, 3) := by decide +kernel
theorem dX5_signAt_12 : decode cX5_signAt 12 = .ok (.aload_n 0, 1) := by decide +kernel
theorem dX5_signAt_13 : decode cX5_signAt 13 = .ok (.getfield 11, 3) := by decide +kernel
theorem dX5_signAt_16 : decode cX5_signAt 16 = .ok (.iload_n 1, 1) := by decide +kernel
theorem dX5_signAt_17 : decode cX5_signAt 17 = .ok (.iaload, 1) := by decide +kernel
theorem dX5_signAt_18 : decode cX5_signAt 18 = .ok (.goto 4, 3) := by decide +kernel
theorem dX5_signAt_21 : decode cX5_signAt 21 = .ok (.iconst (-1), 1) := by decide +kernel
theorem dX5_signAt_22 : decode cX5_signAt 22 = .ok (.ireturn, 1) := by decide +kernel
theorem dX5_digitAt_0 : decode cX5_digitAt 0 = .ok (.aload_n 0, 1) := by decide +kernel
theorem dX5_digitAt_1 : decode cX5_digitAt 1 = .ok (.iload_n 1, 1) := by decide +kernel
theorem dX5_digitAt_2 : decode cX5_digitAt 2 = .ok (.invokevirtual 22, 3) := by decide +kernel
theorem dX5_digitAt_5 : decode cX5_digitAt 5 = .ok (.bipush 48, 2) := by decide +kernel
theorem dX5_digitAt_7 : decode cX5_digitAt 7 = .ok (.isub, 1) := by decide +kernel
theorem dX5_digitAt_8 : decode cX5_digitAt 8 = .ok (.istore_n 3, 1) := by decide +kernel
theorem dX5_digitAt_9 : decode cX5_digitAt 9 = .ok (.iload_n 3, 1) := by decide +kernel
theorem dX5_digitAt_10 : decode cX5_digitAt 10 = .ok (.ifCond .lt 12, 3) := by decide +kernel
theorem dX5_digitAt_13 : decode cX5_digitAt 13 = .ok (.iload_n 3, 1) := by decide +kernel
theorem dX5_digitAt_14 : decode cX5_digitAt 14 = .ok (.iload_n 2, 1) := by decide +kernel
theorem dX5_digitAt_15 : decode cX5_digitAt 15 = .ok (.if_icmp .ge 7, 3) := by decide +kernel
theorem dX5_digitAt_18 : decode cX5_digitAt 18 = .ok (.iload_n 3, 1) := by decide +kernel
theorem dX5_digitAt_19 : decode cX5_digitAt 19 = .ok (.goto 4, 3) := by decide +kernel
theorem dX5_digitAt_22 : decode cX5_digitAt 22 = .ok (.iconst (-1), 1) := by decide +kernel
theorem dX5_digitAt_23 : decode cX5_digitAt 23 = .ok (.ireturn, 1) := by decide +kernel
theorem dX5_readSolid_0 : decode cX5_readSolid 0 = .ok (.aload_n 0, 1) := by decide +kernel
theorem dX5_readSolid_1 : decode cX5_readSolid 1 = .ok (.iconst 0, 1) := by decide +kernel
theorem dX5_readSolid_2 : decode cX5_readSolid 2 = .ok (.bipush 9, 2) := by decide +kernel
theorem dX5_readSolid_4 : decode cX5_readSolid 4 = .ok (.invokevirtual 26, 3) := by decide +kernel
theorem dX5_readSolid_7 : decode cX5_readSolid 7 = .ok (.istore_n 2, 1) := by decide +kernel
theorem dX5_readSolid_8 : decode cX5_readSolid 8 = .ok (.iload_n 2, 1) := by decide +kernel
theorem dX5_readSolid_9 : decode cX5_readSolid 9 = .ok (.iconst 1, 1) := by decide +kernel
theorem dX5_readSolid_10 : decode cX5_readSolid 10 = .ok (.if_icmp .ge 5, 3) := by decide +kernel
theorem dX5_readSolid_13 : decode cX5_readSolid 13 = .ok (.iconst (-1), 1) := by decide +kernel
theorem dX5_readSolid_14 : decode cX5_readSolid 14 = .ok (.ireturn, 1) := by decide +kernel
theorem dX5_readSolid_15 : decode cX5_readSolid 15 = .ok (.aload_n 1, 1) := by decide +kernel
theorem dX5_readSolid_16 : decode cX5_readSolid 16 = .ok (.iload_n 2, 1) := by decide +kernel
theorem dX5_readSolid_17 : decode cX5_readSolid 17 = .ok (.invokevirtual 30, 3) := by decide +kernel
theorem dX5_readSolid_20 : decode cX5_readSolid 20 = .ok (.iconst 1, 1) := by decide +kernel
theorem dX5_readSolid_21 : decode cX5_readSolid 21 = .ok (.istore_n 3, 1) := by decide +kernel
theorem dX5_readSolid_22 : decode cX5_readSolid 22 = .ok (.iload_n 3, 1) := by decide +kernel
theorem dX5_readSolid_23 : decode cX5_readSolid 23 = .ok (.aload_n 0, 1) := by decide +kernel
theorem dX5_readSolid_24 : decode cX5_readSolid 24 = .ok (.getfield 18, 3) := by decide +kernel
theorem dX5_readSolid_27 : decode cX5_readSolid 27 = .ok (.if_icmp .ge 27, 3) := by decide +kernel
theorem dX5_readSolid_30 : decode cX5_readSolid 30 = .ok (.aload_n 0, 1) := by decide +kernel
theorem dX5_readSolid_31 : decode cX5_readSolid 31 = .ok (.aload_n 1, 1) := by decide +kernel
theorem dX5_readSolid_32 : decode cX5_readSolid 32 = .ok (.iload_n 3, 1) := by decide +kernel
theorem dX5_readSolid_33 : decode cX5_readSolid 33 = .ok (.invokevirtual 36, 3) := by decide +kernel
theorem dX5_readSolid_36 : decode cX5_readSolid 36 = .ok (.istore 4, 2) := by decide +kernel
theorem dX5_readSolid_38 : decode cX5_readSolid 38 = .ok (.iload 4, 2) := by decide +kernel
theorem dX5_readSolid_40 : decode cX5_readSolid 40 = .ok (.ifCond .lt 8, 3) := by decide +kernel
theorem dX5_readSolid_43 : decode cX5_readSolid 43 = .ok (.iconst (-1), 1) := by decide +kernel
theorem dX5_readSolid_44 : decode cX5_readSolid 44 = .ok (.iload 4, 2) := by decide +kernel
theorem dX5_readSolid_46 : decode cX5_readSolid 46 = .ok (.isub, 1) := by decide +kernel
theorem dX5_readSolid_47 : decode cX5_readSolid 47 = .ok (.ireturn, 1) := by decide +kernel
theorem dX5_readSolid_48 : decode cX5_readSolid 48 = .ok (.iinc 3 4, 3) := by decide +kernel
theorem dX5_readSolid_51 : decode cX5_readSolid 51 = .ok (.goto (-29), 3) := by decide +kernel
theorem dX5_readSolid_54 : decode cX5_readSolid 54 = .ok (.iload_n 2, 1) := by decide +kernel
theorem dX5_readSolid_55 : decode cX5_readSolid 55 = .ok (.ireturn, 1) := by decide +kernel
theorem dX5_readPair_0 : decode cX5_readPair 0 = .ok (.aload_n 0, 1) := by decide +kernel
theorem dX5_readPair_1 : decode cX5_readPair 1 = .ok (.iload_n 2, 1) := by decide +kernel
theorem dX5_readPair_2 : decode cX5_readPair 2 = .ok (.aload_n 1, 1) := by decide +kernel
theorem dX5_readPair_3 : decode cX5_readPair 3 = .ok (.getfield 40, 3) := by decide +kernel
theorem dX5_readPair_6 : decode cX5_readPair 6 = .ok (.invokevirtual 26, 3) := by decide +kernel
theorem dX5_readPair_9 : decode cX5_readPair 9 = .ok (.istore_n 3, 1) := by decide +kernel
theorem dX5_readPair_10 : decode cX5_readPair 10 = .ok (.iload_n 3, 1) := by decide +kernel
theorem dX5_readPair_11 : decode cX5_readPair 11 = .ok (.ifCond .ge 5, 3) := by decide +kernel
theorem dX5_readPair_14 : decode cX5_readPair 14 = .ok (.iload_n 2, 1) := by decide +kernel
theorem dX5_readPair_15 : decode cX5_readPair 15 = .ok (.ireturn, 1) := by decide +kernel
theorem dX5_readPair_16 : decode cX5_readPair 16 = .ok (.aload_n 0, 1) := by decide +kernel
theorem dX5_readPair_17 : decode cX5_readPair 17 = .ok (.iload_n 2, 1) := by decide +kernel
theorem dX5_readPair_18 : decode cX5_readPair 18 = .ok (.iconst 1, 1) := by decide +kernel
theorem dX5_readPair_19 : decode cX5_readPair 19 = .ok (.iadd, 1) := by decide +kernel
theorem dX5_readPair_20 : decode cX5_readPair 20 = .ok (.iconst 4, 1) := by decide +kernel
theorem dX5_readPair_21 : decode cX5_readPair 21 = .ok (.invokevirtual 26, 3) := by decide +kernel
theorem dX5_readPair_24 : decode cX5_readPair 24 = .ok (.istore 4, 2) := by decide +kernel
theorem dX5_readPair_26 : decode cX5_readPair 26 = .ok (.iload 4, 2) := by decide +kernel
theorem dX5_readPair_28 : decode cX5_readPair 28 = .ok (.ifCond .lt 17, 3) := by decide +kernel
theorem dX5_readPair_31 : decode cX5_readPair 31 = .ok (.aload_n 1, 1) := by decide +kernel
theorem dX5_readPair_32 : decode cX5_readPair 32 = .ok (.getfield 43, 3) := by decide +kernel
theorem dX5_readPair_35 : decode cX5_readPair 35 = .ok (.iconst 4, 1) := by decide +kernel
theorem dX5_readPair_36 : decode cX5_readPair 36 = .ok (.iload_n 3, 1) := by decide +kernel
theorem dX5_readPair_37 : decode cX5_readPair 37 = .ok (.imul, 1) := by decide +kernel
theorem dX5_readPair_38 : decode cX5_readPair 38 = .ok (.iload 4, 2) := by decide +kernel
theorem dX5_readPair_40 : decode cX5_readPair 40 = .ok (.iadd, 1) := by decide +kernel
theorem dX5_readPair_41 : decode cX5_readPair 41 = .ok (.iaload, 1) := by decide +kernel
theorem dX5_readPair_42 : decode cX5_readPair 42 = .ok (.ifCond .lt 7, 3) := by decide +kernel
theorem dX5_readPair_45 : decode cX5_readPair 45 = .ok (.iload_n 2, 1) := by decide +kernel
theorem dX5_readPair_46 : decode cX5_readPair 46 = .ok (.iconst 1, 1) := by decide +kernel
theorem dX5_readPair_47 : decode cX5_readPair 47 = .ok (.iadd, 1) := by decide +kernel
theorem dX5_readPair_48 : decode cX5_readPair 48 = .ok (.ireturn, 1) := by decide +kernel
theorem dX5_readPair_49 : decode cX5_readPair 49 = .ok (.aload_n 0, 1) := by decide +kernel
theorem dX5_readPair_50 : decode cX5_readPair 50 = .ok (.iload_n 2, 1) := by decide +kernel
theorem dX5_readPair_51 : decode cX5_readPair 51 = .ok (.iconst 2, 1) := by decide +kernel
theorem dX5_readPair_52 : decode cX5_readPair 52 = .ok (.iadd, 1) := by decide +kernel
theorem dX5_readPair_53 : decode cX5_readPair 53 = .ok (.aload_n 1, 1) := by decide +kernel
theorem dX5_readPair_54 : decode cX5_readPair 54 = .ok (.getfield 40, 3) := by decide +kernel
theorem dX5_readPair_57 : decode cX5_readPair 57 = .ok (.invokevirtual 26, 3) := by decide +kernel
theorem dX5_readPair_60 : decode cX5_readPair 60 = .ok (.istore 5, 2) := by decide +kernel
theorem dX5_readPair_62 : decode cX5_readPair 62 = .ok (.iload 5, 2) := by decide +kernel
theorem dX5_readPair_64 : decode cX5_readPair 64 = .ok (.ifCond .ge 7, 3) := by decide +kernel
theorem dX5_readPair_67 : decode cX5_readPair 67 = .ok (.iload_n 2, 1) := by decide +kernel
theorem dX5_readPair_68 : decode cX5_readPair 68 = .ok (.iconst 2, 1) := by decide +kernel
theorem dX5_readPair_69 : decode cX5_readPair 69 = .ok (.iadd, 1) := by decide +kernel
theorem dX5_readPair_70 : decode cX5_readPair 70 = .ok (.ireturn, 1) := by decide +kernel
theorem dX5_readPair_71 : decode cX5_readPair 71 = .ok (.aload_n 0, 1) := by decide +kernel
theorem dX5_readPair_72 : decode cX5_readPair 72 = .ok (.iload_n 2, 1) := by decide +kernel
theorem dX5_readPair_73 : decode cX5_readPair 73 = .ok (.iconst 3, 1) := by decide +kernel
theorem dX5_readPair_74 : decode cX5_readPair 74 = .ok (.iadd, 1) := by decide +kernel
theorem dX5_readPair_75 : decode cX5_readPair 75 = .ok (.invokevirtual 22, 3) := by decide +kernel
theorem dX5_readPair_78 : decode cX5_readPair 78 = .ok (.bipush 97, 2) := by decide +kernel
theorem dX5_readPair_80 : decode cX5_readPair 80 = .ok (.isub, 1) := by decide +kernel
theorem dX5_readPair_81 : decode cX5_readPair 81 = .ok (.istore 6, 2) := by decide +kernel
theorem dX5_readPair_83 : decode cX5_readPair 83 = .ok (.iload 6, 2) := by decide +kernel
theorem dX5_readPair_85 : decode cX5_readPair 85 = .ok (.ifCond .lt 10, 3) := by decide +kernel
theorem dX5_readPair_88 : decode cX5_readPair 88 = .ok (.iload 6, 2) := by decide +kernel
theorem dX5_readPair_90 : decode cX5_readPair 90 = .ok (.bipush 23, 2) := by decide +kernel
theorem dX5_readPair_92 : decode cX5_readPair 92 = .ok (.if_icmp .le 7, 3) := by decide +kernel
theorem dX5_readPair_95 : decode cX5_readPair 95 = .ok (.iload_n 2, 1) := by decide +kernel
theorem dX5_readPair_96 : decode cX5_readPair 96 = .ok (.iconst 3, 1) := by decide +kernel
theorem dX5_readPair_97 : decode cX5_readPair 97 = .ok (.iadd, 1) := by decide +kernel
theorem dX5_readPair_98 : decode cX5_readPair 98 = .ok (.ireturn, 1) := by decide +kernel
theorem dX5_readPair_99 : decode cX5_readPair 99 = .ok (.iconst 4, 1) := by decide +kernel
theorem dX5_readPair_100 : decode cX5_readPair 100 = .ok (.iload 5, 2) := by decide +kernel
theorem dX5_readPair_102 : decode cX5_readPair 102 = .ok (.imul, 1) := by decide +kernel
theorem dX5_readPair_103 : decode cX5_readPair 103 = .ok (.getstatic 46, 3) := by decide +kernel
theorem dX5_readPair_106 : decode cX5_readPair 106 = .ok (.iconst 4, 1) := by decide +kernel
theorem dX5_readPair_107 : decode cX5_readPair 107 = .ok (.iload 6, 2) := by decide +kernel
theorem dX5_readPair_109 : decode cX5_readPair 109 = .ok (.imul, 1) := by decide +kernel
theorem dX5_readPair_110 : decode cX5_readPair 110 = .ok (.iload 4, 2) := by decide +kernel
theorem dX5_readPair_112 : decode cX5_readPair 112 = .ok (.iadd, 1) := by decide +kernel
theorem dX5_readPair_113 : decode cX5_readPair 113 = .ok (.iaload, 1) := by decide +kernel
theorem dX5_readPair_114 : decode cX5_readPair 114 = .ok (.iadd, 1) := by decide +kernel
theorem dX5_readPair_115 : decode cX5_readPair 115 = .ok (.istore 7, 2) := by decide +kernel
theorem dX5_readPair_117 : decode cX5_readPair 117 = .ok (.iload 7, 2) := by decide +kernel
theorem dX5_readPair_119 : decode cX5_readPair 119 = .ok (.iconst 4, 1) := by decide +kernel
theorem dX5_readPair_120 : decode cX5_readPair 120 = .ok (.iload_n 3, 1) := by decide +kernel
theorem dX5_readPair_121 : decode cX5_readPair 121 = .ok (.imul, 1) := by decide +kernel
theorem dX5_readPair_122 : decode cX5_readPair 122 = .ok (.iload 4, 2) := by decide +kernel
theorem dX5_readPair_124 : decode cX5_readPair 124 = .ok (.iadd, 1) := by decide +kernel
theorem dX5_readPair_125 : decode cX5_readPair 125 = .ok (.if_icmp .eq 13, 3) := by decide +kernel
theorem dX5_readPair_128 : decode cX5_readPair 128 = .ok (.aload_n 1, 1) := by decide +kernel
theorem dX5_readPair_129 : decode cX5_readPair 129 = .ok (.getfield 43, 3) := by decide +kernel
theorem dX5_readPair_132 : decode cX5_readPair 132 = .ok (.iload 7, 2) := by decide +kernel
theorem dX5_readPair_134 : decode cX5_readPair 134 = .ok (.iaload, 1) := by decide +kernel
theorem dX5_readPair_135 : decode cX5_readPair 135 = .ok (.ifCond .lt 7, 3) := by decide +kernel
theorem dX5_readPair_138 : decode cX5_readPair 138 = .ok (.iload_n 2, 1) := by decide +kernel
theorem dX5_readPair_139 : decode cX5_readPair 139 = .ok (.iconst 3, 1) := by decide +kernel
theorem dX5_readPair_140 : decode cX5_readPair 140 = .ok (.iadd, 1) := by decide +kernel
theorem dX5_readPair_141 : decode cX5_readPair 141 = .ok (.ireturn, 1) := by decide +kernel
theorem dX5_readPair_142 : decode cX5_readPair 142 = .ok (.aload_n 1, 1) := by decide +kernel
theorem dX5_readPair_143 : decode cX5_readPair 143 = .ok (.iconst 4, 1) := by decide +kernel
theorem dX5_readPair_144 : decode cX5_readPair 144 = .ok (.iload_n 3, 1) := by decide +kernel
theorem dX5_readPair_145 : decode cX5_readPair 145 = .ok (.imul, 1) := by decide +kernel
theorem dX5_readPair_146 : decode cX5_readPair 146 = .ok (.iload 4, 2) := by decide +kernel
theorem dX5_readPair_148 : decode cX5_readPair 148 = .ok (.iadd, 1) := by decide +kernel
theorem dX5_readPair_149 : decode cX5_readPair 149 = .ok (.iload 5, 2) := by decide +kernel
theorem dX5_readPair_151 : decode cX5_readPair 151 = .ok (.iload 6, 2) := by decide +kernel
theorem dX5_readPair_153 : decode cX5_readPair 153 = .ok (.invokevirtual 49, 3) := by decide +kernel
theorem dX5_readPair_156 : decode cX5_readPair 156 = .ok (.iconst (-1), 1) := by decide +kernel
theorem dX5_readPair_157 : decode cX5_readPair 157 = .ok (.ireturn, 1) := by decide +kernel
theorem dX5_readTrail_0 : decode cX5_readTrail 0 = .ok (.aload_n 0, 1) := by decide +kernel
theorem dX5_readTrail_1 : decode cX5_readTrail 1 = .ok (.iconst 0, 1) := by decide +kernel
theorem dX5_readTrail_2 : decode cX5_readTrail 2 = .ok (.putfield 53, 3) := by decide +kernel
theorem dX5_readTrail_5 : decode cX5_readTrail 5 = .ok (.iconst 0, 1) := by decide +kernel
theorem dX5_readTrail_6 : decode cX5_readTrail 6 = .ok (.istore_n 1, 1) := by decide +kernel
theorem dX5_readTrail_7 : decode cX5_readTrail 7 = .ok (.iconst 0, 1) := by decide +kernel
theorem dX5_readTrail_8 : decode cX5_readTrail 8 = .ok (.istore_n 2, 1) := by decide +kernel
theorem dX5_readTrail_9 : decode cX5_readTrail 9 = .ok (.iload_n 2, 1) := by decide +kernel
theorem dX5_readTrail_10 : decode cX5_readTrail 10 = .ok (.bipush 40, 2) := by decide +kernel
theorem dX5_readTrail_12 : decode cX5_readTrail 12 = .ok (.if_icmp .ge 129, 3) := by decide +kernel
theorem dX5_readTrail_15 : decode cX5_readTrail 15 = .ok (.iload_n 1, 1) := by decide +kernel
theorem dX5_readTrail_16 : decode cX5_readTrail 16 = .ok (.aload_n 0, 1) := by decide +kernel
theorem dX5_readTrail_17 : decode cX5_readTrail 17 = .ok (.getfield 18, 3) := by decide +kernel
theorem dX5_readTrail_20 : decode cX5_readTrail 20 = .ok (.if_icmp .ge 121, 3) := by decide +kernel
theorem dX5_readTrail_23 : decode cX5_readTrail 23 = .ok (.aload_n 0, 1) := by decide +kernel
theorem dX5_readTrail_24 : decode cX5_readTrail 24 = .ok (.iload_n 1, 1) := by decide +kernel
theorem dX5_readTrail_25 : decode cX5_readTrail 25 = .ok (.invokevirtual 22, 3) := by decide +kernel
theorem dX5_readTrail_28 : decode cX5_readTrail 28 = .ok (.invokestatic 56, 3) := by decide +kernel
theorem dX5_readTrail_31 : decode cX5_readTrail 31 = .ok (.istore_n 3, 1) := by decide +kernel
theorem dX5_readTrail_32 : decode cX5_readTrail 32 = .ok (.iload_n 3, 1) := by decide +kernel
theorem dX5_readTrail_33 : decode cX5_readTrail 33 = .ok (.ifCond .ge 7, 3) := by decide +kernel
theorem dX5_readTrail_36 : decode cX5_readTrail 36 = .ok (.iconst (-1), 1) := by decide +kernel
theorem dX5_readTrail_37 : decode cX5_readTrail 37 = .ok (.iload_n 1, 1) := by decide +kernel
theorem dX5_readTrail_38 : decode cX5_readTrail 38 = .ok (.isub, 1) := by decide +kernel
theorem dX5_readTrail_39 : decode cX5_readTrail 39 = .ok (.ireturn, 1) := by decide +kernel
theorem dX5_readTrail_40 : decode cX5_readTrail 40 = .ok (.iload_n 3, 1) := by decide +kernel
theorem dX5_readTrail_41 : decode cX5_readTrail 41 = .ok (.invokestatic 59, 3) := by decide +kernel
theorem dX5_readTrail_44 : decode cX5_readTrail 44 = .ok (.istore 4, 2) := by decide +kernel
theorem dX5_readTrail_46 : decode cX5_readTrail 46 = .ok (.aload_n 0, 1) := by decide +kernel
theorem dX5_readTrail_47 : decode cX5_readTrail 47 = .ok (.getfield 15, 3) := by decide +kernel
theorem dX5_readTrail_50 : decode cX5_readTrail 50 = .ok (.iconst 4, 1) := by decide +kernel
theorem dX5_readTrail_51 : decode cX5_readTrail 51 = .ok (.iload_n 2, 1) := by decide +kernel
theorem dX5_readTrail_52 : decode cX5_readTrail 52 = .ok (.imul, 1) := by decide +kernel
theorem dX5_readTrail_53 : decode cX5_readTrail 53 = .ok (.iload_n 3, 1) := by decide +kernel
theorem dX5_readTrail_54 : decode cX5_readTrail 54 = .ok (.iastore, 1) := by decide +kernel
theorem dX5_readTrail_55 : decode cX5_readTrail 55 = .ok (.iconst 1, 1) := by decide +kernel
theorem dX5_readTrail_56 : decode cX5_readTrail 56 = .ok (.istore 5, 2) := by decide +kernel
theorem dX5_readTrail_58 : decode cX5_readTrail 58 = .ok (.iload 5, 2) := by decide +kernel
theorem dX5_readTrail_60 : decode cX5_readTrail 60 = .ok (.iconst 4, 1) := by decide +kernel
theorem dX5_readTrail_61 : decode cX5_readTrail 61 = .ok (.if_icmp .ge 57, 3) := by decide +kernel
theorem dX5_readTrail_64 : decode cX5_readTrail 64 = .ok (.iload 5, 2) := by decide +kernel
theorem dX5_readTrail_66 : decode cX5_readTrail 66 = .ok (.iload 4, 2) := by decide +kernel
theorem dX5_readTrail_68 : decode cX5_readTrail 68 = .ok (.if_icmp .le 7, 3) := by decide +kernel
theorem dX5_readTrail_71 : decode cX5_readTrail 71 = .ok (.iconst 0, 1) := by decide +kernel
theorem dX5_readTrail_72 : decode cX5_readTrail 72 = .ok (.goto 13, 3) := by decide +kernel
theorem dX5_readTrail_75 : decode cX5_readTrail 75 = .ok (.aload_n 0, 1) := by decide +kernel
theorem dX5_readTrail_76 : decode cX5_readTrail 76 = .ok (.iload_n 1, 1) := by decide +kernel
theorem dX5_readTrail_77 : decode cX5_readTrail 77 = .ok (.iload 5, 2) := by decide +kernel
theorem dX5_readTrail_79 : decode cX5_readTrail 79 = .ok (.iadd, 1) := by decide +kernel
theorem dX5_readTrail_80 : decode cX5_readTrail 80 = .ok (.bipush 10, 2) := by decide +kernel
theorem dX5_readTrail_82 : decode cX5_readTrail 82 = .ok (.invokevirtual 26, 3) := by decide +kernel
theorem dX5_readTrail_85 : decode cX5_readTrail 85 = .ok (.istore 6, 2) := by decide +kernel
theorem dX5_readTrail_87 : decode cX5_readTrail 87 = .ok (.iload 6, 2) := by decide +kernel
theorem dX5_readTrail_89 : decode cX5_readTrail 89 = .ok (.ifCond .ge 10, 3) := by decide +kernel
theorem dX5_readTrail_92 : decode cX5_readTrail 92 = .ok (.iconst (-1), 1) := by decide +kernel
theorem dX5_readTrail_93 : decode cX5_readTrail 93 = .ok (.iload_n 1, 1) := by decide +kernel
theorem dX5_readTrail_94 : decode cX5_readTrail 94 = .ok (.isub, 1) := by decide +kernel
theorem dX5_readTrail_95 : decode cX5_readTrail 95 = .ok (.iload 5, 2) := by decide +kernel
theorem dX5_readTrail_97 : decode cX5_readTrail 97 = .ok (.isub, 1) := by decide +kernel
theorem dX5_readTrail_98 : decode cX5_readTrail 98 = .ok (.ireturn, 1) := by decide +kernel
theorem dX5_readTrail_99 : decode cX5_readTrail 99 = .ok (.aload_n 0, 1) := by decide +kernel
theorem dX5_readTrail_100 : decode cX5_readTrail 100 = .ok (.getfield 15, 3) := by decide +kernel
theorem dX5_readTrail_103 : decode cX5_readTrail 103 = .ok (.iconst 4, 1) := by decide +kernel
theorem dX5_readTrail_104 : decode cX5_readTrail 104 = .ok (.iload_n 2, 1) := by decide +kernel
theorem dX5_readTrail_105 : decode cX5_readTrail 105 = .ok (.imul, 1) := by decide +kernel
theorem dX5_readTrail_106 : decode cX5_readTrail 106 = .ok (.iload 5, 2) := by decide +kernel
theorem dX5_readTrail_108 : decode cX5_readTrail 108 = .ok (.iadd, 1) := by decide +kernel
theorem dX5_readTrail_109 : decode cX5_readTrail 109 = .ok (.iload 6, 2) := by decide +kernel
theorem dX5_readTrail_111 : decode cX5_readTrail 111 = .ok (.iastore, 1) := by decide +kernel
theorem dX5_readTrail_112 : decode cX5_readTrail 112 = .ok (.iinc 5 1, 3) := by decide +kernel
theorem dX5_readTrail_115 : decode cX5_readTrail 115 = .ok (.goto (-57), 3) := by decide +kernel
theorem dX5_readTrail_118 : decode cX5_readTrail 118 = .ok (.iload_n 1, 1) := by decide +kernel
theorem dX5_readTrail_119 : decode cX5_readTrail 119 = .ok (.iconst 1, 1) := by decide +kernel
theorem dX5_readTrail_120 : decode cX5_readTrail 120 = .ok (.iload 4, 2) := by decide +kernel
theorem dX5_readTrail_122 : decode cX5_readTrail 122 = .ok (.iadd, 1) := by decide +kernel
theorem dX5_readTrail_123 : decode cX5_readTrail 123 = .ok (.iadd, 1) := by decide +kernel
theorem dX5_readTrail_124 : decode cX5_readTrail 124 = .ok (.istore_n 1, 1) := by decide +kernel
theorem dX5_readTrail_125 : decode cX5_readTrail 125 = .ok (.aload_n 0, 1) := by decide +kernel
theorem dX5_readTrail_126 : decode cX5_readTrail 126 = .ok (.dup, 1) := by decide +kernel
theorem dX5_readTrail_127 : decode cX5_readTrail 127 = .ok (.getfield 53, 3) := by decide +kernel
theorem dX5_readTrail_130 : decode cX5_readTrail 130 = .ok (.iconst 1, 1) := by decide +kernel
theorem dX5_readTrail_131 : decode cX5_readTrail 131 = .ok (.iadd, 1) := by decide +kernel
theorem dX5_readTrail_132 : decode cX5_readTrail 132 = .ok (.putfield 53, 3) := by decide +kernel
theorem dX5_readTrail_135 : decode cX5_readTrail 135 = .ok (.iinc 2 1, 3) := by decide +kernel
theorem dX5_readTrail_138 : decode cX5_readTrail 138 = .ok (.goto (-129), 3) := by decide +kernel
theorem dX5_readTrail_141 : decode cX5_readTrail 141 = .ok (.iconst 0, 1) := by decide +kernel
theorem dX5_readTrail_142 : decode cX5_readTrail 142 = .ok (.ireturn, 1) := by decide +kernel
theorem dX5_kindOfSign_0 : decode cX5_kindOfSign 0 = .ok (.iload_n 0, 1) := by decide +kernel
theorem dX5_kindOfSign_1 : decode cX5_kindOfSign 1 = .ok (.lookupswitch 51 #[(101, 45), (102, 43), (112, 49), (116, 47)], 43) := by decide +kernel
theorem dX5_kindOfSign_44 : decode cX5_kindOfSign 44 = .ok (.iconst 0, 1) := by decide +kernel
theorem dX5_kindOfSign_45 : decode cX5_kindOfSign 45 = .ok (.ireturn, 1) := by decide +kernel
theorem dX5_kindOfSign_46 : decode cX5_kindOfSign 46 = .ok (.iconst 1, 1) := by decide +kernel
theorem dX5_kindOfSign_47 : decode cX5_kindOfSign 47 = .ok (.ireturn, 1) := by decide +kernel
theorem dX5_kindOfSign_48 : decode cX5_kindOfSign 48 = .ok (.iconst 2, 1) := by decide +kernel
theorem dX5_kindOfSign_49 : decode cX5_kindOfSign 49 = .ok (.ireturn, 1) := by decide +kernel
theorem dX5_kindOfSign_50 : decode cX5_kindOfSign 50 = .ok (.iconst 3, 1) := by decide +kernel
theorem dX5_kindOfSign_51 : decode cX5_kindOfSign 51 = .ok (.ireturn, 1) := by decide +kernel
theorem dX5_kindOfSign_52 : decode cX5_kindOfSign 52 = .ok (.iconst (-1), 1) := by decide +kernel
theorem dX5_kindOfSign_53 : decode cX5_kindOfSign 53 = .ok (.ireturn, 1) := by decide +kernel
theorem dX5_digitsOf_0 : decode cX5_digitsOf 0 = .ok (.iload_n 0, 1) := by decide +kernel
theorem dX5_digitsOf_1 : decode cX5_digitsOf 1 = .ok (.iconst 2, 1) := by decide +kernel
theorem dX5_digitsOf_2 : decode cX5_digitsOf 2 = .ok (.if_icmp .ne 5, 3) := by decide +kernel
theorem dX5_digitsOf_5 : decode cX5_digitsOf 5 = .ok (.iconst 1, 1) := by decide +kernel
theorem dX5_digitsOf_6 : decode cX5_digitsOf 6 = .ok (.ireturn, 1) := by decide +kernel
theorem dX5_digitsOf_7 : decode cX5_digitsOf 7 = .ok (.iload_n 0, 1) := by decide +kernel
theorem dX5_digitsOf_8 : decode cX5_digitsOf 8 = .ok (.iconst 1, 1) := by decide +kernel
theorem dX5_digitsOf_9 : decode cX5_digitsOf 9 = .ok (.if_icmp .ne 7, 3) := by decide +kernel
theorem dX5_digitsOf_12 : decode cX5_digitsOf 12 = .ok (.iconst 3, 1) := by decide +kernel
theorem dX5_digitsOf_13 : decode cX5_digitsOf 13 = .ok (.goto 4, 3) := by decide +kernel
theorem dX5_digitsOf_16 : decode cX5_digitsOf 16 = .ok (.iconst 2, 1) := by decide +kernel
theorem dX5_digitsOf_17 : decode cX5_digitsOf 17 = .ok (.ireturn, 1) := by decide +kernel
theorem dX6_init_0 : decode cX6_init 0 = .ok (.aload_n 0, 1) := by decide +kernel
theorem dX6_init_1 : decode cX6_init 1 = .ok (.invokespecial 3, 3) := by decide +kernel
theorem dX6_init_4 : decode cX6_init 4 = .ok (.aload_n 0, 1) := by decide +kernel
theorem dX6_init_5 : decode cX6_init 5 = .ok (.new 9, 3) := by decide +kernel
theorem dX6_init_8 : decode cX6_init 8 = .ok (.dup, 1) := by decide +kernel
theorem dX6_init_9 : decode cX6_init 9 = .ok (.invokespecial 11, 3) := by decide +kernel
theorem dX6_init_12 : decode cX6_init 12 = .ok (.putfield 12, 3) := by decide +kernel
theorem dX6_init_15 : decode cX6_init 15 = .ok (.aload_n 0, 1) := by decide +kernel
theorem dX6_init_16 : decode cX6_init 16 = .ok (.new 9, 3) := by decide +kernel
theorem dX6_init_19 : decode cX6_init 19 = .ok (.dup, 1) := by decide +kernel
theorem dX6_init_20 : decode cX6_init 20 = .ok (.invokespecial 11, 3) := by decide +kernel
theorem dX6_init_23 : decode cX6_init 23 = .ok (.putfield 18, 3) := by decide +kernel
theorem dX6_init_26 : decode cX6_init 26 = .ok (.aload_n 0, 1) := by decide +kernel
theorem dX6_init_27 : decode cX6_init 27 = .ok (.new 21, 3) := by decide +kernel
theorem dX6_init_30 : decode cX6_init 30 = .ok (.dup, 1) := by decide +kernel
theorem dX6_init_31 : decode cX6_init 31 = .ok (.invokespecial 23, 3) := by decide +kernel
theorem dX6_init_34 : decode cX6_init 34 = .ok (.putfield 24, 3) := by decide +kernel
theorem dX6_init_37 : decode cX6_init 37 = .ok (.aload_n 0, 1) := by decide +kernel
theorem dX6_init_38 : decode cX6_init 38 = .ok (.iconst 4, 1) := by decide +kernel
theorem dX6_init_39 : decode cX6_init 39 = .ok (.newarray .int, 2) := by decide +kernel
theorem dX6_init_41 : decode cX6_init 41 = .ok (.putfield 28, 3) := by decide +kernel
theorem dX6_init_44 : decode cX6_init 44 = .ok (.aload_n 0, 1) := by decide +kernel
theorem dX6_init_45 : decode cX6_init 45 = .ok (.aload_n 1, 1) := by decide +kernel
theorem dX6_init_46 : decode cX6_init 46 = .ok (.putfield 32, 3) := by decide +kernel
theorem dX6_init_49 : decode cX6_init 49 = .ok (.aload_n 0, 1) := by decide +kernel
theorem dX6_init_50 : decode cX6_init 50 = .ok (.aload_n 2, 1) := by decide +kernel
theorem dX6_init_51 : decode cX6_init 51 = .ok (.putfield 36, 3) := by decide +kernel
theorem dX6_init_54 : decode cX6_init 54 = .ok (.return_, 1) := by decide +kernel
theorem dX6_reach_0 : decode cX6_reach 0 = .ok (.aload_n 0, 1) := by decide +kernel
theorem dX6_reach_1 : decode cX6_reach 1 = .ok (.getfield 36, 3) := by decide +kernel
theorem dX6_reach_4 : decode cX6_reach 4 = .ok (.aload_n 1, 1) := by decide +kernel
theorem dX6_reach_5 : decode cX6_reach 5 = .ok (.invokevirtual 40, 3) := by decide +kernel
theorem dX6_reach_8 : decode cX6_reach 8 = .ok (.aload_n 0, 1) := by decide +kernel
theorem dX6_reach_9 : decode cX6_reach 9 = .ok (.getfield 24, 3) := by decide +kernel
theorem dX6_reach_12 : decode cX6_reach 12 = .ok (.iconst 0, 1) := by decide +kernel
theorem dX6_reach_13 : decode cX6_reach 13 = .ok (.putfield 46, 3) := by decide +kernel
theorem dX6_reach_16 : decode cX6_reach 16 = .ok (.aload_n 0, 1) := by decide +kernel
theorem dX6_reach_17 : decode cX6_reach 17 = .ok (.getfield 28, 3) := by decide +kernel
theorem dX6_reach_20 : decode cX6_reach 20 = .ok (.iconst 0, 1) := by decide +kernel
theorem dX6_reach_21 : decode cX6_reach 21 = .ok (.invokestatic 50, 3) := by decide +kernel
theorem dX6_reach_24 : decode cX6_reach 24 = .ok (.iconst 0, 1) := by decide +kernel
theorem dX6_reach_25 : decode cX6_reach 25 = .ok (.istore_n 2, 1) := by decide +kernel
theorem dX6_reach_26 : decode cX6_reach 26 = .ok (.iload_n 2, 1) := by decide +kernel
theorem dX6_reach_27 : decode cX6_reach 27 = .ok (.sipush 200, 3) := by decide +kernel
theorem dX6_reach_30 : decode cX6_reach 30 = .ok (.if_icmp .ge 75, 3) := by decide +kernel
theorem dX6_reach_33 : decode cX6_reach 33 = .ok (.aload_n 0, 1) := by decide +kernel
theorem dX6_reach_34 : decode cX6_reach 34 = .ok (.getfield 32, 3) := by decide +kernel
theorem dX6_reach_37 : decode cX6_reach 37 = .ok (.aload_n 1, 1) := by decide +kernel
theorem dX6_reach_38 : decode cX6_reach 38 = .ok (.iload_n 2, 1) := by decide +kernel
theorem dX6_reach_39 : decode cX6_reach 39 = .ok (.invokevirtual 56, 3) := by decide +kernel
theorem dX6_reach_42 : decode cX6_reach 42 = .ok (.ifCond .ge 6, 3) := by decide +kernel
theorem dX6_reach_45 : decode cX6_reach 45 = .ok (.goto 54, 3) := by decide +kernel
theorem dX6_reach_48 : decode cX6_reach 48 = .ok (.aload_n 0, 1) := by decide +kernel
theorem dX6_reach_49 : decode cX6_reach 49 = .ok (.getfield 28, 3) := by decide +kernel
theorem dX6_reach_52 : decode cX6_reach 52 = .ok (.iload_n 2, 1) := by decide +kernel
theorem dX6_reach_53 : decode cX6_reach 53 = .ok (.invokestatic 62, 3) := by decide +kernel
theorem dX6_reach_56 : decode cX6_reach 56 = .ok (.dup2, 1) := by decide +kernel
theorem dX6_reach_57 : decode cX6_reach 57 = .ok (.iaload, 1) := by decide +kernel
theorem dX6_reach_58 : decode cX6_reach 58 = .ok (.iconst 1, 1) := by decide +kernel
theorem dX6_reach_59 : decode cX6_reach 59 = .ok (.iadd, 1) := by decide +kernel
theorem dX6_reach_60 : decode cX6_reach 60 = .ok (.iastore, 1) := by decide +kernel
theorem dX6_reach_61 : decode cX6_reach 61 = .ok (.aload_n 0, 1) := by decide +kernel
theorem dX6_reach_62 : decode cX6_reach 62 = .ok (.getfield 32, 3) := by decide +kernel
theorem dX6_reach_65 : decode cX6_reach 65 = .ok (.aload_n 1, 1) := by decide +kernel
theorem dX6_reach_66 : decode cX6_reach 66 = .ok (.iload_n 2, 1) := by decide +kernel
theorem dX6_reach_67 : decode cX6_reach 67 = .ok (.invokevirtual 66, 3) := by decide +kernel
theorem dX6_reach_70 : decode cX6_reach 70 = .ok (.ifCond .eq 29, 3) := by decide +kernel
theorem dX6_reach_73 : decode cX6_reach 73 = .ok (.aload_n 0, 1) := by decide +kernel
theorem dX6_reach_74 : decode cX6_reach 74 = .ok (.getfield 32, 3) := by decide +kernel
theorem dX6_reach_77 : decode cX6_reach 77 = .ok (.aload_n 1, 1) := by decide +kernel
theorem dX6_reach_78 : decode cX6_reach 78 = .ok (.iload_n 2, 1) := by decide +kernel
theorem dX6_reach_79 : decode cX6_reach 79 = .ok (.aload_n 0, 1) := by decide +kernel
theorem dX6_reach_80 : decode cX6_reach 80 = .ok (.getfield 18, 3) := by decide +kernel
theorem dX6_reach_83 : decode cX6_reach 83 = .ok (.invokevirtual 70, 3) := by decide +kernel
theorem dX6_reach_86 : decode cX6_reach 86 = .ok (.aload_n 0, 1) := by decide +kernel
theorem dX6_reach_87 : decode cX6_reach 87 = .ok (.getfield 24, 3) := by decide +kernel
theorem dX6_reach_90 : decode cX6_reach 90 = .ok (.aload_n 0, 1) := by decide +kernel
theorem dX6_reach_91 : decode cX6_reach 91 = .ok (.getfield 18, 3) := by decide +kernel
theorem dX6_reach_94 : decode cX6_reach 94 = .ok (.iconst 1, 1) := by decide +kernel
theorem dX6_reach_95 : decode cX6_reach 95 = .ok (.invokevirtual 74, 3) := by decide +kernel
theorem dX6_reach_98 : decode cX6_reach 98 = .ok (.pop, 1) := by decide +kernel
theorem dX6_reach_99 : decode cX6_reach 99 = .ok (.iinc 2 1, 3) := by decide +kernel
theorem dX6_reach_102 : decode cX6_reach 102 = .ok (.goto (-76), 3) := by decide +kernel
theorem dX6_reach_105 : decode cX6_reach 105 = .ok (.aload_n 0, 1) := by decide +kernel
theorem dX6_reach_106 : decode cX6_reach 106 = .ok (.getfield 24, 3) := by decide +kernel
theorem dX6_reach_109 : decode cX6_reach 109 = .ok (.getfield 46, 3) := by decide +kernel
theorem dX6_reach_112 : decode cX6_reach 112 = .ok (.ireturn, 1) := by decide +kernel
theorem dX6_placeTo_0 : decode cX6_placeTo 0 = .ok (.aload_n 0, 1) := by decide +kernel
theorem dX6_placeTo_1 : decode cX6_placeTo 1 = .ok (.getfield 36, 3) := by decide +kernel
theorem dX6_placeTo_4 : decode cX6_placeTo 4 = .ok (.aload_n 1, 1) := by decide +kernel
theorem dX6_placeTo_5 : decode cX6_placeTo 5 = .ok (.invokevirtual 40, 3) := by decide +kernel
theorem dX6_placeTo_8 : decode cX6_placeTo 8 = .ok (.iconst 0, 1) := by decide +kernel
theorem dX6_placeTo_9 : decode cX6_placeTo 9 = .ok (.istore_n 3, 1) := by decide +kernel
theorem dX6_placeTo_10 : decode cX6_placeTo 10 = .ok (.iload_n 3, 1) := by decide +kernel
theorem dX6_placeTo_11 : decode cX6_placeTo 11 = .ok (.sipush 200, 3) := by decide +kernel
theorem dX6_placeTo_14 : decode cX6_placeTo 14 = .ok (.if_icmp .ge 60, 3) := by decide +kernel
theorem dX6_placeTo_17 : decode cX6_placeTo 17 = .ok (.aload_n 1, 1) := by decide +kernel
theorem dX6_placeTo_18 : decode cX6_placeTo 18 = .ok (.getfield 77, 3) := by decide +kernel
theorem dX6_placeTo_21 : decode cX6_placeTo 21 = .ok (.iload_n 3, 1) := by decide +kernel
theorem dX6_placeTo_22 : decode cX6_placeTo 22 = .ok (.invokestatic 80, 3) := by decide +kernel
theorem dX6_placeTo_25 : decode cX6_placeTo 25 = .ok (.iadd, 1) := by decide +kernel
theorem dX6_placeTo_26 : decode cX6_placeTo 26 = .ok (.aload_n 2, 1) := by decide +kernel
theorem dX6_placeTo_27 : decode cX6_placeTo 27 = .ok (.getfield 77, 3) := by decide +kernel
theorem dX6_placeTo_30 : decode cX6_placeTo 30 = .ok (.if_icmp .ne 38, 3) := by decide +kernel
theorem dX6_placeTo_33 : decode cX6_placeTo 33 = .ok (.aload_n 0, 1) := by decide +kernel
theorem dX6_placeTo_34 : decode cX6_placeTo 34 = .ok (.aload_n 1, 1) := by decide +kernel
theorem dX6_placeTo_35 : decode cX6_placeTo 35 = .ok (.iload_n 3, 1) := by decide +kernel
theorem dX6_placeTo_36 : decode cX6_placeTo 36 = .ok (.invokevirtual 83, 3) := by decide +kernel
theorem dX6_placeTo_39 : decode cX6_placeTo 39 = .ok (.ifCond .eq 29, 3) := by decide +kernel
theorem dX6_placeTo_42 : decode cX6_placeTo 42 = .ok (.aload_n 0, 1) := by decide +kernel
theorem dX6_placeTo_43 : decode cX6_placeTo 43 = .ok (.getfield 32, 3) := by decide +kernel
theorem dX6_placeTo_46 : decode cX6_placeTo 46 = .ok (.aload_n 1, 1) := by decide +kernel
theorem dX6_placeTo_47 : decode cX6_placeTo 47 = .ok (.iload_n 3, 1) := by decide +kernel
theorem dX6_placeTo_48 : decode cX6_placeTo 48 = .ok (.aload_n 0, 1) := by decide +kernel
theorem dX6_placeTo_49 : decode cX6_placeTo 49 = .ok (.getfield 18, 3) := by decide +kernel
theorem dX6_placeTo_52 : decode cX6_placeTo 52 = .ok (.invokevirtual 70, 3) := by decide +kernel
theorem dX6_placeTo_55 : decode cX6_placeTo 55 = .ok (.aload_n 0, 1) := by decide +kernel
theorem dX6_placeTo_56 : decode cX6_placeTo 56 = .ok (.getfield 18, 3) := by decide +kernel
theorem dX6_placeTo_59 : decode cX6_placeTo 59 = .ok (.aload_n 2, 1) := by decide +kernel
theorem dX6_placeTo_60 : decode cX6_placeTo 60 = .ok (.invokevirtual 86, 3) := by decide +kernel
theorem dX6_placeTo_63 : decode cX6_placeTo 63 = .ok (.ifCond .eq 5, 3) := by decide +kernel
theorem dX6_placeTo_66 : decode cX6_placeTo 66 = .ok (.iload_n 3, 1) := by decide +kernel
theorem dX6_placeTo_67 : decode cX6_placeTo 67 = .ok (.ireturn, 1) := by decide +kernel
theorem dX6_placeTo_68 : decode cX6_placeTo 68 = .ok (.iinc 3 1, 3) := by decide +kernel
theorem dX6_placeTo_71 : decode cX6_placeTo 71 = .ok (.goto (-61), 3) := by decide +kernel
theorem dX6_placeTo_74 : decode cX6_placeTo 74 = .ok (.iconst (-1), 1) := by decide +kernel
theorem dX6_placeTo_75 : decode cX6_placeTo 75 = .ok (.ireturn, 1) := by decide +kernel
theorem dX6_isNew_0 : decode cX6_isNew 0 = .ok (.aload_n 0, 1) := by decide +kernel
theorem dX6_isNew_1 : decode cX6_isNew 1 = .ok (.getfield 32, 3) := by decide +kernel
theorem dX6_isNew_4 : decode cX6_isNew 4 = .ok (.aload_n 1, 1) := by decide +kernel
theorem dX6_isNew_5 : decode cX6_isNew 5 = .ok (.iload_n 2, 1) := by decide +kernel
theorem dX6_isNew_6 : decode cX6_isNew 6 = .ok (.invokevirtual 56, 3) := by decide +kernel
theorem dX6_isNew_9 : decode cX6_isNew 9 = .ok (.ifCond .ne 19, 3) := by decide +kernel
theorem dX6_isNew_12 : decode cX6_isNew 12 = .ok (.aload_n 0, 1) := by decide +kernel
theorem dX6_isNew_13 : decode cX6_isNew 13 = .ok (.getfield 32, 3) := by decide +kernel
theorem dX6_isNew_16 : decode cX6_isNew 16 = .ok (.aload_n 1, 1) := by decide +kernel
theorem dX6_isNew_17 : decode cX6_isNew 17 = .ok (.iload_n 2, 1) := by decide +kernel
theorem dX6_isNew_18 : decode cX6_isNew 18 = .ok (.invokevirtual 66, 3) := by decide +kernel
theorem dX6_isNew_21 : decode cX6_isNew 21 = .ok (.ifCond .eq 7, 3) := by decide +kernel
theorem dX6_isNew_24 : decode cX6_isNew 24 = .ok (.iconst 1, 1) := by decide +kernel
theorem dX6_isNew_25 : decode cX6_isNew 25 = .ok (.goto 4, 3) := by decide +kernel
theorem dX6_isNew_28 : decode cX6_isNew 28 = .ok (.iconst 0, 1) := by decide +kernel
theorem dX6_isNew_29 : decode cX6_isNew 29 = .ok (.ireturn, 1) := by decide +kernel
theorem dX6_fewest_0 : decode cX6_fewest 0 = .ok (.aload_n 0, 1) := by decide +kernel
theorem dX6_fewest_1 : decode cX6_fewest 1 = .ok (.getfield 24, 3) := by decide +kernel
theorem dX6_fewest_4 : decode cX6_fewest 4 = .ok (.iconst 0, 1) := by decide +kernel
theorem dX6_fewest_5 : decode cX6_fewest 5 = .ok (.putfield 46, 3) := by decide +kernel
theorem dX6_fewest_8 : decode cX6_fewest 8 = .ok (.aload_n 0, 1) := by decide +kernel
theorem dX6_fewest_9 : decode cX6_fewest 9 = .ok (.getfield 24, 3) := by decide +kernel
theorem dX6_fewest_12 : decode cX6_fewest 12 = .ok (.aload_n 1, 1) := by decide +kernel
theorem dX6_fewest_13 : decode cX6_fewest 13 = .ok (.iconst 0, 1) := by decide +kernel
theorem dX6_fewest_14 : decode cX6_fewest 14 = .ok (.invokevirtual 74, 3) := by decide +kernel
theorem dX6_fewest_17 : decode cX6_fewest 17 = .ok (.pop, 1) := by decide +kernel
theorem dX6_fewest_18 : decode cX6_fewest 18 = .ok (.aload_n 1, 1) := by decide +kernel
theorem dX6_fewest_19 : decode cX6_fewest 19 = .ok (.aload_n 2, 1) := by decide +kernel
theorem dX6_fewest_20 : decode cX6_fewest 20 = .ok (.invokevirtual 86, 3) := by decide +kernel
theorem dX6_fewest_23 : decode cX6_fewest 23 = .ok (.ifCond .eq 5, 3) := by decide +kernel
theorem dX6_fewest_26 : decode cX6_fewest 26 = .ok (.iconst 0, 1) := by decide +kernel
theorem dX6_fewest_27 : decode cX6_fewest 27 = .ok (.ireturn, 1) := by decide +kernel
theorem dX6_fewest_28 : decode cX6_fewest 28 = .ok (.iconst 0, 1) := by decide +kernel
theorem dX6_fewest_29 : decode cX6_fewest 29 = .ok (.istore 5, 2) := by decide +kernel
theorem dX6_fewest_31 : decode cX6_fewest 31 = .ok (.iload 5, 2) := by decide +kernel
theorem dX6_fewest_33 : decode cX6_fewest 33 = .ok (.aload_n 0, 1) := by decide +kernel
theorem dX6_fewest_34 : decode cX6_fewest 34 = .ok (.getfield 24, 3) := by decide +kernel
theorem dX6_fewest_37 : decode cX6_fewest 37 = .ok (.getfield 46, 3) := by decide +kernel
theorem dX6_fewest_40 : decode cX6_fewest 40 = .ok (.if_icmp .ge 62, 3) := by decide +kernel
theorem dX6_fewest_43 : decode cX6_fewest 43 = .ok (.iload 5, 2) := by decide +kernel
theorem dX6_fewest_45 : decode cX6_fewest 45 = .ok (.iload_n 3, 1) := by decide +kernel
theorem dX6_fewest_46 : decode cX6_fewest 46 = .ok (.if_icmp .ge 56, 3) := by decide +kernel
theorem dX6_fewest_49 : decode cX6_fewest 49 = .ok (.aload_n 0, 1) := by decide +kernel
theorem dX6_fewest_50 : decode cX6_fewest 50 = .ok (.getfield 24, 3) := by decide +kernel
theorem dX6_fewest_53 : decode cX6_fewest 53 = .ok (.iload 5, 2) := by decide +kernel
theorem dX6_fewest_55 : decode cX6_fewest 55 = .ok (.aload_n 0, 1) := by decide +kernel
theorem dX6_fewest_56 : decode cX6_fewest 56 = .ok (.getfield 12, 3) := by decide +kernel
theorem dX6_fewest_59 : decode cX6_fewest 59 = .ok (.invokevirtual 90, 3) := by decide +kernel
theorem dX6_fewest_62 : decode cX6_fewest 62 = .ok (.aload_n 0, 1) := by decide +kernel
theorem dX6_fewest_63 : decode cX6_fewest 63 = .ok (.aload_n 0, 1) := by decide +kernel
theorem dX6_fewest_64 : decode cX6_fewest 64 = .ok (.getfield 24, 3) := by decide +kernel
theorem dX6_fewest_67 : decode cX6_fewest 67 = .ok (.iload 5, 2) := by decide +kernel
theorem dX6_fewest_69 : decode cX6_fewest 69 = .ok (.invokevirtual 94, 3) := by decide +kernel
theorem dX6_fewest_72 : decode cX6_fewest 72 = .ok (.iconst 1, 1) := by decide +kernel
theorem dX6_fewest_73 : decode cX6_fewest 73 = .ok (.iadd, 1) := by decide +kernel
theorem dX6_fewest_74 : decode cX6_fewest 74 = .ok (.aload_n 2, 1) := by decide +kernel
theorem dX6_fewest_75 : decode cX6_fewest 75 = .ok (.iload_n 3, 1) := by decide +kernel
theorem dX6_fewest_76 : decode cX6_fewest 76 = .ok (.iload 4, 2) := by decide +kernel
theorem dX6_fewest_78 : decode cX6_fewest 78 = .ok (.invokevirtual 97, 3) := by decide +kernel
theorem dX6_fewest_81 : decode cX6_fewest 81 = .ok (.ifCond .eq 15, 3) := by decide +kernel
theorem dX6_fewest_84 : decode cX6_fewest 84 = .ok (.aload_n 0, 1) := by decide +kernel
theorem dX6_fewest_85 : decode cX6_fewest 85 = .ok (.getfield 24, 3) := by decide +kernel
theorem dX6_fewest_88 : decode cX6_fewest 88 = .ok (.iload 5, 2) := by decide +kernel
theorem dX6_fewest_90 : decode cX6_fewest 90 = .ok (.invokevirtual 94, 3) := by decide +kernel
theorem dX6_fewest_93 : decode cX6_fewest 93 = .ok (.iconst 1, 1) := by decide +kernel
theorem dX6_fewest_94 : decode cX6_fewest 94 = .ok (.iadd, 1) := by decide +kernel
theorem dX6_fewest_95 : decode cX6_fewest 95 = .ok (.ireturn, 1) := by decide +kernel
theorem dX6_fewest_96 : decode cX6_fewest 96 = .ok (.iinc 5 1, 3) := by decide +kernel
theorem dX6_fewest_99 : decode cX6_fewest 99 = .ok (.goto (-68), 3) := by decide +kernel
theorem dX6_fewest_102 : decode cX6_fewest 102 = .ok (.iconst (-1), 1) := by decide +kernel
theorem dX6_fewest_103 : decode cX6_fewest 103 = .ok (.ireturn, 1) := by decide +kernel
theorem dX6_spread_0 : decode cX6_spread 0 = .ok (.aload_n 0, 1) := by decide +kernel
theorem dX6_spread_1 : decode cX6_spread 1 = .ok (.getfield 36, 3) := by decide +kernel
theorem dX6_spread_4 : decode cX6_spread 4 = .ok (.aload_n 0, 1) := by decide +kernel
theorem dX6_spread_5 : decode cX6_spread 5 = .ok (.getfield 12, 3) := by decide +kernel
theorem dX6_spread_8 : decode cX6_spread 8 = .ok (.invokevirtual 40, 3) := by decide +kernel
theorem dX6_spread_11 : decode cX6_spread 11 = .ok (.iconst 0, 1) := by decide +kernel
theorem dX6_spread_12 : decode cX6_spread 12 = .ok (.istore 5, 2) := by decide +kernel
theorem dX6_spread_14 : decode cX6_spread 14 = .ok (.iload 5, 2) := by decide +kernel
theorem dX6_spread_16 : decode cX6_spread 16 = .ok (.sipush 200, 3) := by decide +kernel
theorem dX6_spread_19 : decode cX6_spread 19 = .ok (.if_icmp .ge 96, 3) := by decide +kernel
theorem dX6_spread_22 : decode cX6_spread 22 = .ok (.aload_n 0, 1) := by decide +kernel
theorem dX6_spread_23 : decode cX6_spread 23 = .ok (.getfield 24, 3) := by decide +kernel
theorem dX6_spread_26 : decode cX6_spread 26 = .ok (.getfield 46, 3) := by decide +kernel
theorem dX6_spread_29 : decode cX6_spread 29 = .ok (.iload_n 3, 1) := by decide +kernel
theorem dX6_spread_30 : decode cX6_spread 30 = .ok (.if_icmp .ge 85, 3) := by decide +kernel
theorem dX6_spread_33 : decode cX6_spread 33 = .ok (.aload_n 0, 1) := by decide +kernel
theorem dX6_spread_34 : decode cX6_spread 34 = .ok (.getfield 12, 3) := by decide +kernel
theorem dX6_spread_37 : decode cX6_spread 37 = .ok (.getfield 77, 3) := by decide +kernel
theorem dX6_spread_40 : decode cX6_spread 40 = .ok (.iload 5, 2) := by decide +kernel
theorem dX6_spread_42 : decode cX6_spread 42 = .ok (.invokestatic 80, 3) := by decide +kernel
theorem dX6_spread_45 : decode cX6_spread 45 = .ok (.iadd, 1) := by decide +kernel
theorem dX6_spread_46 : decode cX6_spread 46 = .ok (.iload 4, 2) := by decide +kernel
theorem dX6_spread_48 : decode cX6_spread 48 = .ok (.if_icmp .gt 61, 3) := by decide +kernel
theorem dX6_spread_51 : decode cX6_spread 51 = .ok (.aload_n 0, 1) := by decide +kernel
theorem dX6_spread_52 : decode cX6_spread 52 = .ok (.aload_n 0, 1) := by decide +kernel
theorem dX6_spread_53 : decode cX6_spread 53 = .ok (.getfield 12, 3) := by decide +kernel
theorem dX6_spread_56 : decode cX6_spread 56 = .ok (.iload 5, 2) := by decide +kernel
theorem dX6_spread_58 : decode cX6_spread 58 = .ok (.invokevirtual 83, 3) := by decide +kernel
theorem dX6_spread_61 : decode cX6_spread 61 = .ok (.ifCond .eq 48, 3) := by decide +kernel
theorem dX6_spread_64 : decode cX6_spread 64 = .ok (.aload_n 0, 1) := by decide +kernel
theorem dX6_spread_65 : decode cX6_spread 65 = .ok (.getfield 32, 3) := by decide +kernel
theorem dX6_spread_68 : decode cX6_spread 68 = .ok (.aload_n 0, 1) := by decide +kernel
theorem dX6_spread_69 : decode cX6_spread 69 = .ok (.getfield 12, 3) := by decide +kernel
theorem dX6_spread_72 : decode cX6_spread 72 = .ok (.iload 5, 2) := by decide +kernel
theorem dX6_spread_74 : decode cX6_spread 74 = .ok (.aload_n 0, 1) := by decide +kernel
theorem dX6_spread_75 : decode cX6_spread 75 = .ok (.getfield 18, 3) := by decide +kernel
theorem dX6_spread_78 : decode cX6_spread 78 = .ok (.invokevirtual 70, 3) := by decide +kernel
theorem dX6_spread_81 : decode cX6_spread 81 = .ok (.aload_n 0, 1) := by decide +kernel
theorem dX6_spread_82 : decode cX6_spread 82 = .ok (.getfield 24, 3) := by decide +kernel
theorem dX6_spread_85 : decode cX6_spread 85 = .ok (.aload_n 0, 1) := by decide +kernel
theorem dX6_spread_86 : decode cX6_spread 86 = .ok (.getfield 18, 3) := by decide +kernel
theorem dX6_spread_89 : decode cX6_spread 89 = .ok (.iload_n 1, 1) := by decide +kernel
theorem dX6_spread_90 : decode cX6_spread 90 = .ok (.invokevirtual 74, 3) := by decide +kernel
theorem dX6_spread_93 : decode cX6_spread 93 = .ok (.ifCond .eq 16, 3) := by decide +kernel
theorem dX6_spread_96 : decode cX6_spread 96 = .ok (.aload_n 0, 1) := by decide +kernel
theorem dX6_spread_97 : decode cX6_spread 97 = .ok (.getfield 18, 3) := by decide +kernel
theorem dX6_spread_100 : decode cX6_spread 100 = .ok (.aload_n 2, 1) := by decide +kernel
theorem dX6_spread_101 : decode cX6_spread 101 = .ok (.invokevirtual 86, 3) := by decide +kernel
theorem dX6_spread_104 : decode cX6_spread 104 = .ok (.ifCond .eq 5, 3) := by decide +kernel
theorem dX6_spread_107 : decode cX6_spread 107 = .ok (.iconst 1, 1) := by decide +kernel
theorem dX6_spread_108 : decode cX6_spread 108 = .ok (.ireturn, 1) := by decide +kernel
theorem dX6_spread_109 : decode cX6_spread 109 = .ok (.iinc 5 1, 3) := by decide +kernel
theorem dX6_spread_112 : decode cX6_spread 112 = .ok (.goto (-98), 3) := by decide +kernel
theorem dX6_spread_115 : decode cX6_spread 115 = .ok (.iconst 0, 1) := by decide +kernel
theorem dX6_spread_116 : decode cX6_spread 116 = .ok (.ireturn, 1) := by decide +kernel
theorem dX7_init_0 : decode cX7_init 0 = .ok (.aload_n 0, 1) := by decide +kernel
theorem dX7_init_1 : decode cX7_init 1 = .ok (.invokespecial 3, 3) := by decide +kernel
theorem dX7_init_4 : decode cX7_init 4 = .ok (.aload_n 0, 1) := by decide +kernel
theorem dX7_init_5 : decode cX7_init 5 = .ok (.sipush 128, 3) := by decide +kernel
theorem dX7_init_8 : decode cX7_init 8 = .ok (.newarray .int, 2) := by decide +kernel
theorem dX7_init_10 : decode cX7_init 10 = .ok (.putfield 11, 3) := by decide +kernel
theorem dX7_init_13 : decode cX7_init 13 = .ok (.aload_n 0, 1) := by decide +kernel
theorem dX7_init_14 : decode cX7_init 14 = .ok (.sipush 128, 3) := by decide +kernel
theorem dX7_init_17 : decode cX7_init 17 = .ok (.newarray .int, 2) := by decide +kernel
theorem dX7_init_19 : decode cX7_init 19 = .ok (.putfield 15, 3) := by decide +kernel
theorem dX7_init_22 : decode cX7_init 22 = .ok (.aload_n 0, 1) := by decide +kernel
theorem dX7_init_23 : decode cX7_init 23 = .ok (.sipush 128, 3) := by decide +kernel
theorem dX7_init_26 : decode cX7_init 26 = .ok (.newarray .int, 2) := by decide +kernel
theorem dX7_init_28 : decode cX7_init 28 = .ok (.putfield 18, 3) := by decide +kernel
theorem dX7_init_31 : decode cX7_init 31 = .ok (.aload_n 0, 1) := by decide +kernel
theorem dX7_init_32 : decode cX7_init 32 = .ok (.sipush 128, 3) := by decide +kernel
theorem dX7_init_35 : decode cX7_init 35 = .ok (.newarray .boolean, 2) := by decide +kernel
theorem dX7_init_37 : decode cX7_init 37 = .ok (.putfield 21, 3) := by decide +kernel
theorem dX7_init_40 : decode cX7_init 40 = .ok (.aload_n 0, 1) := by decide +kernel
theorem dX7_init_41 : decode cX7_init 41 = .ok (.bipush 32, 2) := by decide +kernel
theorem dX7_init_43 : decode cX7_init 43 = .ok (.newarray .int, 2) := by decide +kernel
theorem dX7_init_45 : decode cX7_init 45 = .ok (.putfield 25, 3) := by decide +kernel
theorem dX7_init_48 : decode cX7_init 48 = .ok (.aload_n 0, 1) := by decide +kernel
theorem dX7_init_49 : decode cX7_init 49 = .ok (.bipush 32, 2) := by decide +kernel
theorem dX7_init_51 : decode cX7_init 51 = .ok (.newarray .int, 2) := by decide +kernel
theorem dX7_init_53 : decode cX7_init 53 = .ok (.putfield 28, 3) := by decide +kernel
theorem dX7_init_56 : decode cX7_init 56 = .ok (.aload_n 0, 1) := by decide +kernel
theorem dX7_init_57 : decode cX7_init 57 = .ok (.bipush 32, 2) := by decide +kernel
theorem dX7_init_59 : decode cX7_init 59 = .ok (.newarray .int, 2) := by decide +kernel
theorem dX7_init_61 : decode cX7_init 61 = .ok (.putfield 31, 3) := by decide +kernel
theorem dX7_init_64 : decode cX7_init 64 = .ok (.aload_n 0, 1) := by decide +kernel
theorem dX7_init_65 : decode cX7_init 65 = .ok (.bipush 32, 2) := by decide +kernel
theorem dX7_init_67 : decode cX7_init 67 = .ok (.newarray .int, 2) := by decide +kernel
theorem dX7_init_69 : decode cX7_init 69 = .ok (.putfield 34, 3) := by decide +kernel
theorem dX7_init_72 : decode cX7_init 72 = .ok (.aload_n 0, 1) := by decide +kernel
theorem dX7_init_73 : decode cX7_init 73 = .ok (.sipush 128, 3) := by decide +kernel
theorem dX7_init_76 : decode cX7_init 76 = .ok (.newarray .int, 2) := by decide +kernel
theorem dX7_init_78 : decode cX7_init 78 = .ok (.putfield 37, 3) := by decide +kernel
theorem dX7_init_81 : decode cX7_init 81 = .ok (.return_, 1) := by decide +kernel
theorem dX7_read_0 : decode cX7_read 0 = .ok (.aload_n 0, 1) := by decide +kernel
theorem dX7_read_1 : decode cX7_read 1 = .ok (.invokevirtual 40, 3) := by decide +kernel
theorem dX7_read_4 : decode cX7_read 4 = .ok (.iconst 0, 1) := by decide +kernel
theorem dX7_read_5 : decode cX7_read 5 = .ok (.istore_n 2, 1) := by decide +kernel
theorem dX7_read_6 : decode cX7_read 6 = .ok (.iload_n 2, 1) := by decide +kernel
theorem dX7_read_7 : decode cX7_read 7 = .ok (.bipush 16, 2) := by decide +kernel
theorem dX7_read_9 : decode cX7_read 9 = .ok (.aload_n 1, 1) := by decide +kernel
theorem dX7_read_10 : decode cX7_read 10 = .ok (.getfield 43, 3) := by decide +kernel
theorem dX7_read_13 : decode cX7_read 13 = .ok (.imul, 1) := by decide +kernel
theorem dX7_read_14 : decode cX7_read 14 = .ok (.if_icmp .ge 35, 3) := by decide +kernel
theorem dX7_read_17 : decode cX7_read 17 = .ok (.aload_n 0, 1) := by decide +kernel
theorem dX7_read_18 : decode cX7_read 18 = .ok (.getfield 11, 3) := by decide +kernel
theorem dX7_read_21 : decode cX7_read 21 = .ok (.iload_n 2, 1) := by decide +kernel
theorem dX7_read_22 : decode cX7_read 22 = .ok (.iaload, 1) := by decide +kernel
theorem dX7_read_23 : decode cX7_read 23 = .ok (.ifCond .ge 20, 3) := by decide +kernel
theorem dX7_read_26 : decode cX7_read 26 = .ok (.iload_n 2, 1) := by decide +kernel
theorem dX7_read_27 : decode cX7_read 27 = .ok (.iconst 2, 1) := by decide +kernel
theorem dX7_read_28 : decode cX7_read 28 = .ok (.ishr, 1) := by decide +kernel
theorem dX7_read_29 : decode cX7_read 29 = .ok (.iconst 3, 1) := by decide +kernel
theorem dX7_read_30 : decode cX7_read 30 = .ok (.iand, 1) := by decide +kernel
theorem dX7_read_31 : decode cX7_read 31 = .ok (.iload_n 2, 1) := by decide +kernel
theorem dX7_read_32 : decode cX7_read 32 = .ok (.iconst 3, 1) := by decide +kernel
theorem dX7_read_33 : decode cX7_read 33 = .ok (.iand, 1) := by decide +kernel
theorem dX7_read_34 : decode cX7_read 34 = .ok (.if_icmp .eq 9, 3) := by decide +kernel
theorem dX7_read_37 : decode cX7_read 37 = .ok (.aload_n 0, 1) := by decide +kernel
theorem dX7_read_38 : decode cX7_read 38 = .ok (.aload_n 1, 1) := by decide +kernel
theorem dX7_read_39 : decode cX7_read 39 = .ok (.iload_n 2, 1) := by decide +kernel
theorem dX7_read_40 : decode cX7_read 40 = .ok (.invokevirtual 49, 3) := by decide +kernel
theorem dX7_read_43 : decode cX7_read 43 = .ok (.iinc 2 1, 3) := by decide +kernel
theorem dX7_read_46 : decode cX7_read 46 = .ok (.goto (-40), 3) := by decide +kernel
theorem dX7_read_49 : decode cX7_read 49 = .ok (.iconst 0, 1) := by decide +kernel
theorem dX7_read_50 : decode cX7_read 50 = .ok (.istore_n 2, 1) := by decide +kernel
theorem dX7_read_51 : decode cX7_read 51 = .ok (.iload_n 2, 1) := by decide +kernel
theorem dX7_read_52 : decode cX7_read 52 = .ok (.iconst 4, 1) := by decide +kernel
theorem dX7_read_53 : decode cX7_read 53 = .ok (.aload_n 1, 1) := by decide +kernel
theorem dX7_read_54 : decode cX7_read 54 = .ok (.getfield 43, 3) := by decide +kernel
theorem dX7_read_57 : decode cX7_read 57 = .ok (.imul, 1) := by decide +kernel
theorem dX7_read_58 : decode cX7_read 58 = .ok (.if_icmp .ge 24, 3) := by decide +kernel
theorem dX7_read_61 : decode cX7_read 61 = .ok (.aload_n 0, 1) := by decide +kernel
theorem dX7_read_62 : decode cX7_read 62 = .ok (.getfield 25, 3) := by decide +kernel
theorem dX7_read_65 : decode cX7_read 65 = .ok (.iload_n 2, 1) := by decide +kernel
theorem dX7_read_66 : decode cX7_read 66 = .ok (.iaload, 1) := by decide +kernel
theorem dX7_read_67 : decode cX7_read 67 = .ok (.ifCond .ge 9, 3) := by decide +kernel
theorem dX7_read_70 : decode cX7_read 70 = .ok (.aload_n 0, 1) := by decide +kernel
theorem dX7_read_71 : decode cX7_read 71 = .ok (.aload_n 1, 1) := by decide +kernel
theorem dX7_read_72 : decode cX7_read 72 = .ok (.iload_n 2, 1) := by decide +kernel
theorem dX7_read_73 : decode cX7_read 73 = .ok (.invokevirtual 53, 3) := by decide +kernel
theorem dX7_read_76 : decode cX7_read 76 = .ok (.iinc 2 1, 3) := by decide +kernel
theorem dX7_read_79 : decode cX7_read 79 = .ok (.goto (-28), 3) := by decide +kernel
theorem dX7_read_82 : decode cX7_read 82 = .ok (.aload_n 0, 1) := by decide +kernel
theorem dX7_read_83 : decode cX7_read 83 = .ok (.aload_n 1, 1) := by decide +kernel
theorem dX7_read_84 : decode cX7_read 84 = .ok (.invokevirtual 56, 3) := by decide +kernel
theorem dX7_read_87 : decode cX7_read 87 = .ok (.aload_n 0, 1) := by decide +kernel
theorem dX7_read_88 : decode cX7_read 88 = .ok (.aload_n 1, 1) := by decide +kernel
theorem dX7_read_89 : decode cX7_read 89 = .ok (.invokevirtual 60, 3) := by decide +kernel
theorem dX7_read_92 : decode cX7_read 92 = .ok (.return_, 1) := by decide +kernel
theorem dX7_clear_0 : decode cX7_clear 0 = .ok (.aload_n 0, 1) := by decide +kernel
theorem dX7_clear_1 : decode cX7_clear 1 = .ok (.getfield 11, 3) := by decide +kernel
theorem dX7_clear_4 : decode cX7_clear 4 = .ok (.iconst (-1), 1) := by decide +kernel
theorem dX7_clear_5 : decode cX7_clear 5 = .ok (.invokestatic 63, 3) := by decide +kernel
theorem dX7_clear_8 : decode cX7_clear 8 = .ok (.aload_n 0, 1) := by decide +kernel
theorem dX7_clear_9 : decode cX7_clear 9 = .ok (.getfield 15, 3) := by decide +kernel
theorem dX7_clear_12 : decode cX7_clear 12 = .ok (.iconst (-1), 1) := by decide +kernel
theorem dX7_clear_13 : decode cX7_clear 13 = .ok (.invokestatic 63, 3) := by decide +kernel
theorem dX7_clear_16 : decode cX7_clear 16 = .ok (.aload_n 0, 1) := by decide +kernel
theorem dX7_clear_17 : decode cX7_clear 17 = .ok (.getfield 18, 3) := by decide +kernel
theorem dX7_clear_20 : decode cX7_clear 20 = .ok (.iconst 0, 1) := by decide +kernel
theorem dX7_clear_21 : decode cX7_clear 21 = .ok (.invokestatic 63, 3) := by decide +kernel
theorem dX7_clear_24 : decode cX7_clear 24 = .ok (.aload_n 0, 1) := by decide +kernel
theorem dX7_clear_25 : decode cX7_clear 25 = .ok (.getfield 25, 3) := by decide +kernel
theorem dX7_clear_28 : decode cX7_clear 28 = .ok (.iconst (-1), 1) := by decide +kernel
theorem dX7_clear_29 : decode cX7_clear 29 = .ok (.invokestatic 63, 3) := by decide +kernel
theorem dX7_clear_32 : decode cX7_clear 32 = .ok (.aload_n 0, 1) := by decide +kernel
theorem dX7_clear_33 : decode cX7_clear 33 = .ok (.getfield 28, 3) := by decide +kernel
theorem dX7_clear_36 : decode cX7_clear 36 = .ok (.iconst 0, 1) := by decide +kernel
theorem dX7_clear_37 : decode cX7_clear 37 = .ok (.invokestatic 63, 3) := by decide +kernel
theorem dX7_clear_40 : decode cX7_clear 40 = .ok (.aload_n 0, 1) := by decide +kernel
theorem dX7_clear_41 : decode cX7_clear 41 = .ok (.getfield 31, 3) := by decide +kernel
theorem dX7_clear_44 : decode cX7_clear 44 = .ok (.iconst 0, 1) := by decide +kernel
theorem dX7_clear_45 : decode cX7_clear 45 = .ok (.invokestatic 63, 3) := by decide +kernel
theorem dX7_clear_48 : decode cX7_clear 48 = .ok (.aload_n 0, 1) := by decide +kernel
theorem dX7_clear_49 : decode cX7_clear 49 = .ok (.getfield 34, 3) := by decide +kernel
theorem dX7_clear_52 : decode cX7_clear 52 = .ok (.iconst 0, 1) := by decide +kernel
theorem dX7_clear_53 : decode cX7_clear 53 = .ok (.invokestatic 63, 3) := by decide +kernel
theorem dX7_clear_56 : decode cX7_clear 56 = .ok (.iconst 0, 1) := by decide +kernel
theorem dX7_clear_57 : decode cX7_clear 57 = .ok (.istore_n 1, 1) := by decide +kernel
theorem dX7_clear_58 : decode cX7_clear 58 = .ok (.iload_n 1, 1) := by decide +kernel
theorem dX7_clear_59 : decode cX7_clear 59 = .ok (.sipush 128, 3) := by decide +kernel
theorem dX7_clear_62 : decode cX7_clear 62 = .ok (.if_icmp .ge 16, 3) := by decide +kernel
theorem dX7_clear_65 : decode cX7_clear 65 = .ok (.aload_n 0, 1) := by decide +kernel
theorem dX7_clear_66 : decode cX7_clear 66 = .ok (.getfield 21, 3) := by decide +kernel
theorem dX7_clear_69 : decode cX7_clear 69 = .ok (.iload_n 1, 1) := by decide +kernel
theorem dX7_clear_70 : decode cX7_clear 70 = .ok (.iconst 0, 1) := by decide +kernel
theorem dX7_clear_71 : decode cX7_clear 71 = .ok (.bastore, 1) := by decide +kernel
theorem dX7_clear_72 : decode cX7_clear 72 = .ok (.iinc 1 1, 3) := by decide +kernel
theorem dX7_clear_75 : decode cX7_clear 75 = .ok (.goto (-17), 3) := by decide +kernel
theorem dX7_clear_78 : decode cX7_clear 78 = .ok (.aload_n 0, 1) := by decide +kernel
theorem dX7_clear_79 : decode cX7_clear 79 = .ok (.iconst 0, 1) := by decide +kernel
theorem dX7_clear_80 : decode cX7_clear 80 = .ok (.putfield 69, 3) := by decide +kernel
theorem dX7_clear_83 : decode cX7_clear 83 = .ok (.aload_n 0, 1) := by decide +kernel
theorem dX7_clear_84 : decode cX7_clear 84 = .ok (.iconst 0, 1) := by decide +kernel
theorem dX7_clear_85 : decode cX7_clear 85 = .ok (.putfield 72, 3) := by decide +kernel
theorem dX7_clear_88 : decode cX7_clear 88 = .ok (.return_, 1) := by decide +kernel
theorem dX7_floodEnds_0 : decode cX7_floodEnds 0 = .ok (.aload_n 0, 1) := by decide +kernel
theorem dX7_floodEnds_1 : decode cX7_floodEnds 1 = .ok (.getfield 11, 3) := by decide +kernel
theorem dX7_floodEnds_4 : decode cX7_floodEnds 4 = .ok (.iload_n 2, 1) := by decide +kernel
theorem dX7_floodEnds_5 : decode cX7_floodEnds 5 = .ok (.iload_n 2, 1) := by decide +kernel
theorem dX7_floodEnds_6 : decode cX7_floodEnds 6 = .ok (.iastore, 1) := by decide +kernel
theorem dX7_floodEnds_7 : decode cX7_floodEnds 7 = .ok (.aload_n 0, 1) := by decide +kernel
theorem dX7_floodEnds_8 : decode cX7_floodEnds 8 = .ok (.getfield 37, 3) := by decide +kernel
theorem dX7_floodEnds_11 : decode cX7_floodEnds 11 = .ok (.iconst 0, 1) := by decide +kernel
theorem dX7_floodEnds_12 : decode cX7_floodEnds 12 = .ok (.iload_n 2, 1) := by decide +kernel
theorem dX7_floodEnds_13 : decode cX7_floodEnds 13 = .ok (.iastore, 1) := by decide +kernel
theorem dX7_floodEnds_14 : decode cX7_floodEnds 14 = .ok (.iconst 1, 1) := by decide +kernel
theorem dX7_floodEnds_15 : decode cX7_floodEnds 15 = .ok (.istore_n 3, 1) := by decide +kernel
theorem dX7_floodEnds_16 : decode cX7_floodEnds 16 = .ok (.iconst 0, 1) := by decide +kernel
theorem dX7_floodEnds_17 : decode cX7_floodEnds 17 = .ok (.istore 4, 2) := by decide +kernel
theorem dX7_floodEnds_19 : decode cX7_floodEnds 19 = .ok (.iload 4, 2) := by decide +kernel
theorem dX7_floodEnds_21 : decode cX7_floodEnds 21 = .ok (.iload_n 3, 1) := by decide +kernel
theorem dX7_floodEnds_22 : decode cX7_floodEnds 22 = .ok (.if_icmp .ge 172, 3) := by decide +kernel
