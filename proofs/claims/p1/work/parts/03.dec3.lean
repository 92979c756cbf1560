theorem dX12_isRound_7 : decode cX12_isRound 7 = .ok (.if_icmp .ne 16, 3) := by decide +kernel
theorem dX12_isRound_10 : decode cX12_isRound 10 = .ok (.aload_n 0, 1) := by decide +kernel
theorem dX12_isRound_11 : decode cX12_isRound 11 = .ok (.aload_n 1, 1) := by decide +kernel
theorem dX12_isRound_12 : decode cX12_isRound 12 = .ok (.iload_n 2, 1) := by decide +kernel
theorem dX12_isRound_13 : decode cX12_isRound 13 = .ok (.invokevirtual 294, 3) := by decide +kernel
theorem dX12_isRound_16 : decode cX12_isRound 16 = .ok (.ifCond .ne 7, 3) := by decide +kernel
theorem dX12_isRound_19 : decode cX12_isRound 19 = .ok (.iconst 1, 1) := by decide +kernel
theorem dX12_isRound_20 : decode cX12_isRound 20 = .ok (.goto 4, 3) := by decide +kernel
theorem dX12_isRound_23 : decode cX12_isRound 23 = .ok (.iconst 0, 1) := by decide +kernel
theorem dX12_isRound_24 : decode cX12_isRound 24 = .ok (.ireturn, 1) := by decide +kernel
theorem dX12_point_0 : decode cX12_point 0 = .ok (.aload_n 0, 1) := by decide +kernel
theorem dX12_point_1 : decode cX12_point 1 = .ok (.iconst 0, 1) := by decide +kernel
theorem dX12_point_2 : decode cX12_point 2 = .ok (.putfield 128, 3) := by decide +kernel
theorem dX12_point_5 : decode cX12_point 5 = .ok (.aload_n 0, 1) := by decide +kernel
theorem dX12_point_6 : decode cX12_point 6 = .ok (.iload_n 1, 1) := by decide +kernel
theorem dX12_point_7 : decode cX12_point 7 = .ok (.invokevirtual 261, 3) := by decide +kernel
theorem dX12_point_10 : decode cX12_point 10 = .ok (.ifCond .eq 12, 3) := by decide +kernel
theorem dX12_point_13 : decode cX12_point 13 = .ok (.iload_n 2, 1) := by decide +kernel
theorem dX12_point_14 : decode cX12_point 14 = .ok (.iconst 0, 1) := by decide +kernel
theorem dX12_point_15 : decode cX12_point 15 = .ok (.iconst 3, 1) := by decide +kernel
theorem dX12_point_16 : decode cX12_point 16 = .ok (.invokestatic 179, 3) := by decide +kernel
theorem dX12_point_19 : decode cX12_point 19 = .ok (.ifCond .ne 5, 3) := by decide +kernel
theorem dX12_point_22 : decode cX12_point 22 = .ok (.iconst (-1), 1) := by decide +kernel
theorem dX12_point_23 : decode cX12_point 23 = .ok (.ireturn, 1) := by decide +kernel
theorem dX12_point_24 : decode cX12_point 24 = .ok (.aload_n 0, 1) := by decide +kernel
theorem dX12_point_25 : decode cX12_point 25 = .ok (.aload_n 0, 1) := by decide +kernel
theorem dX12_point_26 : decode cX12_point 26 = .ok (.getfield 9, 3) := by decide +kernel
theorem dX12_point_29 : decode cX12_point 29 = .ok (.invokevirtual 269, 3) := by decide +kernel
theorem dX12_point_32 : decode cX12_point 32 = .ok (.aload_n 0, 1) := by decide +kernel
theorem dX12_point_33 : decode cX12_point 33 = .ok (.getfield 51, 3) := by decide +kernel
theorem dX12_point_36 : decode cX12_point 36 = .ok (.iconst 4, 1) := by decide +kernel
theorem dX12_point_37 : decode cX12_point 37 = .ok (.iload_n 1, 1) := by decide +kernel
theorem dX12_point_38 : decode cX12_point 38 = .ok (.imul, 1) := by decide +kernel
theorem dX12_point_39 : decode cX12_point 39 = .ok (.iload_n 2, 1) := by decide +kernel
theorem dX12_point_40 : decode cX12_point 40 = .ok (.iadd, 1) := by decide +kernel
theorem dX12_point_41 : decode cX12_point 41 = .ok (.iaload, 1) := by decide +kernel
theorem dX12_point_42 : decode cX12_point 42 = .ok (.istore_n 3, 1) := by decide +kernel
theorem dX12_point_43 : decode cX12_point 43 = .ok (.aload_n 0, 1) := by decide +kernel
theorem dX12_point_44 : decode cX12_point 44 = .ok (.iconst 0, 1) := by decide +kernel
theorem dX12_point_45 : decode cX12_point 45 = .ok (.putfield 132, 3) := by decide +kernel
theorem dX12_point_48 : decode cX12_point 48 = .ok (.aload_n 0, 1) := by decide +kernel
theorem dX12_point_49 : decode cX12_point 49 = .ok (.aload_n 0, 1) := by decide +kernel
theorem dX12_point_50 : decode cX12_point 50 = .ok (.aload_n 0, 1) := by decide +kernel
theorem dX12_point_51 : decode cX12_point 51 = .ok (.getfield 9, 3) := by decide +kernel
theorem dX12_point_54 : decode cX12_point 54 = .ok (.iload_n 3, 1) := by decide +kernel
theorem dX12_point_55 : decode cX12_point 55 = .ok (.invokevirtual 282, 3) := by decide +kernel
theorem dX12_point_58 : decode cX12_point 58 = .ok (.i2l, 1) := by decide +kernel
theorem dX12_point_59 : decode cX12_point 59 = .ok (.invokevirtual 231, 3) := by decide +kernel
theorem dX12_point_62 : decode cX12_point 62 = .ok (.aload_n 0, 1) := by decide +kernel
theorem dX12_point_63 : decode cX12_point 63 = .ok (.aload_n 0, 1) := by decide +kernel
theorem dX12_point_64 : decode cX12_point 64 = .ok (.aload_n 0, 1) := by decide +kernel
theorem dX12_point_65 : decode cX12_point 65 = .ok (.getfield 9, 3) := by decide +kernel
theorem dX12_point_68 : decode cX12_point 68 = .ok (.iload_n 3, 1) := by decide +kernel
theorem dX12_point_69 : decode cX12_point 69 = .ok (.invokevirtual 291, 3) := by decide +kernel
theorem dX12_point_72 : decode cX12_point 72 = .ok (.i2l, 1) := by decide +kernel
theorem dX12_point_73 : decode cX12_point 73 = .ok (.invokevirtual 231, 3) := by decide +kernel
theorem dX12_point_76 : decode cX12_point 76 = .ok (.aload_n 0, 1) := by decide +kernel
theorem dX12_point_77 : decode cX12_point 77 = .ok (.aload_n 0, 1) := by decide +kernel
theorem dX12_point_78 : decode cX12_point 78 = .ok (.aload_n 0, 1) := by decide +kernel
theorem dX12_point_79 : decode cX12_point 79 = .ok (.getfield 9, 3) := by decide +kernel
theorem dX12_point_82 : decode cX12_point 82 = .ok (.iload_n 3, 1) := by decide +kernel
theorem dX12_point_83 : decode cX12_point 83 = .ok (.invokevirtual 297, 3) := by decide +kernel
theorem dX12_point_86 : decode cX12_point 86 = .ok (.ifCond .eq 7, 3) := by decide +kernel
theorem dX12_point_89 : decode cX12_point 89 = .ok (.lconst 1, 1) := by decide +kernel
theorem dX12_point_90 : decode cX12_point 90 = .ok (.goto 4, 3) := by decide +kernel
theorem dX12_point_93 : decode cX12_point 93 = .ok (.lconst 0, 1) := by decide +kernel
theorem dX12_point_94 : decode cX12_point 94 = .ok (.invokevirtual 231, 3) := by decide +kernel
theorem dX12_point_97 : decode cX12_point 97 = .ok (.aload_n 0, 1) := by decide +kernel
theorem dX12_point_98 : decode cX12_point 98 = .ok (.aload_n 0, 1) := by decide +kernel
theorem dX12_point_99 : decode cX12_point 99 = .ok (.getfield 9, 3) := by decide +kernel
theorem dX12_point_102 : decode cX12_point 102 = .ok (.iload_n 3, 1) := by decide +kernel
theorem dX12_point_103 : decode cX12_point 103 = .ok (.invokevirtual 288, 3) := by decide +kernel
theorem dX12_point_106 : decode cX12_point 106 = .ok (.ireturn, 1) := by decide +kernel
theorem dX12_layEdges_0 : decode cX12_layEdges 0 = .ok (.aload_n 0, 1) := by decide +kernel
theorem dX12_layEdges_1 : decode cX12_layEdges 1 = .ok (.iconst 0, 1) := by decide +kernel
theorem dX12_layEdges_2 : decode cX12_layEdges 2 = .ok (.putfield 300, 3) := by decide +kernel
theorem dX12_layEdges_5 : decode cX12_layEdges 5 = .ok (.iconst 0, 1) := by decide +kernel
theorem dX12_layEdges_6 : decode cX12_layEdges 6 = .ok (.istore_n 2, 1) := by decide +kernel
theorem dX12_layEdges_7 : decode cX12_layEdges 7 = .ok (.iload_n 2, 1) := by decide +kernel
theorem dX12_layEdges_8 : decode cX12_layEdges 8 = .ok (.aload_n 1, 1) := by decide +kernel
theorem dX12_layEdges_9 : decode cX12_layEdges 9 = .ok (.iconst 0, 1) := by decide +kernel
theorem dX12_layEdges_10 : decode cX12_layEdges 10 = .ok (.iaload, 1) := by decide +kernel
theorem dX12_layEdges_11 : decode cX12_layEdges 11 = .ok (.if_icmp .ge 117, 3) := by decide +kernel
theorem dX12_layEdges_14 : decode cX12_layEdges 14 = .ok (.iconst 0, 1) := by decide +kernel
theorem dX12_layEdges_15 : decode cX12_layEdges 15 = .ok (.istore_n 3, 1) := by decide +kernel
theorem dX12_layEdges_16 : decode cX12_layEdges 16 = .ok (.iload_n 3, 1) := by decide +kernel
theorem dX12_layEdges_17 : decode cX12_layEdges 17 = .ok (.iconst 4, 1) := by decide +kernel
theorem dX12_layEdges_18 : decode cX12_layEdges 18 = .ok (.if_icmp .ge 104, 3) := by decide +kernel
theorem dX12_layEdges_21 : decode cX12_layEdges 21 = .ok (.iload_n 3, 1) := by decide +kernel
theorem dX12_layEdges_22 : decode cX12_layEdges 22 = .ok (.iconst 1, 1) := by decide +kernel
theorem dX12_layEdges_23 : decode cX12_layEdges 23 = .ok (.iadd, 1) := by decide +kernel
theorem dX12_layEdges_24 : decode cX12_layEdges 24 = .ok (.istore 4, 2) := by decide +kernel
theorem dX12_layEdges_26 : decode cX12_layEdges 26 = .ok (.iload 4, 2) := by decide +kernel
theorem dX12_layEdges_28 : decode cX12_layEdges 28 = .ok (.iconst 4, 1) := by decide +kernel
theorem dX12_layEdges_29 : decode cX12_layEdges 29 = .ok (.if_icmp .ge 87, 3) := by decide +kernel
theorem dX12_layEdges_32 : decode cX12_layEdges 32 = .ok (.iconst 1, 1) := by decide +kernel
theorem dX12_layEdges_33 : decode cX12_layEdges 33 = .ok (.istore 5, 2) := by decide +kernel
theorem dX12_layEdges_35 : decode cX12_layEdges 35 = .ok (.iconst 0, 1) := by decide +kernel
theorem dX12_layEdges_36 : decode cX12_layEdges 36 = .ok (.istore 6, 2) := by decide +kernel
theorem dX12_layEdges_38 : decode cX12_layEdges 38 = .ok (.iload 6, 2) := by decide +kernel
theorem dX12_layEdges_40 : decode cX12_layEdges 40 = .ok (.aload_n 0, 1) := by decide +kernel
theorem dX12_layEdges_41 : decode cX12_layEdges 41 = .ok (.getfield 300, 3) := by decide +kernel
theorem dX12_layEdges_44 : decode cX12_layEdges 44 = .ok (.if_icmp .ge 38, 3) := by decide +kernel
theorem dX12_layEdges_47 : decode cX12_layEdges 47 = .ok (.iload 5, 2) := by decide +kernel
theorem dX12_layEdges_49 : decode cX12_layEdges 49 = .ok (.ifCond .eq 24, 3) := by decide +kernel
theorem dX12_layEdges_52 : decode cX12_layEdges 52 = .ok (.aload_n 0, 1) := by decide +kernel
theorem dX12_layEdges_53 : decode cX12_layEdges 53 = .ok (.iload 6, 2) := by decide +kernel
theorem dX12_layEdges_55 : decode cX12_layEdges 55 = .ok (.invokevirtual 303, 3) := by decide +kernel
theorem dX12_layEdges_58 : decode cX12_layEdges 58 = .ok (.aload_n 0, 1) := by decide +kernel
theorem dX12_layEdges_59 : decode cX12_layEdges 59 = .ok (.iload_n 2, 1) := by decide +kernel
theorem dX12_layEdges_60 : decode cX12_layEdges 60 = .ok (.iload_n 3, 1) := by decide +kernel
theorem dX12_layEdges_61 : decode cX12_layEdges 61 = .ok (.iload 4, 2) := by decide +kernel
theorem dX12_layEdges_63 : decode cX12_layEdges 63 = .ok (.invokevirtual 258, 3) := by decide +kernel
theorem dX12_layEdges_66 : decode cX12_layEdges 66 = .ok (.if_icmp .eq 7, 3) := by decide +kernel
theorem dX12_layEdges_69 : decode cX12_layEdges 69 = .ok (.iconst 1, 1) := by decide +kernel
theorem dX12_layEdges_70 : decode cX12_layEdges 70 = .ok (.goto 4, 3) := by decide +kernel
theorem dX12_layEdges_73 : decode cX12_layEdges 73 = .ok (.iconst 0, 1) := by decide +kernel
theorem dX12_layEdges_74 : decode cX12_layEdges 74 = .ok (.istore 5, 2) := by decide +kernel
theorem dX12_layEdges_76 : decode cX12_layEdges 76 = .ok (.iinc 6 1, 3) := by decide +kernel
theorem dX12_layEdges_79 : decode cX12_layEdges 79 = .ok (.goto (-41), 3) := by decide +kernel
theorem dX12_layEdges_82 : decode cX12_layEdges 82 = .ok (.iload 5, 2) := by decide +kernel
theorem dX12_layEdges_84 : decode cX12_layEdges 84 = .ok (.ifCond .eq 26, 3) := by decide +kernel
theorem dX12_layEdges_87 : decode cX12_layEdges 87 = .ok (.aload_n 0, 1) := by decide +kernel
theorem dX12_layEdges_88 : decode cX12_layEdges 88 = .ok (.getfield 54, 3) := by decide +kernel
theorem dX12_layEdges_91 : decode cX12_layEdges 91 = .ok (.aload_n 0, 1) := by decide +kernel
theorem dX12_layEdges_92 : decode cX12_layEdges 92 = .ok (.dup, 1) := by decide +kernel
theorem dX12_layEdges_93 : decode cX12_layEdges 93 = .ok (.getfield 300, 3) := by decide +kernel
theorem dX12_layEdges_96 : decode cX12_layEdges 96 = .ok (.dup_x1, 1) := by decide +kernel
theorem dX12_layEdges_97 : decode cX12_layEdges 97 = .ok (.iconst 1, 1) := by decide +kernel
theorem dX12_layEdges_98 : decode cX12_layEdges 98 = .ok (.iadd, 1) := by decide +kernel
theorem dX12_layEdges_99 : decode cX12_layEdges 99 = .ok (.putfield 300, 3) := by decide +kernel
theorem dX12_layEdges_102 : decode cX12_layEdges 102 = .ok (.iload_n 2, 1) := by decide +kernel
theorem dX12_layEdges_103 : decode cX12_layEdges 103 = .ok (.iload_n 3, 1) := by decide +kernel
theorem dX12_layEdges_104 : decode cX12_layEdges 104 = .ok (.iload 4, 2) := by decide +kernel
theorem dX12_layEdges_106 : decode cX12_layEdges 106 = .ok (.invokestatic 255, 3) := by decide +kernel
theorem dX12_layEdges_109 : decode cX12_layEdges 109 = .ok (.iastore, 1) := by decide +kernel
theorem dX12_layEdges_110 : decode cX12_layEdges 110 = .ok (.iinc 4 1, 3) := by decide +kernel
theorem dX12_layEdges_113 : decode cX12_layEdges 113 = .ok (.goto (-87), 3) := by decide +kernel
theorem dX12_layEdges_116 : decode cX12_layEdges 116 = .ok (.iinc 3 1, 3) := by decide +kernel
theorem dX12_layEdges_119 : decode cX12_layEdges 119 = .ok (.goto (-103), 3) := by decide +kernel
theorem dX12_layEdges_122 : decode cX12_layEdges 122 = .ok (.iinc 2 1, 3) := by decide +kernel
theorem dX12_layEdges_125 : decode cX12_layEdges 125 = .ok (.goto (-118), 3) := by decide +kernel
theorem dX12_layEdges_128 : decode cX12_layEdges 128 = .ok (.return_, 1) := by decide +kernel
theorem dX12_edgeAt_0 : decode cX12_edgeAt 0 = .ok (.aload_n 0, 1) := by decide +kernel
theorem dX12_edgeAt_1 : decode cX12_edgeAt 1 = .ok (.aload_n 0, 1) := by decide +kernel
theorem dX12_edgeAt_2 : decode cX12_edgeAt 2 = .ok (.getfield 54, 3) := by decide +kernel
theorem dX12_edgeAt_5 : decode cX12_edgeAt 5 = .ok (.iload_n 1, 1) := by decide +kernel
theorem dX12_edgeAt_6 : decode cX12_edgeAt 6 = .ok (.iaload, 1) := by decide +kernel
theorem dX12_edgeAt_7 : decode cX12_edgeAt 7 = .ok (.bipush 16, 2) := by decide +kernel
theorem dX12_edgeAt_9 : decode cX12_edgeAt 9 = .ok (.idiv, 1) := by decide +kernel
theorem dX12_edgeAt_10 : decode cX12_edgeAt 10 = .ok (.aload_n 0, 1) := by decide +kernel
theorem dX12_edgeAt_11 : decode cX12_edgeAt 11 = .ok (.getfield 54, 3) := by decide +kernel
theorem dX12_edgeAt_14 : decode cX12_edgeAt 14 = .ok (.iload_n 1, 1) := by decide +kernel
theorem dX12_edgeAt_15 : decode cX12_edgeAt 15 = .ok (.iaload, 1) := by decide +kernel
theorem dX12_edgeAt_16 : decode cX12_edgeAt 16 = .ok (.iconst 4, 1) := by decide +kernel
theorem dX12_edgeAt_17 : decode cX12_edgeAt 17 = .ok (.idiv, 1) := by decide +kernel
theorem dX12_edgeAt_18 : decode cX12_edgeAt 18 = .ok (.iconst 4, 1) := by decide +kernel
theorem dX12_edgeAt_19 : decode cX12_edgeAt 19 = .ok (.irem, 1) := by decide +kernel
theorem dX12_edgeAt_20 : decode cX12_edgeAt 20 = .ok (.aload_n 0, 1) := by decide +kernel
theorem dX12_edgeAt_21 : decode cX12_edgeAt 21 = .ok (.getfield 54, 3) := by decide +kernel
theorem dX12_edgeAt_24 : decode cX12_edgeAt 24 = .ok (.iload_n 1, 1) := by decide +kernel
theorem dX12_edgeAt_25 : decode cX12_edgeAt 25 = .ok (.iaload, 1) := by decide +kernel
theorem dX12_edgeAt_26 : decode cX12_edgeAt 26 = .ok (.iconst 4, 1) := by decide +kernel
theorem dX12_edgeAt_27 : decode cX12_edgeAt 27 = .ok (.irem, 1) := by decide +kernel
theorem dX12_edgeAt_28 : decode cX12_edgeAt 28 = .ok (.invokevirtual 258, 3) := by decide +kernel
theorem dX12_edgeAt_31 : decode cX12_edgeAt 31 = .ok (.ireturn, 1) := by decide +kernel
theorem dX12_isReversedAt_0 : decode cX12_isReversedAt 0 = .ok (.aload_n 0, 1) := by decide +kernel
theorem dX12_isReversedAt_1 : decode cX12_isReversedAt 1 = .ok (.aload_n 0, 1) := by decide +kernel
theorem dX12_isReversedAt_2 : decode cX12_isReversedAt 2 = .ok (.getfield 54, 3) := by decide +kernel
theorem dX12_isReversedAt_5 : decode cX12_isReversedAt 5 = .ok (.iload_n 1, 1) := by decide +kernel
theorem dX12_isReversedAt_6 : decode cX12_isReversedAt 6 = .ok (.iaload, 1) := by decide +kernel
theorem dX12_isReversedAt_7 : decode cX12_isReversedAt 7 = .ok (.bipush 16, 2) := by decide +kernel
theorem dX12_isReversedAt_9 : decode cX12_isReversedAt 9 = .ok (.idiv, 1) := by decide +kernel
theorem dX12_isReversedAt_10 : decode cX12_isReversedAt 10 = .ok (.aload_n 0, 1) := by decide +kernel
theorem dX12_isReversedAt_11 : decode cX12_isReversedAt 11 = .ok (.getfield 54, 3) := by decide +kernel
theorem dX12_isReversedAt_14 : decode cX12_isReversedAt 14 = .ok (.iload_n 1, 1) := by decide +kernel
theorem dX12_isReversedAt_15 : decode cX12_isReversedAt 15 = .ok (.iaload, 1) := by decide +kernel
theorem dX12_isReversedAt_16 : decode cX12_isReversedAt 16 = .ok (.iconst 4, 1) := by decide +kernel
theorem dX12_isReversedAt_17 : decode cX12_isReversedAt 17 = .ok (.idiv, 1) := by decide +kernel
theorem dX12_isReversedAt_18 : decode cX12_isReversedAt 18 = .ok (.iconst 4, 1) := by decide +kernel
theorem dX12_isReversedAt_19 : decode cX12_isReversedAt 19 = .ok (.irem, 1) := by decide +kernel
theorem dX12_isReversedAt_20 : decode cX12_isReversedAt 20 = .ok (.aload_n 0, 1) := by decide +kernel
theorem dX12_isReversedAt_21 : decode cX12_isReversedAt 21 = .ok (.getfield 54, 3) := by decide +kernel
theorem dX12_isReversedAt_24 : decode cX12_isReversedAt 24 = .ok (.iload_n 1, 1) := by decide +kernel
theorem dX12_isReversedAt_25 : decode cX12_isReversedAt 25 = .ok (.iaload, 1) := by decide +kernel
theorem dX12_isReversedAt_26 : decode cX12_isReversedAt 26 = .ok (.iconst 4, 1) := by decide +kernel
theorem dX12_isReversedAt_27 : decode cX12_isReversedAt 27 = .ok (.irem, 1) := by decide +kernel
theorem dX12_isReversedAt_28 : decode cX12_isReversedAt 28 = .ok (.invokevirtual 276, 3) := by decide +kernel
theorem dX12_isReversedAt_31 : decode cX12_isReversedAt 31 = .ok (.ireturn, 1) := by decide +kernel
theorem dX12_reversedMany_0 : decode cX12_reversedMany 0 = .ok (.iconst 0, 1) := by decide +kernel
theorem dX12_reversedMany_1 : decode cX12_reversedMany 1 = .ok (.istore_n 1, 1) := by decide +kernel
theorem dX12_reversedMany_2 : decode cX12_reversedMany 2 = .ok (.iconst 0, 1) := by decide +kernel
theorem dX12_reversedMany_3 : decode cX12_reversedMany 3 = .ok (.istore_n 2, 1) := by decide +kernel
theorem dX12_reversedMany_4 : decode cX12_reversedMany 4 = .ok (.iload_n 2, 1) := by decide +kernel
theorem dX12_reversedMany_5 : decode cX12_reversedMany 5 = .ok (.aload_n 0, 1) := by decide +kernel
theorem dX12_reversedMany_6 : decode cX12_reversedMany 6 = .ok (.getfield 300, 3) := by decide +kernel
theorem dX12_reversedMany_9 : decode cX12_reversedMany 9 = .ok (.if_icmp .ge 25, 3) := by decide +kernel
theorem dX12_reversedMany_12 : decode cX12_reversedMany 12 = .ok (.iload_n 1, 1) := by decide +kernel
theorem dX12_reversedMany_13 : decode cX12_reversedMany 13 = .ok (.aload_n 0, 1) := by decide +kernel
theorem dX12_reversedMany_14 : decode cX12_reversedMany 14 = .ok (.iload_n 2, 1) := by decide +kernel
theorem dX12_reversedMany_15 : decode cX12_reversedMany 15 = .ok (.invokevirtual 306, 3) := by decide +kernel
theorem dX12_reversedMany_18 : decode cX12_reversedMany 18 = .ok (.ifCond .eq 7, 3) := by decide +kernel
theorem dX12_reversedMany_21 : decode cX12_reversedMany 21 = .ok (.iconst 1, 1) := by decide +kernel
theorem dX12_reversedMany_22 : decode cX12_reversedMany 22 = .ok (.goto 4, 3) := by decide +kernel
theorem dX12_reversedMany_25 : decode cX12_reversedMany 25 = .ok (.iconst 0, 1) := by decide +kernel
theorem dX12_reversedMany_26 : decode cX12_reversedMany 26 = .ok (.iadd, 1) := by decide +kernel
theorem dX12_reversedMany_27 : decode cX12_reversedMany 27 = .ok (.istore_n 1, 1) := by decide +kernel
theorem dX12_reversedMany_28 : decode cX12_reversedMany 28 = .ok (.iinc 2 1, 3) := by decide +kernel
theorem dX12_reversedMany_31 : decode cX12_reversedMany 31 = .ok (.goto (-27), 3) := by decide +kernel
theorem dX12_reversedMany_34 : decode cX12_reversedMany 34 = .ok (.iload_n 1, 1) := by decide +kernel
theorem dX12_reversedMany_35 : decode cX12_reversedMany 35 = .ok (.ireturn, 1) := by decide +kernel
theorem dX12_edges_0 : decode cX12_edges 0 = .ok (.aload_n 0, 1) := by decide +kernel
theorem dX12_edges_1 : decode cX12_edges 1 = .ok (.iconst 0, 1) := by decide +kernel
theorem dX12_edges_2 : decode cX12_edges 2 = .ok (.putfield 128, 3) := by decide +kernel
theorem dX12_edges_5 : decode cX12_edges 5 = .ok (.aload_n 0, 1) := by decide +kernel
theorem dX12_edges_6 : decode cX12_edges 6 = .ok (.aload_n 0, 1) := by decide +kernel
theorem dX12_edges_7 : decode cX12_edges 7 = .ok (.getfield 9, 3) := by decide +kernel
theorem dX12_edges_10 : decode cX12_edges 10 = .ok (.invokevirtual 269, 3) := by decide +kernel
theorem dX12_edges_13 : decode cX12_edges 13 = .ok (.aload_n 0, 1) := by decide +kernel
theorem dX12_edges_14 : decode cX12_edges 14 = .ok (.aload_n 0, 1) := by decide +kernel
theorem dX12_edges_15 : decode cX12_edges 15 = .ok (.getfield 9, 3) := by decide +kernel
theorem dX12_edges_18 : decode cX12_edges 18 = .ok (.invokevirtual 309, 3) := by decide +kernel
theorem dX12_edges_21 : decode cX12_edges 21 = .ok (.ldc_w 312, 3) := by decide +kernel
theorem dX12_edges_24 : decode cX12_edges 24 = .ok (.istore_n 1, 1) := by decide +kernel
theorem dX12_edges_25 : decode cX12_edges 25 = .ok (.iconst 0, 1) := by decide +kernel
theorem dX12_edges_26 : decode cX12_edges 26 = .ok (.istore_n 2, 1) := by decide +kernel
theorem dX12_edges_27 : decode cX12_edges 27 = .ok (.iconst 0, 1) := by decide +kernel
theorem dX12_edges_28 : decode cX12_edges 28 = .ok (.istore_n 3, 1) := by decide +kernel
theorem dX12_edges_29 : decode cX12_edges 29 = .ok (.iconst 0, 1) := by decide +kernel
theorem dX12_edges_30 : decode cX12_edges 30 = .ok (.istore 4, 2) := by decide +kernel
theorem dX12_edges_32 : decode cX12_edges 32 = .ok (.iconst 0, 1) := by decide +kernel
theorem dX12_edges_33 : decode cX12_edges 33 = .ok (.istore 5, 2) := by decide +kernel
theorem dX12_edges_35 : decode cX12_edges 35 = .ok (.iload 5, 2) := by decide +kernel
theorem dX12_edges_37 : decode cX12_edges 37 = .ok (.aload_n 0, 1) := by decide +kernel
theorem dX12_edges_38 : decode cX12_edges 38 = .ok (.getfield 300, 3) := by decide +kernel
theorem dX12_edges_41 : decode cX12_edges 41 = .ok (.if_icmp .ge 86, 3) := by decide +kernel
theorem dX12_edges_44 : decode cX12_edges 44 = .ok (.aload_n 0, 1) := by decide +kernel
theorem dX12_edges_45 : decode cX12_edges 45 = .ok (.aload_n 0, 1) := by decide +kernel
theorem dX12_edges_46 : decode cX12_edges 46 = .ok (.getfield 9, 3) := by decide +kernel
theorem dX12_edges_49 : decode cX12_edges 49 = .ok (.aload_n 0, 1) := by decide +kernel
theorem dX12_edges_50 : decode cX12_edges 50 = .ok (.iload 5, 2) := by decide +kernel
theorem dX12_edges_52 : decode cX12_edges 52 = .ok (.invokevirtual 303, 3) := by decide +kernel
theorem dX12_edges_55 : decode cX12_edges 55 = .ok (.invokevirtual 279, 3) := by decide +kernel
theorem dX12_edges_58 : decode cX12_edges 58 = .ok (.istore 6, 2) := by decide +kernel
theorem dX12_edges_60 : decode cX12_edges 60 = .ok (.iload 6, 2) := by decide +kernel
theorem dX12_edges_62 : decode cX12_edges 62 = .ok (.iload_n 1, 1) := by decide +kernel
theorem dX12_edges_63 : decode cX12_edges 63 = .ok (.if_icmp .ge 5, 3) := by decide +kernel
theorem dX12_edges_66 : decode cX12_edges 66 = .ok (.iconst 0, 1) := by decide +kernel
theorem dX12_edges_67 : decode cX12_edges 67 = .ok (.istore_n 3, 1) := by decide +kernel
theorem dX12_edges_68 : decode cX12_edges 68 = .ok (.iload 6, 2) := by decide +kernel
theorem dX12_edges_70 : decode cX12_edges 70 = .ok (.iload_n 2, 1) := by decide +kernel
theorem dX12_edges_71 : decode cX12_edges 71 = .ok (.if_icmp .le 6, 3) := by decide +kernel
theorem dX12_edges_74 : decode cX12_edges 74 = .ok (.iconst 0, 1) := by decide +kernel
theorem dX12_edges_75 : decode cX12_edges 75 = .ok (.istore 4, 2) := by decide +kernel
theorem dX12_edges_77 : decode cX12_edges 77 = .ok (.iload_n 1, 1) := by decide +kernel
theorem dX12_edges_78 : decode cX12_edges 78 = .ok (.iload 6, 2) := by decide +kernel
theorem dX12_edges_80 : decode cX12_edges 80 = .ok (.invokestatic 248, 3) := by decide +kernel
theorem dX12_edges_83 : decode cX12_edges 83 = .ok (.istore_n 1, 1) := by decide +kernel
theorem dX12_edges_84 : decode cX12_edges 84 = .ok (.iload_n 2, 1) := by decide +kernel
theorem dX12_edges_85 : decode cX12_edges 85 = .ok (.iload 6, 2) := by decide +kernel
theorem dX12_edges_87 : decode cX12_edges 87 = .ok (.invokestatic 243, 3) := by decide +kernel
theorem dX12_edges_90 : decode cX12_edges 90 = .ok (.istore_n 2, 1) := by decide +kernel
theorem dX12_edges_91 : decode cX12_edges 91 = .ok (.iload_n 3, 1) := by decide +kernel
theorem dX12_edges_92 : decode cX12_edges 92 = .ok (.iload 6, 2) := by decide +kernel
theorem dX12_edges_94 : decode cX12_edges 94 = .ok (.iload_n 1, 1) := by decide +kernel
theorem dX12_edges_95 : decode cX12_edges 95 = .ok (.if_icmp .ne 7, 3) := by decide +kernel
theorem dX12_edges_98 : decode cX12_edges 98 = .ok (.iconst 1, 1) := by decide +kernel
theorem dX12_edges_99 : decode cX12_edges 99 = .ok (.goto 4, 3) := by decide +kernel
theorem dX12_edges_102 : decode cX12_edges 102 = .ok (.iconst 0, 1) := by decide +kernel
theorem dX12_edges_103 : decode cX12_edges 103 = .ok (.iadd, 1) := by decide +kernel
theorem dX12_edges_104 : decode cX12_edges 104 = .ok (.istore_n 3, 1) := by decide +kernel
theorem dX12_edges_105 : decode cX12_edges 105 = .ok (.iload 4, 2) := by decide +kernel
theorem dX12_edges_107 : decode cX12_edges 107 = .ok (.iload 6, 2) := by decide +kernel
theorem dX12_edges_109 : decode cX12_edges 109 = .ok (.iload_n 2, 1) := by decide +kernel
theorem dX12_edges_110 : decode cX12_edges 110 = .ok (.if_icmp .ne 7, 3) := by decide +kernel
theorem dX12_edges_113 : decode cX12_edges 113 = .ok (.iconst 1, 1) := by decide +kernel
theorem dX12_edges_114 : decode cX12_edges 114 = .ok (.goto 4, 3) := by decide +kernel
theorem dX12_edges_117 : decode cX12_edges 117 = .ok (.iconst 0, 1) := by decide +kernel
theorem dX12_edges_118 : decode cX12_edges 118 = .ok (.iadd, 1) := by decide +kernel
theorem dX12_edges_119 : decode cX12_edges 119 = .ok (.istore 4, 2) := by decide +kernel
theorem dX12_edges_121 : decode cX12_edges 121 = .ok (.iinc 5 1, 3) := by decide +kernel
theorem dX12_edges_124 : decode cX12_edges 124 = .ok (.goto (-89), 3) := by decide +kernel
theorem dX12_edges_127 : decode cX12_edges 127 = .ok (.aload_n 0, 1) := by decide +kernel
theorem dX12_edges_128 : decode cX12_edges 128 = .ok (.iconst 0, 1) := by decide +kernel
theorem dX12_edges_129 : decode cX12_edges 129 = .ok (.putfield 132, 3) := by decide +kernel
theorem dX12_edges_132 : decode cX12_edges 132 = .ok (.aload_n 0, 1) := by decide +kernel
theorem dX12_edges_133 : decode cX12_edges 133 = .ok (.iload_n 1, 1) := by decide +kernel
theorem dX12_edges_134 : decode cX12_edges 134 = .ok (.i2l, 1) := by decide +kernel
theorem dX12_edges_135 : decode cX12_edges 135 = .ok (.invokevirtual 231, 3) := by decide +kernel
theorem dX12_edges_138 : decode cX12_edges 138 = .ok (.aload_n 0, 1) := by decide +kernel
theorem dX12_edges_139 : decode cX12_edges 139 = .ok (.iload_n 3, 1) := by decide +kernel
theorem dX12_edges_140 : decode cX12_edges 140 = .ok (.i2l, 1) := by decide +kernel
theorem dX12_edges_141 : decode cX12_edges 141 = .ok (.invokevirtual 231, 3) := by decide +kernel
theorem dX12_edges_144 : decode cX12_edges 144 = .ok (.aload_n 0, 1) := by decide +kernel
theorem dX12_edges_145 : decode cX12_edges 145 = .ok (.iload_n 2, 1) := by decide +kernel
theorem dX12_edges_146 : decode cX12_edges 146 = .ok (.i2l, 1) := by decide +kernel
theorem dX12_edges_147 : decode cX12_edges 147 = .ok (.invokevirtual 231, 3) := by decide +kernel
theorem dX12_edges_150 : decode cX12_edges 150 = .ok (.aload_n 0, 1) := by decide +kernel
theorem dX12_edges_151 : decode cX12_edges 151 = .ok (.iload 4, 2) := by decide +kernel
theorem dX12_edges_153 : decode cX12_edges 153 = .ok (.i2l, 1) := by decide +kernel
theorem dX12_edges_154 : decode cX12_edges 154 = .ok (.invokevirtual 231, 3) := by decide +kernel
theorem dX12_edges_157 : decode cX12_edges 157 = .ok (.aload_n 0, 1) := by decide +kernel
theorem dX12_edges_158 : decode cX12_edges 158 = .ok (.aload_n 0, 1) := by decide +kernel
theorem dX12_edges_159 : decode cX12_edges 159 = .ok (.invokevirtual 313, 3) := by decide +kernel
theorem dX12_edges_162 : decode cX12_edges 162 = .ok (.i2l, 1) := by decide +kernel
theorem dX12_edges_163 : decode cX12_edges 163 = .ok (.invokevirtual 231, 3) := by decide +kernel
theorem dX12_edges_166 : decode cX12_edges 166 = .ok (.aload_n 0, 1) := by decide +kernel
theorem dX12_edges_167 : decode cX12_edges 167 = .ok (.getfield 300, 3) := by decide +kernel
theorem dX12_edges_170 : decode cX12_edges 170 = .ok (.ireturn, 1) := by decide +kernel
theorem dX12_isFirst_0 : decode cX12_isFirst 0 = .ok (.aload_n 0, 1) := by decide +kernel
theorem dX12_isFirst_1 : decode cX12_isFirst 1 = .ok (.getfield 51, 3) := by decide +kernel
theorem dX12_isFirst_4 : decode cX12_isFirst 4 = .ok (.iload_n 1, 1) := by decide +kernel
theorem dX12_isFirst_5 : decode cX12_isFirst 5 = .ok (.iaload, 1) := by decide +kernel
theorem dX12_isFirst_6 : decode cX12_isFirst 6 = .ok (.iload_n 1, 1) := by decide +kernel
theorem dX12_isFirst_7 : decode cX12_isFirst 7 = .ok (.if_icmp .ne 7, 3) := by decide +kernel
theorem dX12_isFirst_10 : decode cX12_isFirst 10 = .ok (.iconst 1, 1) := by decide +kernel
theorem dX12_isFirst_11 : decode cX12_isFirst 11 = .ok (.goto 4, 3) := by decide +kernel
theorem dX12_isFirst_14 : decode cX12_isFirst 14 = .ok (.iconst 0, 1) := by decide +kernel
theorem dX12_isFirst_15 : decode cX12_isFirst 15 = .ok (.ireturn, 1) := by decide +kernel
theorem dX12_pointMany_0 : decode cX12_pointMany 0 = .ok (.iconst 0, 1) := by decide +kernel
theorem dX12_pointMany_1 : decode cX12_pointMany 1 = .ok (.istore_n 2, 1) := by decide +kernel
theorem dX12_pointMany_2 : decode cX12_pointMany 2 = .ok (.iconst 0, 1) := by decide +kernel
theorem dX12_pointMany_3 : decode cX12_pointMany 3 = .ok (.istore_n 3, 1) := by decide +kernel
theorem dX12_pointMany_4 : decode cX12_pointMany 4 = .ok (.iload_n 3, 1) := by decide +kernel
theorem dX12_pointMany_5 : decode cX12_pointMany 5 = .ok (.iconst 4, 1) := by decide +kernel
theorem dX12_pointMany_6 : decode cX12_pointMany 6 = .ok (.aload_n 1, 1) := by decide +kernel
theorem dX12_pointMany_7 : decode cX12_pointMany 7 = .ok (.iconst 0, 1) := by decide +kernel
theorem dX12_pointMany_8 : decode cX12_pointMany 8 = .ok (.iaload, 1) := by decide +kernel
theorem dX12_pointMany_9 : decode cX12_pointMany 9 = .ok (.imul, 1) := by decide +kernel
theorem dX12_pointMany_10 : decode cX12_pointMany 10 = .ok (.if_icmp .ge 25, 3) := by decide +kernel
theorem dX12_pointMany_13 : decode cX12_pointMany 13 = .ok (.iload_n 2, 1) := by decide +kernel
theorem dX12_pointMany_14 : decode cX12_pointMany 14 = .ok (.aload_n 0, 1) := by decide +kernel
theorem dX12_pointMany_15 : decode cX12_pointMany 15 = .ok (.iload_n 3, 1) := by decide +kernel
theorem dX12_pointMany_16 : decode cX12_pointMany 16 = .ok (.invokevirtual 316, 3) := by decide +kernel
theorem dX12_pointMany_19 : decode cX12_pointMany 19 = .ok (.ifCond .eq 7, 3) := by decide +kernel
theorem dX12_pointMany_22 : decode cX12_pointMany 22 = .ok (.iconst 1, 1) := by decide +kernel
theorem dX12_pointMany_23 : decode cX12_pointMany 23 = .ok (.goto 4, 3) := by decide +kernel
theorem dX12_pointMany_26 : decode cX12_pointMany 26 = .ok (.iconst 0, 1) := by decide +kernel
theorem dX12_pointMany_27 : decode cX12_pointMany 27 = .ok (.iadd, 1) := by decide +kernel
theorem dX12_pointMany_28 : decode cX12_pointMany 28 = .ok (.istore_n 2, 1) := by decide +kernel
theorem dX12_pointMany_29 : decode cX12_pointMany 29 = .ok (.iinc 3 1, 3) := by decide +kernel
theorem dX12_pointMany_32 : decode cX12_pointMany 32 = .ok (.goto (-28), 3) := by decide +kernel
theorem dX12_pointMany_35 : decode cX12_pointMany 35 = .ok (.iload_n 2, 1) := by decide +kernel
theorem dX12_pointMany_36 : decode cX12_pointMany 36 = .ok (.ireturn, 1) := by decide +kernel
theorem dX12_roundMany_0 : decode cX12_roundMany 0 = .ok (.iconst 0, 1) := by decide +kernel
theorem dX12_roundMany_1 : decode cX12_roundMany 1 = .ok (.istore_n 2, 1) := by decide +kernel
theorem dX12_roundMany_2 : decode cX12_roundMany 2 = .ok (.iconst 0, 1) := by decide +kernel
theorem dX12_roundMany_3 : decode cX12_roundMany 3 = .ok (.istore_n 3, 1) := by decide +kernel
theorem dX12_roundMany_4 : decode cX12_roundMany 4 = .ok (.iload_n 3, 1) := by decide +kernel
theorem dX12_roundMany_5 : decode cX12_roundMany 5 = .ok (.iconst 4, 1) := by decide +kernel
theorem dX12_roundMany_6 : decode cX12_roundMany 6 = .ok (.aload_n 1, 1) := by decide +kernel
theorem dX12_roundMany_7 : decode cX12_roundMany 7 = .ok (.iconst 0, 1) := by decide +kernel
theorem dX12_roundMany_8 : decode cX12_roundMany 8 = .ok (.iaload, 1) := by decide +kernel
theorem dX12_roundMany_9 : decode cX12_roundMany 9 = .ok (.imul, 1) := by decide +kernel
theorem dX12_roundMany_10 : decode cX12_roundMany 10 = .ok (.if_icmp .ge 34, 3) := by decide +kernel
theorem dX12_roundMany_13 : decode cX12_roundMany 13 = .ok (.iload_n 2, 1) := by decide +kernel
theorem dX12_roundMany_14 : decode cX12_roundMany 14 = .ok (.aload_n 0, 1) := by decide +kernel
theorem dX12_roundMany_15 : decode cX12_roundMany 15 = .ok (.iload_n 3, 1) := by decide +kernel
theorem dX12_roundMany_16 : decode cX12_roundMany 16 = .ok (.invokevirtual 316, 3) := by decide +kernel
theorem dX12_roundMany_19 : decode cX12_roundMany 19 = .ok (.ifCond .eq 16, 3) := by decide +kernel
theorem dX12_roundMany_22 : decode cX12_roundMany 22 = .ok (.aload_n 0, 1) := by decide +kernel
theorem dX12_roundMany_23 : decode cX12_roundMany 23 = .ok (.aload_n 1, 1) := by decide +kernel
theorem dX12_roundMany_24 : decode cX12_roundMany 24 = .ok (.iload_n 3, 1) := by decide +kernel
theorem dX12_roundMany_25 : decode cX12_roundMany 25 = .ok (.invokevirtual 297, 3) := by decide +kernel
theorem dX12_roundMany_28 : decode cX12_roundMany 28 = .ok (.ifCond .eq 7, 3) := by decide +kernel
theorem dX12_roundMany_31 : decode cX12_roundMany 31 = .ok (.iconst 1, 1) := by decide +kernel
theorem dX12_roundMany_32 : decode cX12_roundMany 32 = .ok (.goto 4, 3) := by decide +kernel
theorem dX12_roundMany_35 : decode cX12_roundMany 35 = .ok (.iconst 0, 1) := by decide +kernel
theorem dX12_roundMany_36 : decode cX12_roundMany 36 = .ok (.iadd, 1) := by decide +kernel
theorem dX12_roundMany_37 : decode cX12_roundMany 37 = .ok (.istore_n 2, 1) := by decide +kernel
theorem dX12_roundMany_38 : decode cX12_roundMany 38 = .ok (.iinc 3 1, 3) := by decide +kernel
theorem dX12_roundMany_41 : decode cX12_roundMany 41 = .ok (.goto (-37), 3) := by decide +kernel
theorem dX12_roundMany_44 : decode cX12_roundMany 44 = .ok (.iload_n 2, 1) := by decide +kernel
theorem dX12_roundMany_45 : decode cX12_roundMany 45 = .ok (.ireturn, 1) := by decide +kernel
theorem dX12_points_0 : decode cX12_points 0 = .ok (.aload_n 0, 1) := by decide +kernel
theorem dX12_points_1 : decode cX12_points 1 = .ok (.iconst 0, 1) := by decide +kernel
theorem dX12_points_2 : decode cX12_points 2 = .ok (.putfield 128, 3) := by decide +kernel
theorem dX12_points_5 : decode cX12_points 5 = .ok (.aload_n 0, 1) := by decide +kernel
theorem dX12_points_6 : decode cX12_points 6 = .ok (.aload_n 0, 1) := by decide +kernel
theorem dX12_points_7 : decode cX12_points 7 = .ok (.getfield 9, 3) := by decide +kernel
theorem dX12_points_10 : decode cX12_points 10 = .ok (.invokevirtual 269, 3) := by decide +kernel
theorem dX12_points_13 : decode cX12_points 13 = .ok (.ldc_w 312, 3) := by decide +kernel
theorem dX12_points_16 : decode cX12_points 16 = .ok (.istore_n 1, 1) := by decide +kernel
theorem dX12_points_17 : decode cX12_points 17 = .ok (.iconst 0, 1) := by decide +kernel
theorem dX12_points_18 : decode cX12_points 18 = .ok (.istore_n 2, 1) := by decide +kernel
theorem dX12_points_19 : decode cX12_points 19 = .ok (.iload_n 2, 1) := by decide +kernel
theorem dX12_points_20 : decode cX12_points 20 = .ok (.iconst 4, 1) := by decide +kernel
theorem dX12_points_21 : decode cX12_points 21 = .ok (.aload_n 0, 1) := by decide +kernel
theorem dX12_points_22 : decode cX12_points 22 = .ok (.getfield 9, 3) := by decide +kernel
theorem dX12_points_25 : decode cX12_points 25 = .ok (.iconst 0, 1) := by decide +kernel
theorem dX12_points_26 : decode cX12_points 26 = .ok (.iaload, 1) := by decide +kernel
theorem dX12_points_27 : decode cX12_points 27 = .ok (.imul, 1) := by decide +kernel
theorem dX12_points_28 : decode cX12_points 28 = .ok (.if_icmp .ge 31, 3) := by decide +kernel
theorem dX12_points_31 : decode cX12_points 31 = .ok (.aload_n 0, 1) := by decide +kernel
theorem dX12_points_32 : decode cX12_points 32 = .ok (.iload_n 2, 1) := by decide +kernel
theorem dX12_points_33 : decode cX12_points 33 = .ok (.invokevirtual 316, 3) := by decide +kernel
theorem dX12_points_36 : decode cX12_points 36 = .ok (.ifCond .eq 17, 3) := by decide +kernel
theorem dX12_points_39 : decode cX12_points 39 = .ok (.iload_n 1, 1) := by decide +kernel
theorem dX12_points_40 : decode cX12_points 40 = .ok (.aload_n 0, 1) := by decide +kernel
theorem dX12_points_41 : decode cX12_points 41 = .ok (.aload_n 0, 1) := by decide +kernel
theorem dX12_points_42 : decode cX12_points 42 = .ok (.getfield 9, 3) := by decide +kernel
theorem dX12_points_45 : decode cX12_points 45 = .ok (.iload_n 2, 1) := by decide +kernel
theorem dX12_points_46 : decode cX12_points 46 = .ok (.invokevirtual 291, 3) := by decide +kernel
theorem dX12_points_49 : decode cX12_points 49 = .ok (.invokestatic 248, 3) := by decide +kernel
theorem dX12_points_52 : decode cX12_points 52 = .ok (.istore_n 1, 1) := by decide +kernel
theorem dX12_points_53 : decode cX12_points 53 = .ok (.iinc 2 1, 3) := by decide +kernel
theorem dX12_points_56 : decode cX12_points 56 = .ok (.goto (-37), 3) := by decide +kernel
theorem dX12_points_59 : decode cX12_points 59 = .ok (.aload_n 0, 1) := by decide +kernel
theorem dX12_points_60 : decode cX12_points 60 = .ok (.iconst 0, 1) := by decide +kernel
theorem dX12_points_61 : decode cX12_points 61 = .ok (.putfield 132, 3) := by decide +kernel
theorem dX12_points_64 : decode cX12_points 64 = .ok (.aload_n 0, 1) := by decide +kernel
theorem dX12_points_65 : decode cX12_points 65 = .ok (.aload_n 0, 1) := by decide +kernel
theorem dX12_points_66 : decode cX12_points 66 = .ok (.aload_n 0, 1) := by decide +kernel
theorem dX12_points_67 : decode cX12_points 67 = .ok (.getfield 9, 3) := by decide +kernel
theorem dX12_points_70 : decode cX12_points 70 = .ok (.invokevirtual 319, 3) := by decide +kernel
theorem dX12_points_73 : decode cX12_points 73 = .ok (.i2l, 1) := by decide +kernel
theorem dX12_points_74 : decode cX12_points 74 = .ok (.invokevirtual 231, 3) := by decide +kernel
theorem dX12_points_77 : decode cX12_points 77 = .ok (.aload_n 0, 1) := by decide +kernel
theorem dX12_points_78 : decode cX12_points 78 = .ok (.iload_n 1, 1) := by decide +kernel
theorem dX12_points_79 : decode cX12_points 79 = .ok (.i2l, 1) := by decide +kernel
theorem dX12_points_80 : decode cX12_points 80 = .ok (.invokevirtual 231, 3) := by decide +kernel
theorem dX12_points_83 : decode cX12_points 83 = .ok (.aload_n 0, 1) := by decide +kernel
theorem dX12_points_84 : decode cX12_points 84 = .ok (.aload_n 0, 1) := by decide +kernel
theorem dX12_points_85 : decode cX12_points 85 = .ok (.getfield 9, 3) := by decide +kernel
theorem dX12_points_88 : decode cX12_points 88 = .ok (.invokevirtual 322, 3) := by decide +kernel
theorem dX12_points_91 : decode cX12_points 91 = .ok (.ireturn, 1) := by decide +kernel
theorem dX12_isManifold_0 : decode cX12_isManifold 0 = .ok (.aload_n 0, 1) := by decide +kernel
theorem dX12_isManifold_1 : decode cX12_isManifold 1 = .ok (.aload_n 1, 1) := by decide +kernel
theorem dX12_isManifold_2 : decode cX12_isManifold 2 = .ok (.invokevirtual 269, 3) := by decide +kernel
theorem dX12_isManifold_5 : decode cX12_isManifold 5 = .ok (.aload_n 0, 1) := by decide +kernel
theorem dX12_isManifold_6 : decode cX12_isManifold 6 = .ok (.aload_n 1, 1) := by decide +kernel
theorem dX12_isManifold_7 : decode cX12_isManifold 7 = .ok (.invokevirtual 309, 3) := by decide +kernel
theorem dX12_isManifold_10 : decode cX12_isManifold 10 = .ok (.aload_n 1, 1) := by decide +kernel
theorem dX12_isManifold_11 : decode cX12_isManifold 11 = .ok (.invokestatic 235, 3) := by decide +kernel
theorem dX12_isManifold_14 : decode cX12_isManifold 14 = .ok (.ifCond .ne 27, 3) := by decide +kernel
theorem dX12_isManifold_17 : decode cX12_isManifold 17 = .ok (.aload_n 0, 1) := by decide +kernel
theorem dX12_isManifold_18 : decode cX12_isManifold 18 = .ok (.invokevirtual 313, 3) := by decide +kernel
theorem dX12_isManifold_21 : decode cX12_isManifold 21 = .ok (.ifCond .ne 20, 3) := by decide +kernel
theorem dX12_isManifold_24 : decode cX12_isManifold 24 = .ok (.aload_n 0, 1) := by decide +kernel
theorem dX12_isManifold_25 : decode cX12_isManifold 25 = .ok (.aload_n 1, 1) := by decide +kernel
theorem dX12_isManifold_26 : decode cX12_isManifold 26 = .ok (.invokevirtual 319, 3) := by decide +kernel
theorem dX12_isManifold_29 : decode cX12_isManifold 29 = .ok (.aload_n 0, 1) := by decide +kernel
theorem dX12_isManifold_30 : decode cX12_isManifold 30 = .ok (.aload_n 1, 1) := by decide +kernel
theorem dX12_isManifold_31 : decode cX12_isManifold 31 = .ok (.invokevirtual 322, 3) := by decide +kernel
theorem dX12_isManifold_34 : decode cX12_isManifold 34 = .ok (.if_icmp .ne 7, 3) := by decide +kernel
theorem dX12_isManifold_37 : decode cX12_isManifold 37 = .ok (.iconst 1, 1) := by decide +kernel
theorem dX12_isManifold_38 : decode cX12_isManifold 38 = .ok (.goto 4, 3) := by decide +kernel
theorem dX12_isManifold_41 : decode cX12_isManifold 41 = .ok (.iconst 0, 1) := by decide +kernel
theorem dX12_isManifold_42 : decode cX12_isManifold 42 = .ok (.ireturn, 1) := by decide +kernel
theorem dX12_manifold_0 : decode cX12_manifold 0 = .ok (.aload_n 0, 1) := by decide +kernel
theorem dX12_manifold_1 : decode cX12_manifold 1 = .ok (.iconst 0, 1) := by decide +kernel
theorem dX12_manifold_2 : decode cX12_manifold 2 = .ok (.putfield 128, 3) := by decide +kernel
theorem dX12_manifold_5 : decode cX12_manifold 5 = .ok (.aload_n 0, 1) := by decide +kernel
theorem dX12_manifold_6 : decode cX12_manifold 6 = .ok (.aload_n 0, 1) := by decide +kernel
theorem dX12_manifold_7 : decode cX12_manifold 7 = .ok (.getfield 9, 3) := by decide +kernel
theorem dX12_manifold_10 : decode cX12_manifold 10 = .ok (.invokevirtual 325, 3) := by decide +kernel
theorem dX12_manifold_13 : decode cX12_manifold 13 = .ok (.istore_n 1, 1) := by decide +kernel
theorem dX12_manifold_14 : decode cX12_manifold 14 = .ok (.aload_n 0, 1) := by decide +kernel
theorem dX12_manifold_15 : decode cX12_manifold 15 = .ok (.iconst 0, 1) := by decide +kernel
theorem dX12_manifold_16 : decode cX12_manifold 16 = .ok (.putfield 132, 3) := by decide +kernel
theorem dX12_manifold_19 : decode cX12_manifold 19 = .ok (.aload_n 0, 1) := by decide +kernel
theorem dX12_manifold_20 : decode cX12_manifold 20 = .ok (.aload_n 0, 1) := by decide +kernel
theorem dX12_manifold_21 : decode cX12_manifold 21 = .ok (.getfield 9, 3) := by decide +kernel
theorem dX12_manifold_24 : decode cX12_manifold 24 = .ok (.invokestatic 235, 3) := by decide +kernel
theorem dX12_manifold_27 : decode cX12_manifold 27 = .ok (.i2l, 1) := by decide +kernel
theorem dX12_manifold_28 : decode cX12_manifold 28 = .ok (.invokevirtual 231, 3) := by decide +kernel
theorem dX12_manifold_31 : decode cX12_manifold 31 = .ok (.aload_n 0, 1) := by decide +kernel
theorem dX12_manifold_32 : decode cX12_manifold 32 = .ok (.aload_n 0, 1) := by decide +kernel
theorem dX12_manifold_33 : decode cX12_manifold 33 = .ok (.invokevirtual 313, 3) := by decide +kernel
theorem dX12_manifold_36 : decode cX12_manifold 36 = .ok (.i2l, 1) := by decide +kernel
theorem dX12_manifold_37 : decode cX12_manifold 37 = .ok (.invokevirtual 231, 3) := by decide +kernel
theorem dX12_manifold_40 : decode cX12_manifold 40 = .ok (.aload_n 0, 1) := by decide +kernel
theorem dX12_manifold_41 : decode cX12_manifold 41 = .ok (.aload_n 0, 1) := by decide +kernel
theorem dX12_manifold_42 : decode cX12_manifold 42 = .ok (.aload_n 0, 1) := by decide +kernel
theorem dX12_manifold_43 : decode cX12_manifold 43 = .ok (.getfield 9, 3) := by decide +kernel
theorem dX12_manifold_46 : decode cX12_manifold 46 = .ok (.invokevirtual 322, 3) := by decide +kernel
theorem dX12_manifold_49 : decode cX12_manifold 49 = .ok (.aload_n 0, 1) := by decide +kernel
theorem dX12_manifold_50 : decode cX12_manifold 50 = .ok (.aload_n 0, 1) := by decide +kernel
theorem dX12_manifold_51 : decode cX12_manifold 51 = .ok (.getfield 9, 3) := by decide +kernel
theorem dX12_manifold_54 : decode cX12_manifold 54 = .ok (.invokevirtual 319, 3) := by decide +kernel
theorem dX12_manifold_57 : decode cX12_manifold 57 = .ok (.isub, 1) := by decide +kernel
theorem dX12_manifold_58 : decode cX12_manifold 58 = .ok (.i2l, 1) := by decide +kernel
theorem dX12_manifold_59 : decode cX12_manifold 59 = .ok (.invokevirtual 231, 3) := by decide +kernel
theorem dX12_manifold_62 : decode cX12_manifold 62 = .ok (.iload_n 1, 1) := by decide +kernel
theorem dX12_manifold_63 : decode cX12_manifold 63 = .ok (.ifCond .eq 7, 3) := by decide +kernel
theorem dX12_manifold_66 : decode cX12_manifold 66 = .ok (.iconst 1, 1) := by decide +kernel
theorem dX12_manifold_67 : decode cX12_manifold 67 = .ok (.goto 4, 3) := by decide +kernel
theorem dX12_manifold_70 : decode cX12_manifold 70 = .ok (.iconst 0, 1) := by decide +kernel
theorem dX12_manifold_71 : decode cX12_manifold 71 = .ok (.ireturn, 1) := by decide +kernel
theorem dX12_laySides_0 : decode cX12_laySides 0 = .ok (.iconst 0, 1) := by decide +kernel
theorem dX12_laySides_1 : decode cX12_laySides 1 = .ok (.istore_n 1, 1) := by decide +kernel
theorem dX12_laySides_2 : decode cX12_laySides 2 = .ok (.iload_n 1, 1) := by decide +kernel
theorem dX12_laySides_3 : decode cX12_laySides 3 = .ok (.bipush 8, 2) := by decide +kernel
theorem dX12_laySides_5 : decode cX12_laySides 5 = .ok (.if_icmp .ge 16, 3) := by decide +kernel
theorem dX12_laySides_8 : decode cX12_laySides 8 = .ok (.aload_n 0, 1) := by decide +kernel
theorem dX12_laySides_9 : decode cX12_laySides 9 = .ok (.getfield 57, 3) := by decide +kernel
theorem dX12_laySides_12 : decode cX12_laySides 12 = .ok (.iload_n 1, 1) := by decide +kernel
theorem dX12_laySides_13 : decode cX12_laySides 13 = .ok (.iconst (-1), 1) := by decide +kernel
theorem dX12_laySides_14 : decode cX12_laySides 14 = .ok (.iastore, 1) := by decide +kernel
theorem dX12_laySides_15 : decode cX12_laySides 15 = .ok (.iinc 1 1, 3) := by decide +kernel
theorem dX12_laySides_18 : decode cX12_laySides 18 = .ok (.goto (-16), 3) := by decide +kernel
theorem dX12_laySides_21 : decode cX12_laySides 21 = .ok (.aload_n 0, 1) := by decide +kernel
theorem dX12_laySides_22 : decode cX12_laySides 22 = .ok (.getfield 57, 3) := by decide +kernel
theorem dX12_laySides_25 : decode cX12_laySides 25 = .ok (.iconst 0, 1) := by decide +kernel
theorem dX12_laySides_26 : decode cX12_laySides 26 = .ok (.iconst 0, 1) := by decide +kernel
theorem dX12_laySides_27 : decode cX12_laySides 27 = .ok (.iastore, 1) := by decide +kernel
theorem dX12_laySides_28 : decode cX12_laySides 28 = .ok (.iconst 0, 1) := by decide +kernel
theorem dX12_laySides_29 : decode cX12_laySides 29 = .ok (.istore_n 1, 1) := by decide +kernel
theorem dX12_laySides_30 : decode cX12_laySides 30 = .ok (.iload_n 1, 1) := by decide +kernel
theorem dX12_laySides_31 : decode cX12_laySides 31 = .ok (.aload_n 0, 1) := by decide +kernel
theorem dX12_laySides_32 : decode cX12_laySides 32 = .ok (.getfield 9, 3) := by decide +kernel
theorem dX12_laySides_35 : decode cX12_laySides 35 = .ok (.iconst 0, 1) := by decide +kernel
theorem dX12_laySides_36 : decode cX12_laySides 36 = .ok (.iaload, 1) := by decide +kernel
theorem dX12_laySides_37 : decode cX12_laySides 37 = .ok (.if_icmp .ge 112, 3) := by decide +kernel
theorem dX12_laySides_40 : decode cX12_laySides 40 = .ok (.iconst 0, 1) := by decide +kernel
theorem dX12_laySides_41 : decode cX12_laySides 41 = .ok (.istore_n 2, 1) := by decide +kernel
theorem dX12_laySides_42 : decode cX12_laySides 42 = .ok (.iload_n 2, 1) := by decide +kernel
theorem dX12_laySides_43 : decode cX12_laySides 43 = .ok (.iconst 4, 1) := by decide +kernel
theorem dX12_laySides_44 : decode cX12_laySides 44 = .ok (.if_icmp .ge 99, 3) := by decide +kernel
theorem dX12_laySides_47 : decode cX12_laySides 47 = .ok (.aload_n 0, 1) := by decide +kernel
theorem dX12_laySides_48 : decode cX12_laySides 48 = .ok (.getfield 9, 3) := by decide +kernel
theorem dX12_laySides_51 : decode cX12_laySides 51 = .ok (.iload_n 1, 1) := by decide +kernel
theorem dX12_laySides_52 : decode cX12_laySides 52 = .ok (.iload_n 2, 1) := by decide +kernel
theorem dX12_laySides_53 : decode cX12_laySides 53 = .ok (.invokestatic 150, 3) := by decide +kernel
theorem dX12_laySides_56 : decode cX12_laySides 56 = .ok (.istore_n 3, 1) := by decide +kernel
theorem dX12_laySides_57 : decode cX12_laySides 57 = .ok (.iload_n 3, 1) := by decide +kernel
theorem dX12_laySides_58 : decode cX12_laySides 58 = .ok (.iconst (-1), 1) := by decide +kernel
theorem dX12_laySides_59 : decode cX12_laySides 59 = .ok (.if_icmp .ne 6, 3) := by decide +kernel
theorem dX12_laySides_62 : decode cX12_laySides 62 = .ok (.goto 75, 3) := by decide +kernel
theorem dX12_laySides_65 : decode cX12_laySides 65 = .ok (.iload_n 3, 1) := by decide +kernel
theorem dX12_laySides_66 : decode cX12_laySides 66 = .ok (.bipush 24, 2) := by decide +kernel
theorem dX12_laySides_68 : decode cX12_laySides 68 = .ok (.irem, 1) := by decide +kernel
theorem dX12_laySides_69 : decode cX12_laySides 69 = .ok (.invokestatic 328, 3) := by decide +kernel
theorem dX12_laySides_72 : decode cX12_laySides 72 = .ok (.ifCond .eq 14, 3) := by decide +kernel
theorem dX12_laySides_75 : decode cX12_laySides 75 = .ok (.iconst 1, 1) := by decide +kernel
theorem dX12_laySides_76 : decode cX12_laySides 76 = .ok (.aload_n 0, 1) := by decide +kernel
theorem dX12_laySides_77 : decode cX12_laySides 77 = .ok (.getfield 57, 3) := by decide +kernel
theorem dX12_laySides_80 : decode cX12_laySides 80 = .ok (.iload_n 1, 1) := by decide +kernel
theorem dX12_laySides_81 : decode cX12_laySides 81 = .ok (.iaload, 1) := by decide +kernel
theorem dX12_laySides_82 : decode cX12_laySides 82 = .ok (.isub, 1) := by decide +kernel
theorem dX12_laySides_83 : decode cX12_laySides 83 = .ok (.goto 9, 3) := by decide +kernel
theorem dX12_laySides_86 : decode cX12_laySides 86 = .ok (.aload_n 0, 1) := by decide +kernel
theorem dX12_laySides_87 : decode cX12_laySides 87 = .ok (.getfield 57, 3) := by decide +kernel
theorem dX12_laySides_90 : decode cX12_laySides 90 = .ok (.iload_n 1, 1) := by decide +kernel
theorem dX12_laySides_91 : decode cX12_laySides 91 = .ok (.iaload, 1) := by decide +kernel
theorem dX12_laySides_92 : decode cX12_laySides 92 = .ok (.istore 4, 2) := by decide +kernel
theorem dX12_laySides_94 : decode cX12_laySides 94 = .ok (.aload_n 0, 1) := by decide +kernel
theorem dX12_laySides_95 : decode cX12_laySides 95 = .ok (.getfield 57, 3) := by decide +kernel
theorem dX12_laySides_98 : decode cX12_laySides 98 = .ok (.iload_n 3, 1) := by decide +kernel
theorem dX12_laySides_99 : decode cX12_laySides 99 = .ok (.bipush 24, 2) := by decide +kernel
theorem dX12_laySides_101 : decode cX12_laySides 101 = .ok (.idiv, 1) := by decide +kernel
theorem dX12_laySides_102 : decode cX12_laySides 102 = .ok (.iaload, 1) := by decide +kernel
theorem dX12_laySides_103 : decode cX12_laySides 103 = .ok (.iconst (-1), 1) := by decide +kernel
theorem dX12_laySides_104 : decode cX12_laySides 104 = .ok (.if_icmp .ne 17, 3) := by decide +kernel
theorem dX12_laySides_107 : decode cX12_laySides 107 = .ok (.aload_n 0, 1) := by decide +kernel
theorem dX12_laySides_108 : decode cX12_laySides 108 = .ok (.getfield 57, 3) := by decide +kernel
theorem dX12_laySides_111 : decode cX12_laySides 111 = .ok (.iload_n 3, 1) := by decide +kernel
theorem dX12_laySides_112 : decode cX12_laySides 112 = .ok (.bipush 24, 2) := by decide +kernel
theorem dX12_laySides_114 : decode cX12_laySides 114 = .ok (.idiv, 1) := by decide +kernel
theorem dX12_laySides_115 : decode cX12_laySides 115 = .ok (.iload 4, 2) := by decide +kernel
theorem dX12_laySides_117 : decode cX12_laySides 117 = .ok (.iastore, 1) := by decide +kernel
theorem dX12_laySides_118 : decode cX12_laySides 118 = .ok (.goto 19, 3) := by decide +kernel
theorem dX12_laySides_121 : decode cX12_laySides 121 = .ok (.aload_n 0, 1) := by decide +kernel
theorem dX12_laySides_122 : decode cX12_laySides 122 = .ok (.getfield 57, 3) := by decide +kernel
theorem dX12_laySides_125 : decode cX12_laySides 125 = .ok (.iload_n 3, 1) := by decide +kernel
theorem dX12_laySides_126 : decode cX12_laySides 126 = .ok (.bipush 24, 2) := by decide +kernel
theorem dX12_laySides_128 : decode cX12_laySides 128 = .ok (.idiv, 1) := by decide +kernel
theorem dX12_laySides_129 : decode cX12_laySides 129 = .ok (.iaload, 1) := by decide +kernel
theorem dX12_laySides_130 : decode cX12_laySides 130 = .ok (.iload 4, 2) := by decide +kernel
theorem dX12_laySides_132 : decode cX12_laySides 132 = .ok (.if_icmp .eq 5, 3) := by decide +kernel
theorem dX12_laySides_135 : decode cX12_laySides 135 = .ok (.iconst 0, 1) := by decide +kernel
theorem dX12_laySides_136 : decode cX12_laySides 136 = .ok (.ireturn, 1) := by decide +kernel
theorem dX12_laySides_137 : decode cX12_laySides 137 = .ok (.iinc 2 1, 3) := by decide +kernel
theorem dX12_laySides_140 : decode cX12_laySides 140 = .ok (.goto (-98), 3) := by decide +kernel
theorem dX12_laySides_143 : decode cX12_laySides 143 = .ok (.iinc 1 1, 3) := by decide +kernel
theorem dX12_laySides_146 : decode cX12_laySides 146 = .ok (.goto (-116), 3) := by decide +kernel
theorem dX12_laySides_149 : decode cX12_laySides 149 = .ok (.iconst 1, 1) := by decide +kernel
theorem dX12_laySides_150 : decode cX12_laySides 150 = .ok (.ireturn, 1) := by decide +kernel
theorem dX12_sides_0 : decode cX12_sides 0 = .ok (.aload_n 0, 1) := by decide +kernel
theorem dX12_sides_1 : decode cX12_sides 1 = .ok (.iconst 0, 1) := by decide +kernel
theorem dX12_sides_2 : decode cX12_sides 2 = .ok (.putfield 128, 3) := by decide +kernel
theorem dX12_sides_5 : decode cX12_sides 5 = .ok (.aload_n 0, 1) := by decide +kernel
theorem dX12_sides_6 : decode cX12_sides 6 = .ok (.invokevirtual 331, 3) := by decide +kernel
theorem dX12_sides_9 : decode cX12_sides 9 = .ok (.istore_n 1, 1) := by decide +kernel
theorem dX12_sides_10 : decode cX12_sides 10 = .ok (.aload_n 0, 1) := by decide +kernel
theorem dX12_sides_11 : decode cX12_sides 11 = .ok (.iconst 0, 1) := by decide +kernel
theorem dX12_sides_12 : decode cX12_sides 12 = .ok (.putfield 132, 3) := by decide +kernel
theorem dX12_sides_15 : decode cX12_sides 15 = .ok (.iconst 0, 1) := by decide +kernel
theorem dX12_sides_16 : decode cX12_sides 16 = .ok (.istore_n 2, 1) := by decide +kernel
theorem dX12_sides_17 : decode cX12_sides 17 = .ok (.iconst 0, 1) := by decide +kernel
theorem dX12_sides_18 : decode cX12_sides 18 = .ok (.istore_n 3, 1) := by decide +kernel
theorem dX12_sides_19 : decode cX12_sides 19 = .ok (.iload_n 3, 1) := by decide +kernel
theorem dX12_sides_20 : decode cX12_sides 20 = .ok (.aload_n 0, 1) := by decide +kernel
theorem dX12_sides_21 : decode cX12_sides 21 = .ok (.getfield 9, 3) := by decide +kernel
theorem dX12_sides_24 : decode cX12_sides 24 = .ok (.iconst 0, 1) := by decide +kernel
theorem dX12_sides_25 : decode cX12_sides 25 = .ok (.iaload, 1) := by decide +kernel
theorem dX12_sides_26 : decode cX12_sides 26 = .ok (.if_icmp .ge 29, 3) := by decide +kernel
theorem dX12_sides_29 : decode cX12_sides 29 = .ok (.iload_n 2, 1) := by decide +kernel
theorem dX12_sides_30 : decode cX12_sides 30 = .ok (.aload_n 0, 1) := by decide +kernel
theorem dX12_sides_31 : decode cX12_sides 31 = .ok (.getfield 57, 3) := by decide +kernel
theorem dX12_sides_34 : decode cX12_sides 34 = .ok (.iload_n 3, 1) := by decide +kernel
theorem dX12_sides_35 : decode cX12_sides 35 = .ok (.iaload, 1) := by decide +kernel
theorem dX12_sides_36 : decode cX12_sides 36 = .ok (.iconst 1, 1) := by decide +kernel
theorem dX12_sides_37 : decode cX12_sides 37 = .ok (.if_icmp .ne 9, 3) := by decide +kernel
theorem dX12_sides_40 : decode cX12_sides 40 = .ok (.iconst 1, 1) := by decide +kernel
theorem dX12_sides_41 : decode cX12_sides 41 = .ok (.iload_n 3, 1) := by decide +kernel
theorem dX12_sides_42 : decode cX12_sides 42 = .ok (.ishl, 1) := by decide +kernel
theorem dX12_sides_43 : decode cX12_sides 43 = .ok (.goto 4, 3) := by decide +kernel
theorem dX12_sides_46 : decode cX12_sides 46 = .ok (.iconst 0, 1) := by decide +kernel
theorem dX12_sides_47 : decode cX12_sides 47 = .ok (.ior, 1) := by decide +kernel
theorem dX12_sides_48 : decode cX12_sides 48 = .ok (.istore_n 2, 1) := by decide +kernel
theorem dX12_sides_49 : decode cX12_sides 49 = .ok (.iinc 3 1, 3) := by decide +kernel
theorem dX12_sides_52 : decode cX12_sides 52 = .ok (.goto (-33), 3) := by decide +kernel
theorem dX12_sides_55 : decode cX12_sides 55 = .ok (.iload_n 1, 1) := by decide +kernel
theorem dX12_sides_56 : decode cX12_sides 56 = .ok (.ifCond .eq 9, 3) := by decide +kernel
theorem dX12_sides_59 : decode cX12_sides 59 = .ok (.aload_n 0, 1) := by decide +kernel
theorem dX12_sides_60 : decode cX12_sides 60 = .ok (.iload_n 2, 1) := by decide +kernel
theorem dX12_sides_61 : decode cX12_sides 61 = .ok (.i2l, 1) := by decide +kernel
theorem dX12_sides_62 : decode cX12_sides 62 = .ok (.invokevirtual 231, 3) := by decide +kernel
theorem dX12_sides_65 : decode cX12_sides 65 = .ok (.iload_n 1, 1) := by decide +kernel
theorem dX12_sides_66 : decode cX12_sides 66 = .ok (.ifCond .eq 7, 3) := by decide +kernel
theorem dX12_sides_69 : decode cX12_sides 69 = .ok (.iconst 1, 1) := by decide +kernel
theorem dX12_sides_70 : decode cX12_sides 70 = .ok (.goto 4, 3) := by decide +kernel
theorem dX12_sides_73 : decode cX12_sides 73 = .ok (.iconst 0, 1) := by decide +kernel
theorem dX12_sides_74 : decode cX12_sides 74 = .ok (.ireturn, 1) := by decide +kernel
theorem dX12_layGenerators_0 : decode cX12_layGenerators 0 = .ok (.iconst 1, 1) := by decide +kernel
theorem dX12_layGenerators_1 : decode cX12_layGenerators 1 = .ok (.istore_n 1, 1) := by decide +kernel
theorem dX12_layGenerators_2 : decode cX12_layGenerators 2 = .ok (.aload_n 0, 1) := by decide +kernel
theorem dX12_layGenerators_3 : decode cX12_layGenerators 3 = .ok (.iconst 0, 1) := by decide +kernel
theorem dX12_layGenerators_4 : decode cX12_layGenerators 4 = .ok (.putfield 334, 3) := by decide +kernel
theorem dX12_layGenerators_7 : decode cX12_layGenerators 7 = .ok (.iconst 0, 1) := by decide +kernel
theorem dX12_layGenerators_8 : decode cX12_layGenerators 8 = .ok (.istore_n 2, 1) := by decide +kernel
theorem dX12_layGenerators_9 : decode cX12_layGenerators 9 = .ok (.iload_n 2, 1) := by decide +kernel
theorem dX12_layGenerators_10 : decode cX12_layGenerators 10 = .ok (.bipush 32, 2) := by decide +kernel
theorem dX12_layGenerators_12 : decode cX12_layGenerators 12 = .ok (.if_icmp .ge 16, 3) := by decide +kernel
theorem dX12_layGenerators_15 : decode cX12_layGenerators 15 = .ok (.aload_n 0, 1) := by decide +kernel
theorem dX12_layGenerators_16 : decode cX12_layGenerators 16 = .ok (.getfield 60, 3) := by decide +kernel
theorem dX12_layGenerators_19 : decode cX12_layGenerators 19 = .ok (.iload_n 2, 1) := by decide +kernel
theorem dX12_layGenerators_20 : decode cX12_layGenerators 20 = .ok (.iconst 0, 1) := by decide +kernel
theorem dX12_layGenerators_21 : decode cX12_layGenerators 21 = .ok (.iastore, 1) := by decide +kernel
theorem dX12_layGenerators_22 : decode cX12_layGenerators 22 = .ok (.iinc 2 1, 3) := by decide +kernel
theorem dX12_layGenerators_25 : decode cX12_layGenerators 25 = .ok (.goto (-16), 3) := by decide +kernel
theorem dX12_layGenerators_28 : decode cX12_layGenerators 28 = .ok (.iconst 0, 1) := by decide +kernel
theorem dX12_layGenerators_29 : decode cX12_layGenerators 29 = .ok (.istore_n 2, 1) := by decide +kernel
theorem dX12_layGenerators_30 : decode cX12_layGenerators 30 = .ok (.iload_n 2, 1) := by decide +kernel
theorem dX12_layGenerators_31 : decode cX12_layGenerators 31 = .ok (.aload_n 0, 1) := by decide +kernel
theorem dX12_layGenerators_32 : decode cX12_layGenerators 32 = .ok (.getfield 9, 3) := by decide +kernel
theorem dX12_layGenerators_35 : decode cX12_layGenerators 35 = .ok (.iconst 0, 1) := by decide +kernel
theorem dX12_layGenerators_36 : decode cX12_layGenerators 36 = .ok (.iaload, 1) := by decide +kernel
theorem dX12_layGenerators_37 : decode cX12_layGenerators 37 = .ok (.if_icmp .ge 146, 3) := by decide +kernel
theorem dX12_layGenerators_40 : decode cX12_layGenerators 40 = .ok (.iconst 0, 1) := by decide +kernel
theorem dX12_layGenerators_41 : decode cX12_layGenerators 41 = .ok (.istore_n 3, 1) := by decide +kernel
theorem dX12_layGenerators_42 : decode cX12_layGenerators 42 = .ok (.iload_n 3, 1) := by decide +kernel
theorem dX12_layGenerators_43 : decode cX12_layGenerators 43 = .ok (.iconst 4, 1) := by decide +kernel
theorem dX12_layGenerators_44 : decode cX12_layGenerators 44 = .ok (.if_icmp .ge 133, 3) := by decide +kernel
theorem dX12_layGenerators_47 : decode cX12_layGenerators 47 = .ok (.aload_n 0, 1) := by decide +kernel
theorem dX12_layGenerators_48 : decode cX12_layGenerators 48 = .ok (.getfield 9, 3) := by decide +kernel
theorem dX12_layGenerators_51 : decode cX12_layGenerators 51 = .ok (.iload_n 2, 1) := by decide +kernel
theorem dX12_layGenerators_52 : decode cX12_layGenerators 52 = .ok (.iload_n 3, 1) := by decide +kernel
theorem dX12_layGenerators_53 : decode cX12_layGenerators 53 = .ok (.invokestatic 150, 3) := by decide +kernel
theorem dX12_layGenerators_56 : decode cX12_layGenerators 56 = .ok (.istore 4, 2) := by decide +kernel
theorem dX12_layGenerators_58 : decode cX12_layGenerators 58 = .ok (.iload 4, 2) := by decide +kernel
theorem dX12_layGenerators_60 : decode cX12_layGenerators 60 = .ok (.iconst (-1), 1) := by decide +kernel
theorem dX12_layGenerators_61 : decode cX12_layGenerators 61 = .ok (.if_icmp .eq 110, 3) := by decide +kernel
theorem dX12_layGenerators_64 : decode cX12_layGenerators 64 = .ok (.aload_n 0, 1) := by decide +kernel
theorem dX12_layGenerators_65 : decode cX12_layGenerators 65 = .ok (.getfield 60, 3) := by decide +kernel
theorem dX12_layGenerators_68 : decode cX12_layGenerators 68 = .ok (.iconst 4, 1) := by decide +kernel
theorem dX12_layGenerators_69 : decode cX12_layGenerators 69 = .ok (.iload_n 2, 1) := by decide +kernel
theorem dX12_layGenerators_70 : decode cX12_layGenerators 70 = .ok (.imul, 1) := by decide +kernel
theorem dX12_layGenerators_71 : decode cX12_layGenerators 71 = .ok (.iload_n 3, 1) := by decide +kernel
theorem dX12_layGenerators_72 : decode cX12_layGenerators 72 = .ok (.iadd, 1) := by decide +kernel
theorem dX12_layGenerators_73 : decode cX12_layGenerators 73 = .ok (.iaload, 1) := by decide +kernel
theorem dX12_layGenerators_74 : decode cX12_layGenerators 74 = .ok (.ifCond .eq 6, 3) := by decide +kernel
theorem dX12_layGenerators_77 : decode cX12_layGenerators 77 = .ok (.goto 94, 3) := by decide +kernel
theorem dX12_layGenerators_80 : decode cX12_layGenerators 80 = .ok (.iload 4, 2) := by decide +kernel
theorem dX12_layGenerators_82 : decode cX12_layGenerators 82 = .ok (.bipush 24, 2) := by decide +kernel
theorem dX12_layGenerators_84 : decode cX12_layGenerators 84 = .ok (.idiv, 1) := by decide +kernel
theorem dX12_layGenerators_85 : decode cX12_layGenerators 85 = .ok (.istore 5, 2) := by decide +kernel
theorem dX12_layGenerators_87 : decode cX12_layGenerators 87 = .ok (.iconst 4, 1) := by decide +kernel
theorem dX12_layGenerators_88 : decode cX12_layGenerators 88 = .ok (.iload 5, 2) := by decide +kernel
theorem dX12_layGenerators_90 : decode cX12_layGenerators 90 = .ok (.imul, 1) := by decide +kernel
theorem dX12_layGenerators_91 : decode cX12_layGenerators 91 = .ok (.iload 4, 2) := by decide +kernel
theorem dX12_layGenerators_93 : decode cX12_layGenerators 93 = .ok (.bipush 24, 2) := by decide +kernel
theorem dX12_layGenerators_95 : decode cX12_layGenerators 95 = .ok (.irem, 1) := by decide +kernel
theorem dX12_layGenerators_96 : decode cX12_layGenerators 96 = .ok (.iload_n 3, 1) := by decide +kernel
theorem dX12_layGenerators_97 : decode cX12_layGenerators 97 = .ok (.invokestatic 124, 3) := by decide +kernel
theorem dX12_layGenerators_100 : decode cX12_layGenerators 100 = .ok (.iadd, 1) := by decide +kernel
theorem dX12_layGenerators_101 : decode cX12_layGenerators 101 = .ok (.istore 6, 2) := by decide +kernel
theorem dX12_layGenerators_103 : decode cX12_layGenerators 103 = .ok (.iload 6, 2) := by decide +kernel
theorem dX12_layGenerators_105 : decode cX12_layGenerators 105 = .ok (.iconst 4, 1) := by decide +kernel
theorem dX12_layGenerators_106 : decode cX12_layGenerators 106 = .ok (.iload_n 2, 1) := by decide +kernel
theorem dX12_layGenerators_107 : decode cX12_layGenerators 107 = .ok (.imul, 1) := by decide +kernel
theorem dX12_layGenerators_108 : decode cX12_layGenerators 108 = .ok (.iload_n 3, 1) := by decide +kernel
theorem dX12_layGenerators_109 : decode cX12_layGenerators 109 = .ok (.iadd, 1) := by decide +kernel
theorem dX12_layGenerators_110 : decode cX12_layGenerators 110 = .ok (.if_icmp .ge 6, 3) := by decide +kernel
theorem dX12_layGenerators_113 : decode cX12_layGenerators 113 = .ok (.goto 58, 3) := by decide +kernel
theorem dX12_layGenerators_116 : decode cX12_layGenerators 116 = .ok (.iload_n 1, 1) := by decide +kernel
theorem dX12_layGenerators_117 : decode cX12_layGenerators 117 = .ok (.iload 5, 2) := by decide +kernel
theorem dX12_layGenerators_119 : decode cX12_layGenerators 119 = .ok (.ishr, 1) := by decide +kernel
theorem dX12_layGenerators_120 : decode cX12_layGenerators 120 = .ok (.iconst 1, 1) := by decide +kernel
theorem dX12_layGenerators_121 : decode cX12_layGenerators 121 = .ok (.iand, 1) := by decide +kernel
theorem dX12_layGenerators_122 : decode cX12_layGenerators 122 = .ok (.ifCond .ne 13, 3) := by decide +kernel
theorem dX12_layGenerators_125 : decode cX12_layGenerators 125 = .ok (.iload_n 1, 1) := by decide +kernel
theorem dX12_layGenerators_126 : decode cX12_layGenerators 126 = .ok (.iconst 1, 1) := by decide +kernel
theorem dX12_layGenerators_127 : decode cX12_layGenerators 127 = .ok (.iload 5, 2) := by decide +kernel
theorem dX12_layGenerators_129 : decode cX12_layGenerators 129 = .ok (.ishl, 1) := by decide +kernel
theorem dX12_layGenerators_130 : decode cX12_layGenerators 130 = .ok (.ior, 1) := by decide +kernel
theorem dX12_layGenerators_131 : decode cX12_layGenerators 131 = .ok (.istore_n 1, 1) := by decide +kernel
theorem dX12_layGenerators_132 : decode cX12_layGenerators 132 = .ok (.goto 39, 3) := by decide +kernel
theorem dX12_layGenerators_135 : decode cX12_layGenerators 135 = .ok (.aload_n 0, 1) := by decide +kernel
theorem dX12_layGenerators_136 : decode cX12_layGenerators 136 = .ok (.dup, 1) := by decide +kernel
theorem dX12_layGenerators_137 : decode cX12_layGenerators 137 = .ok (.getfield 334, 3) := by decide +kernel
theorem dX12_layGenerators_140 : decode cX12_layGenerators 140 = .ok (.iconst 1, 1) := by decide +kernel
theorem dX12_layGenerators_141 : decode cX12_layGenerators 141 = .ok (.iadd, 1) := by decide +kernel
theorem dX12_layGenerators_142 : decode cX12_layGenerators 142 = .ok (.putfield 334, 3) := by decide +kernel
theorem dX12_layGenerators_145 : decode cX12_layGenerators 145 = .ok (.aload_n 0, 1) := by decide +kernel
theorem dX12_layGenerators_146 : decode cX12_layGenerators 146 = .ok (.getfield 60, 3) := by decide +kernel
theorem dX12_layGenerators_149 : decode cX12_layGenerators 149 = .ok (.iconst 4, 1) := by decide +kernel
theorem dX12_layGenerators_150 : decode cX12_layGenerators 150 = .ok (.iload_n 2, 1) := by decide +kernel
theorem dX12_layGenerators_151 : decode cX12_layGenerators 151 = .ok (.imul, 1) := by decide +kernel
theorem dX12_layGenerators_152 : decode cX12_layGenerators 152 = .ok (.iload_n 3, 1) := by decide +kernel
theorem dX12_layGenerators_153 : decode cX12_layGenerators 153 = .ok (.iadd, 1) := by decide +kernel
theorem dX12_layGenerators_154 : decode cX12_layGenerators 154 = .ok (.aload_n 0, 1) := by decide +kernel
theorem dX12_layGenerators_155 : decode cX12_layGenerators 155 = .ok (.getfield 334, 3) := by decide +kernel
theorem dX12_layGenerators_158 : decode cX12_layGenerators 158 = .ok (.iastore, 1) := by decide +kernel
theorem dX12_layGenerators_159 : decode cX12_layGenerators 159 = .ok (.aload_n 0, 1) := by decide +kernel
theorem dX12_layGenerators_160 : decode cX12_layGenerators 160 = .ok (.getfield 60, 3) := by decide +kernel
theorem dX12_layGenerators_163 : decode cX12_layGenerators 163 = .ok (.iload 6, 2) := by decide +kernel
theorem dX12_layGenerators_165 : decode cX12_layGenerators 165 = .ok (.aload_n 0, 1) := by decide +kernel
theorem dX12_layGenerators_166 : decode cX12_layGenerators 166 = .ok (.getfield 334, 3) := by decide +kernel
theorem dX12_layGenerators_169 : decode cX12_layGenerators 169 = .ok (.ineg, 1) := by decide +kernel
theorem dX12_layGenerators_170 : decode cX12_layGenerators 170 = .ok (.iastore, 1) := by decide +kernel
theorem dX12_layGenerators_171 : decode cX12_layGenerators 171 = .ok (.iinc 3 1, 3) := by decide +kernel
theorem dX12_layGenerators_174 : decode cX12_layGenerators 174 = .ok (.goto (-132), 3) := by decide +kernel
theorem dX12_layGenerators_177 : decode cX12_layGenerators 177 = .ok (.iinc 2 1, 3) := by decide +kernel
theorem dX12_layGenerators_180 : decode cX12_layGenerators 180 = .ok (.goto (-150), 3) := by decide +kernel
theorem dX12_layGenerators_183 : decode cX12_layGenerators 183 = .ok (.return_, 1) := by decide +kernel
theorem dX12_goRound_0 : decode cX12_goRound 0 = .ok (.aload_n 0, 1) := by decide +kernel
theorem dX12_goRound_1 : decode cX12_goRound 1 = .ok (.getfield 54, 3) := by decide +kernel
theorem dX12_goRound_4 : decode cX12_goRound 4 = .ok (.iload_n 1, 1) := by decide +kernel
theorem dX12_goRound_5 : decode cX12_goRound 5 = .ok (.iaload, 1) := by decide +kernel
theorem dX12_goRound_6 : decode cX12_goRound 6 = .ok (.bipush 16, 2) := by decide +kernel
theorem dX12_goRound_8 : decode cX12_goRound 8 = .ok (.idiv, 1) := by decide +kernel
theorem dX12_goRound_9 : decode cX12_goRound 9 = .ok (.istore_n 3, 1) := by decide +kernel
theorem dX12_goRound_10 : decode cX12_goRound 10 = .ok (.aload_n 0, 1) := by decide +kernel
theorem dX12_goRound_11 : decode cX12_goRound 11 = .ok (.getfield 54, 3) := by decide +kernel
theorem dX12_goRound_14 : decode cX12_goRound 14 = .ok (.iload_n 1, 1) := by decide +kernel
theorem dX12_goRound_15 : decode cX12_goRound 15 = .ok (.iaload, 1) := by decide +kernel
theorem dX12_goRound_16 : decode cX12_goRound 16 = .ok (.iconst 4, 1) := by decide +kernel
theorem dX12_goRound_17 : decode cX12_goRound 17 = .ok (.idiv, 1) := by decide +kernel
theorem dX12_goRound_18 : decode cX12_goRound 18 = .ok (.iconst 4, 1) := by decide +kernel
theorem dX12_goRound_19 : decode cX12_goRound 19 = .ok (.irem, 1) := by decide +kernel
theorem dX12_goRound_20 : decode cX12_goRound 20 = .ok (.istore 4, 2) := by decide +kernel
theorem dX12_goRound_22 : decode cX12_goRound 22 = .ok (.aload_n 0, 1) := by decide +kernel
theorem dX12_goRound_23 : decode cX12_goRound 23 = .ok (.getfield 54, 3) := by decide +kernel
theorem dX12_goRound_26 : decode cX12_goRound 26 = .ok (.iload_n 1, 1) := by decide +kernel
theorem dX12_goRound_27 : decode cX12_goRound 27 = .ok (.iaload, 1) := by decide +kernel
theorem dX12_goRound_28 : decode cX12_goRound 28 = .ok (.iconst 4, 1) := by decide +kernel
theorem dX12_goRound_29 : decode cX12_goRound 29 = .ok (.irem, 1) := by decide +kernel
theorem dX12_goRound_30 : decode cX12_goRound 30 = .ok (.istore 5, 2) := by decide +kernel
theorem dX12_goRound_32 : decode cX12_goRound 32 = .ok (.iconst 0, 1) := by decide +kernel
theorem dX12_goRound_33 : decode cX12_goRound 33 = .ok (.istore 6, 2) := by decide +kernel
theorem dX12_goRound_35 : decode cX12_goRound 35 = .ok (.iload 6, 2) := by decide +kernel
theorem dX12_goRound_37 : decode cX12_goRound 37 = .ok (.iload 4, 2) := by decide +kernel
theorem dX12_goRound_39 : decode cX12_goRound 39 = .ok (.if_icmp .eq 10, 3) := by decide +kernel
theorem dX12_goRound_42 : decode cX12_goRound 42 = .ok (.iload 6, 2) := by decide +kernel
theorem dX12_goRound_44 : decode cX12_goRound 44 = .ok (.iload 5, 2) := by decide +kernel
theorem dX12_goRound_46 : decode cX12_goRound 46 = .ok (.if_icmp .ne 9, 3) := by decide +kernel
theorem dX12_goRound_49 : decode cX12_goRound 49 = .ok (.iinc 6 1, 3) := by decide +kernel
theorem dX12_goRound_52 : decode cX12_goRound 52 = .ok (.goto (-17), 3) := by decide +kernel
theorem dX12_goRound_55 : decode cX12_goRound 55 = .ok (.aload_n 0, 1) := by decide +kernel
theorem dX12_goRound_56 : decode cX12_goRound 56 = .ok (.aload_n 0, 1) := by decide +kernel
theorem dX12_goRound_57 : decode cX12_goRound 57 = .ok (.getfield 9, 3) := by decide +kernel
theorem dX12_goRound_60 : decode cX12_goRound 60 = .ok (.aload_n 0, 1) := by decide +kernel
theorem dX12_goRound_61 : decode cX12_goRound 61 = .ok (.iload_n 1, 1) := by decide +kernel
theorem dX12_goRound_62 : decode cX12_goRound 62 = .ok (.invokevirtual 303, 3) := by decide +kernel
theorem dX12_goRound_65 : decode cX12_goRound 65 = .ok (.invokevirtual 279, 3) := by decide +kernel
theorem dX12_goRound_68 : decode cX12_goRound 68 = .ok (.istore 7, 2) := by decide +kernel
theorem dX12_goRound_70 : decode cX12_goRound 70 = .ok (.iconst 0, 1) := by decide +kernel
theorem dX12_goRound_71 : decode cX12_goRound 71 = .ok (.istore 8, 2) := by decide +kernel
theorem dX12_goRound_73 : decode cX12_goRound 73 = .ok (.iload 8, 2) := by decide +kernel
theorem dX12_goRound_75 : decode cX12_goRound 75 = .ok (.iload 7, 2) := by decide +kernel
theorem dX12_goRound_77 : decode cX12_goRound 77 = .ok (.if_icmp .ge 124, 3) := by decide +kernel
theorem dX12_goRound_80 : decode cX12_goRound 80 = .ok (.aload_n 0, 1) := by decide +kernel
theorem dX12_goRound_81 : decode cX12_goRound 81 = .ok (.getfield 60, 3) := by decide +kernel
theorem dX12_goRound_84 : decode cX12_goRound 84 = .ok (.iconst 4, 1) := by decide +kernel
theorem dX12_goRound_85 : decode cX12_goRound 85 = .ok (.iload_n 3, 1) := by decide +kernel
theorem dX12_goRound_86 : decode cX12_goRound 86 = .ok (.imul, 1) := by decide +kernel
theorem dX12_goRound_87 : decode cX12_goRound 87 = .ok (.iload 6, 2) := by decide +kernel
theorem dX12_goRound_89 : decode cX12_goRound 89 = .ok (.iadd, 1) := by decide +kernel
theorem dX12_goRound_90 : decode cX12_goRound 90 = .ok (.iaload, 1) := by decide +kernel
theorem dX12_goRound_91 : decode cX12_goRound 91 = .ok (.istore 9, 2) := by decide +kernel
theorem dX12_goRound_93 : decode cX12_goRound 93 = .ok (.iload 9, 2) := by decide +kernel
theorem dX12_goRound_95 : decode cX12_goRound 95 = .ok (.ifCond .eq 35, 3) := by decide +kernel
theorem dX12_goRound_98 : decode cX12_goRound 98 = .ok (.aload_n 0, 1) := by decide +kernel
theorem dX12_goRound_99 : decode cX12_goRound 99 = .ok (.getfield 63, 3) := by decide +kernel
theorem dX12_goRound_102 : decode cX12_goRound 102 = .ok (.bipush 16, 2) := by decide +kernel
theorem dX12_goRound_104 : decode cX12_goRound 104 = .ok (.iload_n 2, 1) := by decide +kernel
theorem dX12_goRound_105 : decode cX12_goRound 105 = .ok (.imul, 1) := by decide +kernel
theorem dX12_goRound_106 : decode cX12_goRound 106 = .ok (.iload 9, 2) := by decide +kernel
theorem dX12_goRound_108 : decode cX12_goRound 108 = .ok (.invokestatic 337, 3) := by decide +kernel
theorem dX12_goRound_111 : decode cX12_goRound 111 = .ok (.iadd, 1) := by decide +kernel
theorem dX12_goRound_112 : decode cX12_goRound 112 = .ok (.iconst 1, 1) := by decide +kernel
theorem dX12_goRound_113 : decode cX12_goRound 113 = .ok (.isub, 1) := by decide +kernel
theorem dX12_goRound_114 : decode cX12_goRound 114 = .ok (.dup2, 1) := by decide +kernel
theorem dX12_goRound_115 : decode cX12_goRound 115 = .ok (.laload, 1) := by decide +kernel
theorem dX12_goRound_116 : decode cX12_goRound 116 = .ok (.iload 9, 2) := by decide +kernel
theorem dX12_goRound_118 : decode cX12_goRound 118 = .ok (.ifCond .le 7, 3) := by decide +kernel
theorem dX12_goRound_121 : decode cX12_goRound 121 = .ok (.lconst 1, 1) := by decide +kernel
theorem dX12_goRound_122 : decode cX12_goRound 122 = .ok (.goto 6, 3) := by decide +kernel
theorem dX12_goRound_125 : decode cX12_goRound 125 = .ok (.ldc2_w 340, 3) := by decide +kernel
theorem dX12_goRound_128 : decode cX12_goRound 128 = .ok (.ladd, 1) := by decide +kernel
theorem dX12_goRound_129 : decode cX12_goRound 129 = .ok (.lastore, 1) := by decide +kernel
theorem dX12_goRound_130 : decode cX12_goRound 130 = .ok (.aload_n 0, 1) := by decide +kernel
theorem dX12_goRound_131 : decode cX12_goRound 131 = .ok (.getfield 9, 3) := by decide +kernel
theorem dX12_goRound_134 : decode cX12_goRound 134 = .ok (.iload_n 3, 1) := by decide +kernel
theorem dX12_goRound_135 : decode cX12_goRound 135 = .ok (.iload 6, 2) := by decide +kernel
theorem dX12_goRound_137 : decode cX12_goRound 137 = .ok (.invokestatic 150, 3) := by decide +kernel
theorem dX12_goRound_140 : decode cX12_goRound 140 = .ok (.istore 10, 2) := by decide +kernel
theorem dX12_goRound_142 : decode cX12_goRound 142 = .ok (.iload 10, 2) := by decide +kernel
theorem dX12_goRound_144 : decode cX12_goRound 144 = .ok (.bipush 24, 2) := by decide +kernel
theorem dX12_goRound_146 : decode cX12_goRound 146 = .ok (.irem, 1) := by decide +kernel
theorem dX12_goRound_147 : decode cX12_goRound 147 = .ok (.istore 11, 2) := by decide +kernel
theorem dX12_goRound_149 : decode cX12_goRound 149 = .ok (.iload 11, 2) := by decide +kernel
theorem dX12_goRound_151 : decode cX12_goRound 151 = .ok (.iload 6, 2) := by decide +kernel
theorem dX12_goRound_153 : decode cX12_goRound 153 = .ok (.invokestatic 124, 3) := by decide +kernel
theorem dX12_goRound_156 : decode cX12_goRound 156 = .ok (.istore 12, 2) := by decide +kernel
theorem dX12_goRound_158 : decode cX12_goRound 158 = .ok (.iload 10, 2) := by decide +kernel
theorem dX12_goRound_160 : decode cX12_goRound 160 = .ok (.bipush 24, 2) := by decide +kernel
theorem dX12_goRound_162 : decode cX12_goRound 162 = .ok (.idiv, 1) := by decide +kernel
theorem dX12_goRound_163 : decode cX12_goRound 163 = .ok (.istore_n 3, 1) := by decide +kernel
theorem dX12_goRound_164 : decode cX12_goRound 164 = .ok (.iload 11, 2) := by decide +kernel
theorem dX12_goRound_166 : decode cX12_goRound 166 = .ok (.iload 4, 2) := by decide +kernel
theorem dX12_goRound_168 : decode cX12_goRound 168 = .ok (.invokestatic 124, 3) := by decide +kernel
theorem dX12_goRound_171 : decode cX12_goRound 171 = .ok (.istore 4, 2) := by decide +kernel
theorem dX12_goRound_173 : decode cX12_goRound 173 = .ok (.iload 11, 2) := by decide +kernel
theorem dX12_goRound_175 : decode cX12_goRound 175 = .ok (.iload 5, 2) := by decide +kernel
theorem dX12_goRound_177 : decode cX12_goRound 177 = .ok (.invokestatic 124, 3) := by decide +kernel
theorem dX12_goRound_180 : decode cX12_goRound 180 = .ok (.istore 5, 2) := by decide +kernel
theorem dX12_goRound_182 : decode cX12_goRound 182 = .ok (.bipush 6, 2) := by decide +kernel
theorem dX12_goRound_184 : decode cX12_goRound 184 = .ok (.iload 4, 2) := by decide +kernel
theorem dX12_goRound_186 : decode cX12_goRound 186 = .ok (.isub, 1) := by decide +kernel
theorem dX12_goRound_187 : decode cX12_goRound 187 = .ok (.iload 5, 2) := by decide +kernel
theorem dX12_goRound_189 : decode cX12_goRound 189 = .ok (.isub, 1) := by decide +kernel
theorem dX12_goRound_190 : decode cX12_goRound 190 = .ok (.iload 12, 2) := by decide +kernel
theorem dX12_goRound_192 : decode cX12_goRound 192 = .ok (.isub, 1) := by decide +kernel
theorem dX12_goRound_193 : decode cX12_goRound 193 = .ok (.istore 6, 2) := by decide +kernel
theorem dX12_goRound_195 : decode cX12_goRound 195 = .ok (.iinc 8 1, 3) := by decide +kernel
theorem dX12_goRound_198 : decode cX12_goRound 198 = .ok (.goto (-125), 3) := by decide +kernel
theorem dX12_goRound_201 : decode cX12_goRound 201 = .ok (.return_, 1) := by decide +kernel
theorem dX12_laySums_0 : decode cX12_laySums 0 = .ok (.aload_n 0, 1) := by decide +kernel
theorem dX12_laySums_1 : decode cX12_laySums 1 = .ok (.aload_n 0, 1) := by decide +kernel
theorem dX12_laySums_2 : decode cX12_laySums 2 = .ok (.getfield 9, 3) := by decide +kernel
theorem dX12_laySums_5 : decode cX12_laySums 5 = .ok (.invokevirtual 269, 3) := by decide +kernel
theorem dX12_laySums_8 : decode cX12_laySums 8 = .ok (.aload_n 0, 1) := by decide +kernel
theorem dX12_laySums_9 : decode cX12_laySums 9 = .ok (.aload_n 0, 1) := by decide +kernel
theorem dX12_laySums_10 : decode cX12_laySums 10 = .ok (.getfield 9, 3) := by decide +kernel
theorem dX12_laySums_13 : decode cX12_laySums 13 = .ok (.invokevirtual 309, 3) := by decide +kernel
theorem dX12_laySums_16 : decode cX12_laySums 16 = .ok (.aload_n 0, 1) := by decide +kernel
theorem dX12_laySums_17 : decode cX12_laySums 17 = .ok (.invokevirtual 342, 3) := by decide +kernel
theorem dX12_laySums_20 : decode cX12_laySums 20 = .ok (.aload_n 0, 1) := by decide +kernel
theorem dX12_laySums_21 : decode cX12_laySums 21 = .ok (.iconst 0, 1) := by decide +kernel
theorem dX12_laySums_22 : decode cX12_laySums 22 = .ok (.putfield 345, 3) := by decide +kernel
theorem dX12_laySums_25 : decode cX12_laySums 25 = .ok (.iconst 0, 1) := by decide +kernel
theorem dX12_laySums_26 : decode cX12_laySums 26 = .ok (.istore_n 1, 1) := by decide +kernel
theorem dX12_laySums_27 : decode cX12_laySums 27 = .ok (.iload_n 1, 1) := by decide +kernel
theorem dX12_laySums_28 : decode cX12_laySums 28 = .ok (.aload_n 0, 1) := by decide +kernel
theorem dX12_laySums_29 : decode cX12_laySums 29 = .ok (.getfield 300, 3) := by decide +kernel
theorem dX12_laySums_32 : decode cX12_laySums 32 = .ok (.if_icmp .ge 76, 3) := by decide +kernel
theorem dX12_laySums_35 : decode cX12_laySums 35 = .ok (.aload_n 0, 1) := by decide +kernel
theorem dX12_laySums_36 : decode cX12_laySums 36 = .ok (.aload_n 0, 1) := by decide +kernel
theorem dX12_laySums_37 : decode cX12_laySums 37 = .ok (.getfield 9, 3) := by decide +kernel
theorem dX12_laySums_40 : decode cX12_laySums 40 = .ok (.aload_n 0, 1) := by decide +kernel
theorem dX12_laySums_41 : decode cX12_laySums 41 = .ok (.iload_n 1, 1) := by decide +kernel
theorem dX12_laySums_42 : decode cX12_laySums 42 = .ok (.invokevirtual 303, 3) := by decide +kernel
theorem dX12_laySums_45 : decode cX12_laySums 45 = .ok (.invokevirtual 272, 3) := by decide +kernel
theorem dX12_laySums_48 : decode cX12_laySums 48 = .ok (.ifCond .eq 6, 3) := by decide +kernel
theorem dX12_laySums_51 : decode cX12_laySums 51 = .ok (.goto 51, 3) := by decide +kernel
theorem dX12_laySums_54 : decode cX12_laySums 54 = .ok (.iconst 0, 1) := by decide +kernel
theorem dX12_laySums_55 : decode cX12_laySums 55 = .ok (.istore_n 2, 1) := by decide +kernel
theorem dX12_laySums_56 : decode cX12_laySums 56 = .ok (.iload_n 2, 1) := by decide +kernel
theorem dX12_laySums_57 : decode cX12_laySums 57 = .ok (.bipush 16, 2) := by decide +kernel
theorem dX12_laySums_59 : decode cX12_laySums 59 = .ok (.if_icmp .ge 24, 3) := by decide +kernel
theorem dX12_laySums_62 : decode cX12_laySums 62 = .ok (.aload_n 0, 1) := by decide +kernel
theorem dX12_laySums_63 : decode cX12_laySums 63 = .ok (.getfield 63, 3) := by decide +kernel
theorem dX12_laySums_66 : decode cX12_laySums 66 = .ok (.bipush 16, 2) := by decide +kernel
theorem dX12_laySums_68 : decode cX12_laySums 68 = .ok (.aload_n 0, 1) := by decide +kernel
theorem dX12_laySums_69 : decode cX12_laySums 69 = .ok (.getfield 345, 3) := by decide +kernel
theorem dX12_laySums_72 : decode cX12_laySums 72 = .ok (.imul, 1) := by decide +kernel
theorem dX12_laySums_73 : decode cX12_laySums 73 = .ok (.iload_n 2, 1) := by decide +kernel
theorem dX12_laySums_74 : decode cX12_laySums 74 = .ok (.iadd, 1) := by decide +kernel
theorem dX12_laySums_75 : decode cX12_laySums 75 = .ok (.lconst 0, 1) := by decide +kernel
theorem dX12_laySums_76 : decode cX12_laySums 76 = .ok (.lastore, 1) := by decide +kernel
theorem dX12_laySums_77 : decode cX12_laySums 77 = .ok (.iinc 2 1, 3) := by decide +kernel
theorem dX12_laySums_80 : decode cX12_laySums 80 = .ok (.goto (-24), 3) := by decide +kernel
theorem dX12_laySums_83 : decode cX12_laySums 83 = .ok (.aload_n 0, 1) := by decide +kernel
theorem dX12_laySums_84 : decode cX12_laySums 84 = .ok (.iload_n 1, 1) := by decide +kernel
theorem dX12_laySums_85 : decode cX12_laySums 85 = .ok (.aload_n 0, 1) := by decide +kernel
theorem dX12_laySums_86 : decode cX12_laySums 86 = .ok (.getfield 345, 3) := by decide +kernel
theorem dX12_laySums_89 : decode cX12_laySums 89 = .ok (.invokevirtual 348, 3) := by decide +kernel
theorem dX12_laySums_92 : decode cX12_laySums 92 = .ok (.aload_n 0, 1) := by decide +kernel
theorem dX12_laySums_93 : decode cX12_laySums 93 = .ok (.dup, 1) := by decide +kernel
theorem dX12_laySums_94 : decode cX12_laySums 94 = .ok (.getfield 345, 3) := by decide +kernel
theorem dX12_laySums_97 : decode cX12_laySums 97 = .ok (.iconst 1, 1) := by decide +kernel
theorem dX12_laySums_98 : decode cX12_laySums 98 = .ok (.iadd, 1) := by decide +kernel
theorem dX12_laySums_99 : decode cX12_laySums 99 = .ok (.putfield 345, 3) := by decide +kernel
theorem dX12_laySums_102 : decode cX12_laySums 102 = .ok (.iinc 1 1, 3) := by decide +kernel
theorem dX12_laySums_105 : decode cX12_laySums 105 = .ok (.goto (-78), 3) := by decide +kernel
theorem dX12_laySums_108 : decode cX12_laySums 108 = .ok (.return_, 1) := by decide +kernel
theorem dX12_sum_0 : decode cX12_sum 0 = .ok (.aload_n 0, 1) := by decide +kernel
theorem dX12_sum_1 : decode cX12_sum 1 = .ok (.getfield 63, 3) := by decide +kernel
theorem dX12_sum_4 : decode cX12_sum 4 = .ok (.bipush 16, 2) := by decide +kernel
theorem dX12_sum_6 : decode cX12_sum 6 = .ok (.iload_n 1, 1) := by decide +kernel
theorem dX12_sum_7 : decode cX12_sum 7 = .ok (.imul, 1) := by decide +kernel
theorem dX12_sum_8 : decode cX12_sum 8 = .ok (.iload_n 2, 1) := by decide +kernel
theorem dX12_sum_9 : decode cX12_sum 9 = .ok (.iadd, 1) := by decide +kernel
theorem dX12_sum_10 : decode cX12_sum 10 = .ok (.laload, 1) := by decide +kernel
theorem dX12_sum_11 : decode cX12_sum 11 = .ok (.lreturn, 1) := by decide +kernel
theorem dX12_size_0 : decode cX12_size 0 = .ok (.lload_n 0, 1) := by decide +kernel
theorem dX12_size_1 : decode cX12_size 1 = .ok (.lconst 0, 1) := by decide +kernel
theorem dX12_size_2 : decode cX12_size 2 = .ok (.lcmp, 1) := by decide +kernel
theorem dX12_size_3 : decode cX12_size 3 = .ok (.ifCond .ge 8, 3) := by decide +kernel
theorem dX12_size_6 : decode cX12_size 6 = .ok (.lload_n 0, 1) := by decide +kernel
theorem dX12_size_7 : decode cX12_size 7 = .ok (.lneg, 1) := by decide +kernel
theorem dX12_size_8 : decode cX12_size 8 = .ok (.goto 4, 3) := by decide +kernel
theorem dX12_size_11 : decode cX12_size 11 = .ok (.lload_n 0, 1) := by decide +kernel
theorem dX12_size_12 : decode cX12_size 12 = .ok (.lreturn, 1) := by decide +kernel
theorem dX12_findLeast_0 : decode cX12_findLeast 0 = .ok (.aload_n 0, 1) := by decide +kernel
theorem dX12_findLeast_1 : decode cX12_findLeast 1 = .ok (.iconst (-1), 1) := by decide +kernel
theorem dX12_findLeast_2 : decode cX12_findLeast 2 = .ok (.putfield 352, 3) := by decide +kernel
theorem dX12_findLeast_5 : decode cX12_findLeast 5 = .ok (.iload_n 1, 1) := by decide +kernel
theorem dX12_findLeast_6 : decode cX12_findLeast 6 = .ok (.istore_n 2, 1) := by decide +kernel
theorem dX12_findLeast_7 : decode cX12_findLeast 7 = .ok (.iload_n 2, 1) := by decide +kernel
theorem dX12_findLeast_8 : decode cX12_findLeast 8 = .ok (.aload_n 0, 1) := by decide +kernel
theorem dX12_findLeast_9 : decode cX12_findLeast 9 = .ok (.getfield 345, 3) := by decide +kernel
theorem dX12_findLeast_12 : decode cX12_findLeast 12 = .ok (.if_icmp .ge 85, 3) := by decide +kernel
theorem dX12_findLeast_15 : decode cX12_findLeast 15 = .ok (.iload_n 1, 1) := by decide +kernel
theorem dX12_findLeast_16 : decode cX12_findLeast 16 = .ok (.istore_n 3, 1) := by decide +kernel
theorem dX12_findLeast_17 : decode cX12_findLeast 17 = .ok (.iload_n 3, 1) := by decide +kernel
theorem dX12_findLeast_18 : decode cX12_findLeast 18 = .ok (.aload_n 0, 1) := by decide +kernel
theorem dX12_findLeast_19 : decode cX12_findLeast 19 = .ok (.getfield 334, 3) := by decide +kernel
theorem dX12_findLeast_22 : decode cX12_findLeast 22 = .ok (.if_icmp .ge 69, 3) := by decide +kernel
theorem dX12_findLeast_25 : decode cX12_findLeast 25 = .ok (.aload_n 0, 1) := by decide +kernel
theorem dX12_findLeast_26 : decode cX12_findLeast 26 = .ok (.iload_n 2, 1) := by decide +kernel
theorem dX12_findLeast_27 : decode cX12_findLeast 27 = .ok (.iload_n 3, 1) := by decide +kernel
theorem dX12_findLeast_28 : decode cX12_findLeast 28 = .ok (.invokevirtual 355, 3) := by decide +kernel
theorem dX12_findLeast_31 : decode cX12_findLeast 31 = .ok (.lconst 0, 1) := by decide +kernel
theorem dX12_findLeast_32 : decode cX12_findLeast 32 = .ok (.lcmp, 1) := by decide +kernel
theorem dX12_findLeast_33 : decode cX12_findLeast 33 = .ok (.ifCond .eq 52, 3) := by decide +kernel
theorem dX12_findLeast_36 : decode cX12_findLeast 36 = .ok (.aload_n 0, 1) := by decide +kernel
theorem dX12_findLeast_37 : decode cX12_findLeast 37 = .ok (.getfield 352, 3) := by decide +kernel
theorem dX12_findLeast_40 : decode cX12_findLeast 40 = .ok (.iconst (-1), 1) := by decide +kernel
theorem dX12_findLeast_41 : decode cX12_findLeast 41 = .ok (.if_icmp .eq 34, 3) := by decide +kernel
theorem dX12_findLeast_44 : decode cX12_findLeast 44 = .ok (.aload_n 0, 1) := by decide +kernel
theorem dX12_findLeast_45 : decode cX12_findLeast 45 = .ok (.iload_n 2, 1) := by decide +kernel
theorem dX12_findLeast_46 : decode cX12_findLeast 46 = .ok (.iload_n 3, 1) := by decide +kernel
theorem dX12_findLeast_47 : decode cX12_findLeast 47 = .ok (.invokevirtual 355, 3) := by decide +kernel
theorem dX12_findLeast_50 : decode cX12_findLeast 50 = .ok (.invokestatic 359, 3) := by decide +kernel
theorem dX12_findLeast_53 : decode cX12_findLeast 53 = .ok (.aload_n 0, 1) := by decide +kernel
theorem dX12_findLeast_54 : decode cX12_findLeast 54 = .ok (.aload_n 0, 1) := by decide +kernel
theorem dX12_findLeast_55 : decode cX12_findLeast 55 = .ok (.getfield 352, 3) := by decide +kernel
theorem dX12_findLeast_58 : decode cX12_findLeast 58 = .ok (.aload_n 0, 1) := by decide +kernel
theorem dX12_findLeast_59 : decode cX12_findLeast 59 = .ok (.getfield 363, 3) := by decide +kernel
theorem dX12_findLeast_62 : decode cX12_findLeast 62 = .ok (.invokevirtual 355, 3) := by decide +kernel
theorem dX12_findLeast_65 : decode cX12_findLeast 65 = .ok (.invokestatic 359, 3) := by decide +kernel
theorem dX12_findLeast_68 : decode cX12_findLeast 68 = .ok (.lcmp, 1) := by decide +kernel
theorem dX12_findLeast_69 : decode cX12_findLeast 69 = .ok (.ifCond .lt 6, 3) := by decide +kernel
theorem dX12_findLeast_72 : decode cX12_findLeast 72 = .ok (.goto 13, 3) := by decide +kernel
theorem dX12_findLeast_75 : decode cX12_findLeast 75 = .ok (.aload_n 0, 1) := by decide +kernel
theorem dX12_findLeast_76 : decode cX12_findLeast 76 = .ok (.iload_n 2, 1) := by decide +kernel
theorem dX12_findLeast_77 : decode cX12_findLeast 77 = .ok (.putfield 352, 3) := by decide +kernel
theorem dX12_findLeast_80 : decode cX12_findLeast 80 = .ok (.aload_n 0, 1) := by decide +kernel
theorem dX12_findLeast_81 : decode cX12_findLeast 81 = .ok (.iload_n 3, 1) := by decide +kernel
theorem dX12_findLeast_82 : decode cX12_findLeast 82 = .ok (.putfield 363, 3) := by decide +kernel
theorem dX12_findLeast_85 : decode cX12_findLeast 85 = .ok (.iinc 3 1, 3) := by decide +kernel
theorem dX12_findLeast_88 : decode cX12_findLeast 88 = .ok (.goto (-71), 3) := by decide +kernel
theorem dX12_findLeast_91 : decode cX12_findLeast 91 = .ok (.iinc 2 1, 3) := by decide +kernel
theorem dX12_findLeast_94 : decode cX12_findLeast 94 = .ok (.goto (-87), 3) := by decide +kernel
theorem dX12_findLeast_97 : decode cX12_findLeast 97 = .ok (.aload_n 0, 1) := by decide +kernel
theorem dX12_findLeast_98 : decode cX12_findLeast 98 = .ok (.getfield 352, 3) := by decide +kernel
theorem dX12_findLeast_101 : decode cX12_findLeast 101 = .ok (.iconst (-1), 1) := by decide +kernel
theorem dX12_findLeast_102 : decode cX12_findLeast 102 = .ok (.if_icmp .eq 7, 3) := by decide +kernel
theorem dX12_findLeast_105 : decode cX12_findLeast 105 = .ok (.iconst 1, 1) := by decide +kernel
theorem dX12_findLeast_106 : decode cX12_findLeast 106 = .ok (.goto 4, 3) := by decide +kernel
theorem dX12_findLeast_109 : decode cX12_findLeast 109 = .ok (.iconst 0, 1) := by decide +kernel
theorem dX12_findLeast_110 : decode cX12_findLeast 110 = .ok (.ireturn, 1) := by decide +kernel
theorem dX12_changeAbout_0 : decode cX12_changeAbout 0 = .ok (.iconst 0, 1) := by decide +kernel
theorem dX12_changeAbout_1 : decode cX12_changeAbout 1 = .ok (.istore_n 2, 1) := by decide +kernel
theorem dX12_changeAbout_2 : decode cX12_changeAbout 2 = .ok (.iload_n 2, 1) := by decide +kernel
theorem dX12_changeAbout_3 : decode cX12_changeAbout 3 = .ok (.bipush 16, 2) := by decide +kernel
theorem dX12_changeAbout_5 : decode cX12_changeAbout 5 = .ok (.if_icmp .ge 51, 3) := by decide +kernel
theorem dX12_changeAbout_8 : decode cX12_changeAbout 8 = .ok (.aload_n 0, 1) := by decide +kernel
theorem dX12_changeAbout_9 : decode cX12_changeAbout 9 = .ok (.iload_n 1, 1) := by decide +kernel
theorem dX12_changeAbout_10 : decode cX12_changeAbout 10 = .ok (.iload_n 2, 1) := by decide +kernel
theorem dX12_changeAbout_11 : decode cX12_changeAbout 11 = .ok (.invokevirtual 355, 3) := by decide +kernel
theorem dX12_changeAbout_14 : decode cX12_changeAbout 14 = .ok (.lstore_n 3, 1) := by decide +kernel
theorem dX12_changeAbout_15 : decode cX12_changeAbout 15 = .ok (.aload_n 0, 1) := by decide +kernel
theorem dX12_changeAbout_16 : decode cX12_changeAbout 16 = .ok (.getfield 63, 3) := by decide +kernel
theorem dX12_changeAbout_19 : decode cX12_changeAbout 19 = .ok (.bipush 16, 2) := by decide +kernel
theorem dX12_changeAbout_21 : decode cX12_changeAbout 21 = .ok (.iload_n 1, 1) := by decide +kernel
theorem dX12_changeAbout_22 : decode cX12_changeAbout 22 = .ok (.imul, 1) := by decide +kernel
theorem dX12_changeAbout_23 : decode cX12_changeAbout 23 = .ok (.iload_n 2, 1) := by decide +kernel
theorem dX12_changeAbout_24 : decode cX12_changeAbout 24 = .ok (.iadd, 1) := by decide +kernel
theorem dX12_changeAbout_25 : decode cX12_changeAbout 25 = .ok (.aload_n 0, 1) := by decide +kernel
theorem dX12_changeAbout_26 : decode cX12_changeAbout 26 = .ok (.aload_n 0, 1) := by decide +kernel
theorem dX12_changeAbout_27 : decode cX12_changeAbout 27 = .ok (.getfield 352, 3) := by decide +kernel
theorem dX12_changeAbout_30 : decode cX12_changeAbout 30 = .ok (.iload_n 2, 1) := by decide +kernel
theorem dX12_changeAbout_31 : decode cX12_changeAbout 31 = .ok (.invokevirtual 355, 3) := by decide +kernel
theorem dX12_changeAbout_34 : decode cX12_changeAbout 34 = .ok (.lastore, 1) := by decide +kernel
theorem dX12_changeAbout_35 : decode cX12_changeAbout 35 = .ok (.aload_n 0, 1) := by decide +kernel
theorem dX12_changeAbout_36 : decode cX12_changeAbout 36 = .ok (.getfield 63, 3) := by decide +kernel
theorem dX12_changeAbout_39 : decode cX12_changeAbout 39 = .ok (.bipush 16, 2) := by decide +kernel
theorem dX12_changeAbout_41 : decode cX12_changeAbout 41 = .ok (.aload_n 0, 1) := by decide +kernel
theorem dX12_changeAbout_42 : decode cX12_changeAbout 42 = .ok (.getfield 352, 3) := by decide +kernel
theorem dX12_changeAbout_45 : decode cX12_changeAbout 45 = .ok (.imul, 1) := by decide +kernel
theorem dX12_changeAbout_46 : decode cX12_changeAbout 46 = .ok (.iload_n 2, 1) := by decide +kernel
theorem dX12_changeAbout_47 : decode cX12_changeAbout 47 = .ok (.iadd, 1) := by decide +kernel
theorem dX12_changeAbout_48 : decode cX12_changeAbout 48 = .ok (.lload_n 3, 1) := by decide +kernel
theorem dX12_changeAbout_49 : decode cX12_changeAbout 49 = .ok (.lastore, 1) := by decide +kernel
theorem dX12_changeAbout_50 : decode cX12_changeAbout 50 = .ok (.iinc 2 1, 3) := by decide +kernel
theorem dX12_changeAbout_53 : decode cX12_changeAbout 53 = .ok (.goto (-51), 3) := by decide +kernel
theorem dX12_changeAbout_56 : decode cX12_changeAbout 56 = .ok (.iconst 0, 1) := by decide +kernel
theorem dX12_changeAbout_57 : decode cX12_changeAbout 57 = .ok (.istore_n 2, 1) := by decide +kernel
theorem dX12_changeAbout_58 : decode cX12_changeAbout 58 = .ok (.iload_n 2, 1) := by decide +kernel
theorem dX12_changeAbout_59 : decode cX12_changeAbout 59 = .ok (.aload_n 0, 1) := by decide +kernel
theorem dX12_changeAbout_60 : decode cX12_changeAbout 60 = .ok (.getfield 345, 3) := by decide +kernel
theorem dX12_changeAbout_63 : decode cX12_changeAbout 63 = .ok (.if_icmp .ge 51, 3) := by decide +kernel
theorem dX12_changeAbout_66 : decode cX12_changeAbout 66 = .ok (.aload_n 0, 1) := by decide +kernel
theorem dX12_changeAbout_67 : decode cX12_changeAbout 67 = .ok (.iload_n 2, 1) := by decide +kernel
theorem dX12_changeAbout_68 : decode cX12_changeAbout 68 = .ok (.iload_n 1, 1) := by decide +kernel
theorem dX12_changeAbout_69 : decode cX12_changeAbout 69 = .ok (.invokevirtual 355, 3) := by decide +kernel
theorem dX12_changeAbout_72 : decode cX12_changeAbout 72 = .ok (.lstore_n 3, 1) := by decide +kernel
theorem dX12_changeAbout_73 : decode cX12_changeAbout 73 = .ok (.aload_n 0, 1) := by decide +kernel
theorem dX12_changeAbout_74 : decode cX12_changeAbout 74 = .ok (.getfield 63, 3) := by decide +kernel
theorem dX12_changeAbout_77 : decode cX12_changeAbout 77 = .ok (.bipush 16, 2) := by decide +kernel
theorem dX12_changeAbout_79 : decode cX12_changeAbout 79 = .ok (.iload_n 2, 1) := by decide +kernel
theorem dX12_changeAbout_80 : decode cX12_changeAbout 80 = .ok (.imul, 1) := by decide +kernel
theorem dX12_changeAbout_81 : decode cX12_changeAbout 81 = .ok (.iload_n 1, 1) := by decide +kernel
theorem dX12_changeAbout_82 : decode cX12_changeAbout 82 = .ok (.iadd, 1) := by decide +kernel
theorem dX12_changeAbout_83 : decode cX12_changeAbout 83 = .ok (.aload_n 0, 1) := by decide +kernel
theorem dX12_changeAbout_84 : decode cX12_changeAbout 84 = .ok (.iload_n 2, 1) := by decide +kernel
theorem dX12_changeAbout_85 : decode cX12_changeAbout 85 = .ok (.aload_n 0, 1) := by decide +kernel
theorem dX12_changeAbout_86 : decode cX12_changeAbout 86 = .ok (.getfield 363, 3) := by decide +kernel
theorem dX12_changeAbout_89 : decode cX12_changeAbout 89 = .ok (.invokevirtual 355, 3) := by decide +kernel
theorem dX12_changeAbout_92 : decode cX12_changeAbout 92 = .ok (.lastore, 1) := by decide +kernel
theorem dX12_changeAbout_93 : decode cX12_changeAbout 93 = .ok (.aload_n 0, 1) := by decide +kernel
theorem dX12_changeAbout_94 : decode cX12_changeAbout 94 = .ok (.getfield 63, 3) := by decide +kernel
theorem dX12_changeAbout_97 : decode cX12_changeAbout 97 = .ok (.bipush 16, 2) := by decide +kernel
theorem dX12_changeAbout_99 : decode cX12_changeAbout 99 = .ok (.iload_n 2, 1) := by decide +kernel
theorem dX12_changeAbout_100 : decode cX12_changeAbout 100 = .ok (.imul, 1) := by decide +kernel
theorem dX12_changeAbout_101 : decode cX12_changeAbout 101 = .ok (.aload_n 0, 1) := by decide +kernel
theorem dX12_changeAbout_102 : decode cX12_changeAbout 102 = .ok (.getfield 363, 3) := by decide +kernel
theorem dX12_changeAbout_105 : decode cX12_changeAbout 105 = .ok (.iadd, 1) := by decide +kernel
theorem dX12_changeAbout_106 : decode cX12_changeAbout 106 = .ok (.lload_n 3, 1) := by decide +kernel
theorem dX12_changeAbout_107 : decode cX12_changeAbout 107 = .ok (.lastore, 1) := by decide +kernel
theorem dX12_changeAbout_108 : decode cX12_changeAbout 108 = .ok (.iinc 2 1, 3) := by decide +kernel
theorem dX12_changeAbout_111 : decode cX12_changeAbout 111 = .ok (.goto (-53), 3) := by decide +kernel
theorem dX12_changeAbout_114 : decode cX12_changeAbout 114 = .ok (.return_, 1) := by decide +kernel
theorem dX12_clears_0 : decode cX12_clears 0 = .ok (.aload_n 0, 1) := by decide +kernel
theorem dX12_clears_1 : decode cX12_clears 1 = .ok (.iload_n 1, 1) := by decide +kernel
theorem dX12_clears_2 : decode cX12_clears 2 = .ok (.iload_n 1, 1) := by decide +kernel
theorem dX12_clears_3 : decode cX12_clears 3 = .ok (.invokevirtual 355, 3) := by decide +kernel
theorem dX12_clears_6 : decode cX12_clears 6 = .ok (.lstore_n 2, 1) := by decide +kernel
theorem dX12_clears_7 : decode cX12_clears 7 = .ok (.iconst 1, 1) := by decide +kernel
theorem dX12_clears_8 : decode cX12_clears 8 = .ok (.istore 4, 2) := by decide +kernel
theorem dX12_clears_10 : decode cX12_clears 10 = .ok (.iload_n 1, 1) := by decide +kernel
theorem dX12_clears_11 : decode cX12_clears 11 = .ok (.iconst 1, 1) := by decide +kernel
theorem dX12_clears_12 : decode cX12_clears 12 = .ok (.iadd, 1) := by decide +kernel
theorem dX12_clears_13 : decode cX12_clears 13 = .ok (.istore 5, 2) := by decide +kernel
theorem dX12_clears_15 : decode cX12_clears 15 = .ok (.iload 5, 2) := by decide +kernel
theorem dX12_clears_17 : decode cX12_clears 17 = .ok (.aload_n 0, 1) := by decide +kernel
theorem dX12_clears_18 : decode cX12_clears 18 = .ok (.getfield 345, 3) := by decide +kernel
theorem dX12_clears_21 : decode cX12_clears 21 = .ok (.if_icmp .ge 88, 3) := by decide +kernel
theorem dX12_clears_24 : decode cX12_clears 24 = .ok (.aload_n 0, 1) := by decide +kernel
theorem dX12_clears_25 : decode cX12_clears 25 = .ok (.iload 5, 2) := by decide +kernel
theorem dX12_clears_27 : decode cX12_clears 27 = .ok (.iload_n 1, 1) := by decide +kernel
theorem dX12_clears_28 : decode cX12_clears 28 = .ok (.invokevirtual 355, 3) := by decide +kernel
theorem dX12_clears_31 : decode cX12_clears 31 = .ok (.lload_n 2, 1) := by decide +kernel
theorem dX12_clears_32 : decode cX12_clears 32 = .ok (.ldiv, 1) := by decide +kernel
theorem dX12_clears_33 : decode cX12_clears 33 = .ok (.lstore 6, 2) := by decide +kernel
theorem dX12_clears_35 : decode cX12_clears 35 = .ok (.iload_n 1, 1) := by decide +kernel
theorem dX12_clears_36 : decode cX12_clears 36 = .ok (.istore 8, 2) := by decide +kernel
theorem dX12_clears_38 : decode cX12_clears 38 = .ok (.iload 8, 2) := by decide +kernel
theorem dX12_clears_40 : decode cX12_clears 40 = .ok (.aload_n 0, 1) := by decide +kernel
theorem dX12_clears_41 : decode cX12_clears 41 = .ok (.getfield 334, 3) := by decide +kernel
theorem dX12_clears_44 : decode cX12_clears 44 = .ok (.if_icmp .ge 35, 3) := by decide +kernel
theorem dX12_clears_47 : decode cX12_clears 47 = .ok (.aload_n 0, 1) := by decide +kernel
theorem dX12_clears_48 : decode cX12_clears 48 = .ok (.getfield 63, 3) := by decide +kernel
theorem dX12_clears_51 : decode cX12_clears 51 = .ok (.bipush 16, 2) := by decide +kernel
theorem dX12_clears_53 : decode cX12_clears 53 = .ok (.iload 5, 2) := by decide +kernel
theorem dX12_clears_55 : decode cX12_clears 55 = .ok (.imul, 1) := by decide +kernel
theorem dX12_clears_56 : decode cX12_clears 56 = .ok (.iload 8, 2) := by decide +kernel
theorem dX12_clears_58 : decode cX12_clears 58 = .ok (.iadd, 1) := by decide +kernel
theorem dX12_clears_59 : decode cX12_clears 59 = .ok (.dup2, 1) := by decide +kernel
theorem dX12_clears_60 : decode cX12_clears 60 = .ok (.laload, 1) := by decide +kernel
theorem dX12_clears_61 : decode cX12_clears 61 = .ok (.lload 6, 2) := by decide +kernel
theorem dX12_clears_63 : decode cX12_clears 63 = .ok (.aload_n 0, 1) := by decide +kernel
theorem dX12_clears_64 : decode cX12_clears 64 = .ok (.iload_n 1, 1) := by decide +kernel
theorem dX12_clears_65 : decode cX12_clears 65 = .ok (.iload 8, 2) := by decide +kernel
theorem dX12_clears_67 : decode cX12_clears 67 = .ok (.invokevirtual 355, 3) := by decide +kernel
theorem dX12_clears_70 : decode cX12_clears 70 = .ok (.lmul, 1) := by decide +kernel
theorem dX12_clears_71 : decode cX12_clears 71 = .ok (.lsub, 1) := by decide +kernel
theorem dX12_clears_72 : decode cX12_clears 72 = .ok (.lastore, 1) := by decide +kernel
theorem dX12_clears_73 : decode cX12_clears 73 = .ok (.iinc 8 1, 3) := by decide +kernel
theorem dX12_clears_76 : decode cX12_clears 76 = .ok (.goto (-38), 3) := by decide +kernel
theorem dX12_clears_79 : decode cX12_clears 79 = .ok (.iload 4, 2) := by decide +kernel
theorem dX12_clears_81 : decode cX12_clears 81 = .ok (.ifCond .eq 19, 3) := by decide +kernel
theorem dX12_clears_84 : decode cX12_clears 84 = .ok (.aload_n 0, 1) := by decide +kernel
theorem dX12_clears_85 : decode cX12_clears 85 = .ok (.iload 5, 2) := by decide +kernel
theorem dX12_clears_87 : decode cX12_clears 87 = .ok (.iload_n 1, 1) := by decide +kernel
theorem dX12_clears_88 : decode cX12_clears 88 = .ok (.invokevirtual 355, 3) := by decide +kernel
theorem dX12_clears_91 : decode cX12_clears 91 = .ok (.lconst 0, 1) := by decide +kernel
theorem dX12_clears_92 : decode cX12_clears 92 = .ok (.lcmp, 1) := by decide +kernel
theorem dX12_clears_93 : decode cX12_clears 93 = .ok (.ifCond .ne 7, 3) := by decide +kernel
theorem dX12_clears_96 : decode cX12_clears 96 = .ok (.iconst 1, 1) := by decide +kernel
theorem dX12_clears_97 : decode cX12_clears 97 = .ok (.goto 4, 3) := by decide +kernel
theorem dX12_clears_100 : decode cX12_clears 100 = .ok (.iconst 0, 1) := by decide +kernel
theorem dX12_clears_101 : decode cX12_clears 101 = .ok (.istore 4, 2) := by decide +kernel
theorem dX12_clears_103 : decode cX12_clears 103 = .ok (.iinc 5 1, 3) := by decide +kernel
theorem dX12_clears_106 : decode cX12_clears 106 = .ok (.goto (-91), 3) := by decide +kernel
theorem dX12_clears_109 : decode cX12_clears 109 = .ok (.iload_n 1, 1) := by decide +kernel
theorem dX12_clears_110 : decode cX12_clears 110 = .ok (.iconst 1, 1) := by decide +kernel
theorem dX12_clears_111 : decode cX12_clears 111 = .ok (.iadd, 1) := by decide +kernel
theorem dX12_clears_112 : decode cX12_clears 112 = .ok (.istore 5, 2) := by decide +kernel
theorem dX12_clears_114 : decode cX12_clears 114 = .ok (.iload 5, 2) := by decide +kernel
theorem dX12_clears_116 : decode cX12_clears 116 = .ok (.aload_n 0, 1) := by decide +kernel
theorem dX12_clears_117 : decode cX12_clears 117 = .ok (.getfield 334, 3) := by decide +kernel
theorem dX12_clears_120 : decode cX12_clears 120 = .ok (.if_icmp .ge 88, 3) := by decide +kernel
theorem dX12_clears_123 : decode cX12_clears 123 = .ok (.aload_n 0, 1) := by decide +kernel
theorem dX12_clears_124 : decode cX12_clears 124 = .ok (.iload_n 1, 1) := by decide +kernel
theorem dX12_clears_125 : decode cX12_clears 125 = .ok (.iload 5, 2) := by decide +kernel
theorem dX12_clears_127 : decode cX12_clears 127 = .ok (.invokevirtual 355, 3) := by decide +kernel
theorem dX12_clears_130 : decode cX12_clears 130 = .ok (.lload_n 2, 1) := by decide +kernel
theorem dX12_clears_131 : decode cX12_clears 131 = .ok (.ldiv, 1) := by decide +kernel
theorem dX12_clears_132 : decode cX12_clears 132 = .ok (.lstore 6, 2) := by decide +kernel
theorem dX12_clears_134 : decode cX12_clears 134 = .ok (.iload_n 1, 1) := by decide +kernel
theorem dX12_clears_135 : decode cX12_clears 135 = .ok (.istore 8, 2) := by decide +kernel
theorem dX12_clears_137 : decode cX12_clears 137 = .ok (.iload 8, 2) := by decide +kernel
theorem dX12_clears_139 : decode cX12_clears 139 = .ok (.aload_n 0, 1) := by decide +kernel
theorem dX12_clears_140 : decode cX12_clears 140 = .ok (.getfield 345, 3) := by decide +kernel
theorem dX12_clears_143 : decode cX12_clears 143 = .ok (.if_icmp .ge 35, 3) := by decide +kernel
theorem dX12_clears_146 : decode cX12_clears 146 = .ok (.aload_n 0, 1) := by decide +kernel
theorem dX12_clears_147 : decode cX12_clears 147 = .ok (.getfield 63, 3) := by decide +kernel
theorem dX12_clears_150 : decode cX12_clears 150 = .ok (.bipush 16, 2) := by decide +kernel
theorem dX12_clears_152 : decode cX12_clears 152 = .ok (.iload 8, 2) := by decide +kernel
theorem dX12_clears_154 : decode cX12_clears 154 = .ok (.imul, 1) := by decide +kernel
theorem dX12_clears_155 : decode cX12_clears 155 = .ok (.iload 5, 2) := by decide +kernel
theorem dX12_clears_157 : decode cX12_clears 157 = .ok (.iadd, 1) := by decide +kernel
theorem dX12_clears_158 : decode cX12_clears 158 = .ok (.dup2, 1) := by decide +kernel
theorem dX12_clears_159 : decode cX12_clears 159 = .ok (.laload, 1) := by decide +kernel
theorem dX12_clears_160 : decode cX12_clears 160 = .ok (.lload 6, 2) := by decide +kernel
theorem dX12_clears_162 : decode cX12_clears 162 = .ok (.aload_n 0, 1) := by decide +kernel
theorem dX12_clears_163 : decode cX12_clears 163 = .ok (.iload 8, 2) := by decide +kernel
theorem dX12_clears_165 : decode cX12_clears 165 = .ok (.iload_n 1, 1) := by decide +kernel
theorem dX12_clears_166 : decode cX12_clears 166 = .ok (.invokevirtual 355, 3) := by decide +kernel
theorem dX12_clears_169 : decode cX12_clears 169 = .ok (.lmul, 1) := by decide +kernel
theorem dX12_clears_170 : decode cX12_clears 170 = .ok (.lsub, 1) := by decide +kernel
theorem dX12_clears_171 : decode cX12_clears 171 = .ok (.lastore, 1) := by decide +kernel
theorem dX12_clears_172 : decode cX12_clears 172 = .ok (.iinc 8 1, 3) := by decide +kernel
theorem dX12_clears_175 : decode cX12_clears 175 = .ok (.goto (-38), 3) := by decide +kernel
theorem dX12_clears_178 : decode cX12_clears 178 = .ok (.iload 4, 2) := by decide +kernel
theorem dX12_clears_180 : decode cX12_clears 180 = .ok (.ifCond .eq 19, 3) := by decide +kernel
theorem dX12_clears_183 : decode cX12_clears 183 = .ok (.aload_n 0, 1) := by decide +kernel
theorem dX12_clears_184 : decode cX12_clears 184 = .ok (.iload_n 1, 1) := by decide +kernel
theorem dX12_clears_185 : decode cX12_clears 185 = .ok (.iload 5, 2) := by decide +kernel
theorem dX12_clears_187 : decode cX12_clears 187 = .ok (.invokevirtual 355, 3) := by decide +kernel
theorem dX12_clears_190 : decode cX12_clears 190 = .ok (.lconst 0, 1) := by decide +kernel
theorem dX12_clears_191 : decode cX12_clears 191 = .ok (.lcmp, 1) := by decide +kernel
theorem dX12_clears_192 : decode cX12_clears 192 = .ok (.ifCond .ne 7, 3) := by decide +kernel
theorem dX12_clears_195 : decode cX12_clears 195 = .ok (.iconst 1, 1) := by decide +kernel
theorem dX12_clears_196 : decode cX12_clears 196 = .ok (.goto 4, 3) := by decide +kernel
theorem dX12_clears_199 : decode cX12_clears 199 = .ok (.iconst 0, 1) := by decide +kernel
theorem dX12_clears_200 : decode cX12_clears 200 = .ok (.istore 4, 2) := by decide +kernel
theorem dX12_clears_202 : decode cX12_clears 202 = .ok (.iinc 5 1, 3) := by decide +kernel
theorem dX12_clears_205 : decode cX12_clears 205 = .ok (.goto (-91), 3) := by decide +kernel
theorem dX12_clears_208 : decode cX12_clears 208 = .ok (.iload 4, 2) := by decide +kernel
theorem dX12_clears_210 : decode cX12_clears 210 = .ok (.ifCond .ne 5, 3) := by decide +kernel
theorem dX12_clears_213 : decode cX12_clears 213 = .ok (.iconst 0, 1) := by decide +kernel
theorem dX12_clears_214 : decode cX12_clears 214 = .ok (.ireturn, 1) := by decide +kernel
theorem dX12_clears_215 : decode cX12_clears 215 = .ok (.iload_n 1, 1) := by decide +kernel
theorem dX12_clears_216 : decode cX12_clears 216 = .ok (.iconst 1, 1) := by decide +kernel
theorem dX12_clears_217 : decode cX12_clears 217 = .ok (.iadd, 1) := by decide +kernel
theorem dX12_clears_218 : decode cX12_clears 218 = .ok (.istore 5, 2) := by decide +kernel
theorem dX12_clears_220 : decode cX12_clears 220 = .ok (.iload 5, 2) := by decide +kernel
theorem dX12_clears_222 : decode cX12_clears 222 = .ok (.aload_n 0, 1) := by decide +kernel
theorem dX12_clears_223 : decode cX12_clears 223 = .ok (.getfield 345, 3) := by decide +kernel
theorem dX12_clears_226 : decode cX12_clears 226 = .ok (.if_icmp .ge 90, 3) := by decide +kernel
theorem dX12_clears_229 : decode cX12_clears 229 = .ok (.iload_n 1, 1) := by decide +kernel
theorem dX12_clears_230 : decode cX12_clears 230 = .ok (.iconst 1, 1) := by decide +kernel
theorem dX12_clears_231 : decode cX12_clears 231 = .ok (.iadd, 1) := by decide +kernel
theorem dX12_clears_232 : decode cX12_clears 232 = .ok (.istore 6, 2) := by decide +kernel
theorem dX12_clears_234 : decode cX12_clears 234 = .ok (.iload 6, 2) := by decide +kernel
theorem dX12_clears_236 : decode cX12_clears 236 = .ok (.aload_n 0, 1) := by decide +kernel
theorem dX12_clears_237 : decode cX12_clears 237 = .ok (.getfield 334, 3) := by decide +kernel
theorem dX12_clears_240 : decode cX12_clears 240 = .ok (.if_icmp .ge 70, 3) := by decide +kernel
theorem dX12_clears_243 : decode cX12_clears 243 = .ok (.aload_n 0, 1) := by decide +kernel
theorem dX12_clears_244 : decode cX12_clears 244 = .ok (.iload 5, 2) := by decide +kernel
theorem dX12_clears_246 : decode cX12_clears 246 = .ok (.iload 6, 2) := by decide +kernel
theorem dX12_clears_248 : decode cX12_clears 248 = .ok (.invokevirtual 355, 3) := by decide +kernel
theorem dX12_clears_251 : decode cX12_clears 251 = .ok (.lload_n 2, 1) := by decide +kernel
theorem dX12_clears_252 : decode cX12_clears 252 = .ok (.lrem, 1) := by decide +kernel
theorem dX12_clears_253 : decode cX12_clears 253 = .ok (.lconst 0, 1) := by decide +kernel
theorem dX12_clears_254 : decode cX12_clears 254 = .ok (.lcmp, 1) := by decide +kernel
theorem dX12_clears_255 : decode cX12_clears 255 = .ok (.ifCond .ne 6, 3) := by decide +kernel
theorem dX12_clears_258 : decode cX12_clears 258 = .ok (.goto 46, 3) := by decide +kernel
theorem dX12_clears_261 : decode cX12_clears 261 = .ok (.iload_n 1, 1) := by decide +kernel
theorem dX12_clears_262 : decode cX12_clears 262 = .ok (.istore 7, 2) := by decide +kernel
theorem dX12_clears_264 : decode cX12_clears 264 = .ok (.iload 7, 2) := by decide +kernel
theorem dX12_clears_266 : decode cX12_clears 266 = .ok (.aload_n 0, 1) := by decide +kernel
theorem dX12_clears_267 : decode cX12_clears 267 = .ok (.getfield 334, 3) := by decide +kernel
theorem dX12_clears_270 : decode cX12_clears 270 = .ok (.if_icmp .ge 32, 3) := by decide +kernel
theorem dX12_clears_273 : decode cX12_clears 273 = .ok (.aload_n 0, 1) := by decide +kernel
theorem dX12_clears_274 : decode cX12_clears 274 = .ok (.getfield 63, 3) := by decide +kernel
theorem dX12_clears_277 : decode cX12_clears 277 = .ok (.bipush 16, 2) := by decide +kernel
theorem dX12_clears_279 : decode cX12_clears 279 = .ok (.iload_n 1, 1) := by decide +kernel
theorem dX12_clears_280 : decode cX12_clears 280 = .ok (.imul, 1) := by decide +kernel
theorem dX12_clears_281 : decode cX12_clears 281 = .ok (.iload 7, 2) := by decide +kernel
theorem dX12_clears_283 : decode cX12_clears 283 = .ok (.iadd, 1) := by decide +kernel
theorem dX12_clears_284 : decode cX12_clears 284 = .ok (.dup2, 1) := by decide +kernel
theorem dX12_clears_285 : decode cX12_clears 285 = .ok (.laload, 1) := by decide +kernel
theorem dX12_clears_286 : decode cX12_clears 286 = .ok (.aload_n 0, 1) := by decide +kernel
theorem dX12_clears_287 : decode cX12_clears 287 = .ok (.iload 5, 2) := by decide +kernel
theorem dX12_clears_289 : decode cX12_clears 289 = .ok (.iload 7, 2) := by decide +kernel
theorem dX12_clears_291 : decode cX12_clears 291 = .ok (.invokevirtual 355, 3) := by decide +kernel
theorem dX12_clears_294 : decode cX12_clears 294 = .ok (.ladd, 1) := by decide +kernel
theorem dX12_clears_295 : decode cX12_clears 295 = .ok (.lastore, 1) := by decide +kernel
theorem dX12_clears_296 : decode cX12_clears 296 = .ok (.iinc 7 1, 3) := by decide +kernel
theorem dX12_clears_299 : decode cX12_clears 299 = .ok (.goto (-35), 3) := by decide +kernel
theorem dX12_clears_302 : decode cX12_clears 302 = .ok (.iconst 0, 1) := by decide +kernel
theorem dX12_clears_303 : decode cX12_clears 303 = .ok (.ireturn, 1) := by decide +kernel
theorem dX12_clears_304 : decode cX12_clears 304 = .ok (.iinc 6 1, 3) := by decide +kernel
theorem dX12_clears_307 : decode cX12_clears 307 = .ok (.goto (-73), 3) := by decide +kernel
theorem dX12_clears_310 : decode cX12_clears 310 = .ok (.iinc 5 1, 3) := by decide +kernel
theorem dX12_clears_313 : decode cX12_clears 313 = .ok (.goto (-93), 3) := by decide +kernel
theorem dX12_clears_316 : decode cX12_clears 316 = .ok (.iconst 1, 1) := by decide +kernel
theorem dX12_clears_317 : decode cX12_clears 317 = .ok (.ireturn, 1) := by decide +kernel
theorem dX12_group_0 : decode cX12_group 0 = .ok (.aload_n 0, 1) := by decide +kernel
theorem dX12_group_1 : decode cX12_group 1 = .ok (.iconst 0, 1) := by decide +kernel
theorem dX12_group_2 : decode cX12_group 2 = .ok (.putfield 128, 3) := by decide +kernel
theorem dX12_group_5 : decode cX12_group 5 = .ok (.aload_n 0, 1) := by decide +kernel
theorem dX12_group_6 : decode cX12_group 6 = .ok (.invokevirtual 366, 3) := by decide +kernel
theorem dX12_group_9 : decode cX12_group 9 = .ok (.aload_n 0, 1) := by decide +kernel
theorem dX12_group_10 : decode cX12_group 10 = .ok (.iconst 0, 1) := by decide +kernel
theorem dX12_group_11 : decode cX12_group 11 = .ok (.putfield 132, 3) := by decide +kernel
theorem dX12_group_14 : decode cX12_group 14 = .ok (.iconst 0, 1) := by decide +kernel
theorem dX12_group_15 : decode cX12_group 15 = .ok (.istore_n 1, 1) := by decide +kernel
theorem dX12_group_16 : decode cX12_group 16 = .ok (.iload_n 1, 1) := by decide +kernel
theorem dX12_group_17 : decode cX12_group 17 = .ok (.aload_n 0, 1) := by decide +kernel
theorem dX12_group_18 : decode cX12_group 18 = .ok (.getfield 334, 3) := by decide +kernel
theorem dX12_group_21 : decode cX12_group 21 = .ok (.if_icmp .ge 60, 3) := by decide +kernel
theorem dX12_group_24 : decode cX12_group 24 = .ok (.aload_n 0, 1) := by decide +kernel
theorem dX12_group_25 : decode cX12_group 25 = .ok (.iload_n 1, 1) := by decide +kernel
theorem dX12_group_26 : decode cX12_group 26 = .ok (.invokevirtual 369, 3) := by decide +kernel
theorem dX12_group_29 : decode cX12_group 29 = .ok (.ifCond .eq 52, 3) := by decide +kernel
theorem dX12_group_32 : decode cX12_group 32 = .ok (.aload_n 0, 1) := by decide +kernel
theorem dX12_group_33 : decode cX12_group 33 = .ok (.iload_n 1, 1) := by decide +kernel
theorem dX12_group_34 : decode cX12_group 34 = .ok (.invokevirtual 372, 3) := by decide +kernel
theorem dX12_group_37 : decode cX12_group 37 = .ok (.aload_n 0, 1) := by decide +kernel
theorem dX12_group_38 : decode cX12_group 38 = .ok (.iload_n 1, 1) := by decide +kernel
theorem dX12_group_39 : decode cX12_group 39 = .ok (.invokevirtual 375, 3) := by decide +kernel
theorem dX12_group_42 : decode cX12_group 42 = .ok (.ifCond .ne 6, 3) := by decide +kernel
theorem dX12_group_45 : decode cX12_group 45 = .ok (.goto (-29), 3) := by decide +kernel
theorem dX12_group_48 : decode cX12_group 48 = .ok (.aload_n 0, 1) := by decide +kernel
theorem dX12_group_49 : decode cX12_group 49 = .ok (.iload_n 1, 1) := by decide +kernel
theorem dX12_group_50 : decode cX12_group 50 = .ok (.iload_n 1, 1) := by decide +kernel
theorem dX12_group_51 : decode cX12_group 51 = .ok (.invokevirtual 355, 3) := by decide +kernel
theorem dX12_group_54 : decode cX12_group 54 = .ok (.invokestatic 359, 3) := by decide +kernel
theorem dX12_group_57 : decode cX12_group 57 = .ok (.lconst 1, 1) := by decide +kernel
theorem dX12_group_58 : decode cX12_group 58 = .ok (.lcmp, 1) := by decide +kernel
theorem dX12_group_59 : decode cX12_group 59 = .ok (.ifCond .le 16, 3) := by decide +kernel
theorem dX12_group_62 : decode cX12_group 62 = .ok (.aload_n 0, 1) := by decide +kernel
theorem dX12_group_63 : decode cX12_group 63 = .ok (.aload_n 0, 1) := by decide +kernel
theorem dX12_group_64 : decode cX12_group 64 = .ok (.iload_n 1, 1) := by decide +kernel
theorem dX12_group_65 : decode cX12_group 65 = .ok (.iload_n 1, 1) := by decide +kernel
theorem dX12_group_66 : decode cX12_group 66 = .ok (.invokevirtual 355, 3) := by decide +kernel
theorem dX12_group_69 : decode cX12_group 69 = .ok (.invokestatic 359, 3) := by decide +kernel
theorem dX12_group_72 : decode cX12_group 72 = .ok (.invokevirtual 231, 3) := by decide +kernel
theorem dX12_group_75 : decode cX12_group 75 = .ok (.iinc 1 1, 3) := by decide +kernel
theorem dX12_group_78 : decode cX12_group 78 = .ok (.goto (-62), 3) := by decide +kernel
theorem dX12_group_81 : decode cX12_group 81 = .ok (.aload_n 0, 1) := by decide +kernel
theorem dX12_group_82 : decode cX12_group 82 = .ok (.getfield 334, 3) := by decide +kernel
theorem dX12_group_85 : decode cX12_group 85 = .ok (.iload_n 1, 1) := by decide +kernel
theorem dX12_group_86 : decode cX12_group 86 = .ok (.isub, 1) := by decide +kernel
theorem dX12_group_87 : decode cX12_group 87 = .ok (.ireturn, 1) := by decide +kernel
theorem dX12_euler_0 : decode cX12_euler 0 = .ok (.aload_n 0, 1) := by decide +kernel
theorem dX12_euler_1 : decode cX12_euler 1 = .ok (.iconst 0, 1) := by decide +kernel
theorem dX12_euler_2 : decode cX12_euler 2 = .ok (.putfield 128, 3) := by decide +kernel
theorem dX12_euler_5 : decode cX12_euler 5 = .ok (.aload_n 0, 1) := by decide +kernel
theorem dX12_euler_6 : decode cX12_euler 6 = .ok (.aload_n 0, 1) := by decide +kernel
theorem dX12_euler_7 : decode cX12_euler 7 = .ok (.getfield 9, 3) := by decide +kernel
theorem dX12_euler_10 : decode cX12_euler 10 = .ok (.invokevirtual 269, 3) := by decide +kernel
theorem dX12_euler_13 : decode cX12_euler 13 = .ok (.aload_n 0, 1) := by decide +kernel
theorem dX12_euler_14 : decode cX12_euler 14 = .ok (.aload_n 0, 1) := by decide +kernel
theorem dX12_euler_15 : decode cX12_euler 15 = .ok (.getfield 9, 3) := by decide +kernel
theorem dX12_euler_18 : decode cX12_euler 18 = .ok (.invokevirtual 309, 3) := by decide +kernel
theorem dX12_euler_21 : decode cX12_euler 21 = .ok (.iconst 4, 1) := by decide +kernel
theorem dX12_euler_22 : decode cX12_euler 22 = .ok (.aload_n 0, 1) := by decide +kernel
theorem dX12_euler_23 : decode cX12_euler 23 = .ok (.getfield 9, 3) := by decide +kernel
theorem dX12_euler_26 : decode cX12_euler 26 = .ok (.iconst 0, 1) := by decide +kernel
theorem dX12_euler_27 : decode cX12_euler 27 = .ok (.iaload, 1) := by decide +kernel
theorem dX12_euler_28 : decode cX12_euler 28 = .ok (.imul, 1) := by decide +kernel
theorem dX12_euler_29 : decode cX12_euler 29 = .ok (.aload_n 0, 1) := by decide +kernel
theorem dX12_euler_30 : decode cX12_euler 30 = .ok (.getfield 9, 3) := by decide +kernel
theorem dX12_euler_33 : decode cX12_euler 33 = .ok (.invokestatic 235, 3) := by decide +kernel
theorem dX12_euler_36 : decode cX12_euler 36 = .ok (.iadd, 1) := by decide +kernel
theorem dX12_euler_37 : decode cX12_euler 37 = .ok (.iconst 2, 1) := by decide +kernel
theorem dX12_euler_38 : decode cX12_euler 38 = .ok (.idiv, 1) := by decide +kernel
theorem dX12_euler_39 : decode cX12_euler 39 = .ok (.istore_n 1, 1) := by decide +kernel
theorem dX12_euler_40 : decode cX12_euler 40 = .ok (.bipush 100, 2) := by decide +kernel
theorem dX12_euler_42 : decode cX12_euler 42 = .ok (.aload_n 0, 1) := by decide +kernel
theorem dX12_euler_43 : decode cX12_euler 43 = .ok (.aload_n 0, 1) := by decide +kernel
theorem dX12_euler_44 : decode cX12_euler 44 = .ok (.getfield 9, 3) := by decide +kernel
theorem dX12_euler_47 : decode cX12_euler 47 = .ok (.invokevirtual 322, 3) := by decide +kernel
theorem dX12_euler_50 : decode cX12_euler 50 = .ok (.iadd, 1) := by decide +kernel
theorem dX12_euler_51 : decode cX12_euler 51 = .ok (.aload_n 0, 1) := by decide +kernel
theorem dX12_euler_52 : decode cX12_euler 52 = .ok (.getfield 300, 3) := by decide +kernel
theorem dX12_euler_55 : decode cX12_euler 55 = .ok (.isub, 1) := by decide +kernel
theorem dX12_euler_56 : decode cX12_euler 56 = .ok (.iload_n 1, 1) := by decide +kernel
theorem dX12_euler_57 : decode cX12_euler 57 = .ok (.iadd, 1) := by decide +kernel
theorem dX12_euler_58 : decode cX12_euler 58 = .ok (.aload_n 0, 1) := by decide +kernel
theorem dX12_euler_59 : decode cX12_euler 59 = .ok (.getfield 9, 3) := by decide +kernel
theorem dX12_euler_62 : decode cX12_euler 62 = .ok (.iconst 0, 1) := by decide +kernel
theorem dX12_euler_63 : decode cX12_euler 63 = .ok (.iaload, 1) := by decide +kernel
theorem dX12_euler_64 : decode cX12_euler 64 = .ok (.isub, 1) := by decide +kernel
theorem dX12_euler_65 : decode cX12_euler 65 = .ok (.ireturn, 1) := by decide +kernel
theorem dX12_alike_0 : decode cX12_alike 0 = .ok (.aload_n 0, 1) := by decide +kernel
theorem dX12_alike_1 : decode cX12_alike 1 = .ok (.iconst 0, 1) := by decide +kernel
theorem dX12_alike_2 : decode cX12_alike 2 = .ok (.putfield 128, 3) := by decide +kernel
theorem dX12_alike_5 : decode cX12_alike 5 = .ok (.aload_n 0, 1) := by decide +kernel
theorem dX12_alike_6 : decode cX12_alike 6 = .ok (.getfield 9, 3) := by decide +kernel
theorem dX12_alike_9 : decode cX12_alike 9 = .ok (.aload_n 0, 1) := by decide +kernel
theorem dX12_alike_10 : decode cX12_alike 10 = .ok (.getfield 45, 3) := by decide +kernel
theorem dX12_alike_13 : decode cX12_alike 13 = .ok (.invokestatic 168, 3) := by decide +kernel
theorem dX12_alike_16 : decode cX12_alike 16 = .ok (.aload_n 0, 1) := by decide +kernel
theorem dX12_alike_17 : decode cX12_alike 17 = .ok (.aload_n 0, 1) := by decide +kernel
theorem dX12_alike_18 : decode cX12_alike 18 = .ok (.getfield 45, 3) := by decide +kernel
theorem dX12_alike_21 : decode cX12_alike 21 = .ok (.invokevirtual 221, 3) := by decide +kernel
theorem dX12_alike_24 : decode cX12_alike 24 = .ok (.pop, 1) := by decide +kernel
theorem dX12_alike_25 : decode cX12_alike 25 = .ok (.aload_n 0, 1) := by decide +kernel
theorem dX12_alike_26 : decode cX12_alike 26 = .ok (.getfield 161, 3) := by decide +kernel
theorem dX12_alike_29 : decode cX12_alike 29 = .ok (.ireturn, 1) := by decide +kernel
theorem dX12_goes_0 : decode cX12_goes 0 = .ok (.aload_n 0, 1) := by decide +kernel
theorem dX12_goes_1 : decode cX12_goes 1 = .ok (.getfield 66, 3) := by decide +kernel
theorem dX12_goes_4 : decode cX12_goes 4 = .ok (.aload_n 0, 1) := by decide +kernel
theorem dX12_goes_5 : decode cX12_goes 5 = .ok (.getfield 378, 3) := by decide +kernel
theorem dX12_goes_8 : decode cX12_goes 8 = .ok (.iload_n 1, 1) := by decide +kernel
theorem dX12_goes_9 : decode cX12_goes 9 = .ok (.iastore, 1) := by decide +kernel
theorem dX12_goes_10 : decode cX12_goes 10 = .ok (.aload_n 0, 1) := by decide +kernel
theorem dX12_goes_11 : decode cX12_goes 11 = .ok (.getfield 69, 3) := by decide +kernel
theorem dX12_goes_14 : decode cX12_goes 14 = .ok (.iconst 4, 1) := by decide +kernel
theorem dX12_goes_15 : decode cX12_goes 15 = .ok (.aload_n 0, 1) := by decide +kernel
theorem dX12_goes_16 : decode cX12_goes 16 = .ok (.getfield 378, 3) := by decide +kernel
theorem dX12_goes_19 : decode cX12_goes 19 = .ok (.imul, 1) := by decide +kernel
theorem dX12_goes_20 : decode cX12_goes 20 = .ok (.iload_n 2, 1) := by decide +kernel
theorem dX12_goes_21 : decode cX12_goes 21 = .ok (.iastore, 1) := by decide +kernel
theorem dX12_goes_22 : decode cX12_goes 22 = .ok (.aload_n 0, 1) := by decide +kernel
theorem dX12_goes_23 : decode cX12_goes 23 = .ok (.getfield 69, 3) := by decide +kernel
theorem dX12_goes_26 : decode cX12_goes 26 = .ok (.iconst 4, 1) := by decide +kernel
theorem dX12_goes_27 : decode cX12_goes 27 = .ok (.aload_n 0, 1) := by decide +kernel
theorem dX12_goes_28 : decode cX12_goes 28 = .ok (.getfield 378, 3) := by decide +kernel
theorem dX12_goes_31 : decode cX12_goes 31 = .ok (.imul, 1) := by decide +kernel
theorem dX12_goes_32 : decode cX12_goes 32 = .ok (.iconst 1, 1) := by decide +kernel
theorem dX12_goes_33 : decode cX12_goes 33 = .ok (.iadd, 1) := by decide +kernel
theorem dX12_goes_34 : decode cX12_goes 34 = .ok (.iload_n 3, 1) := by decide +kernel
theorem dX12_goes_35 : decode cX12_goes 35 = .ok (.iastore, 1) := by decide +kernel
theorem dX12_goes_36 : decode cX12_goes 36 = .ok (.aload_n 0, 1) := by decide +kernel
theorem dX12_goes_37 : decode cX12_goes 37 = .ok (.getfield 69, 3) := by decide +kernel
theorem dX12_goes_40 : decode cX12_goes 40 = .ok (.iconst 4, 1) := by decide +kernel
theorem dX12_goes_41 : decode cX12_goes 41 = .ok (.aload_n 0, 1) := by decide +kernel
theorem dX12_goes_42 : decode cX12_goes 42 = .ok (.getfield 378, 3) := by decide +kernel
theorem dX12_goes_45 : decode cX12_goes 45 = .ok (.imul, 1) := by decide +kernel
theorem dX12_goes_46 : decode cX12_goes 46 = .ok (.iconst 2, 1) := by decide +kernel
theorem dX12_goes_47 : decode cX12_goes 47 = .ok (.iadd, 1) := by decide +kernel
theorem dX12_goes_48 : decode cX12_goes 48 = .ok (.iload 4, 2) := by decide +kernel
theorem dX12_goes_50 : decode cX12_goes 50 = .ok (.iastore, 1) := by decide +kernel
theorem dX12_goes_51 : decode cX12_goes 51 = .ok (.aload_n 0, 1) := by decide +kernel
theorem dX12_goes_52 : decode cX12_goes 52 = .ok (.getfield 69, 3) := by decide +kernel
theorem dX12_goes_55 : decode cX12_goes 55 = .ok (.iconst 4, 1) := by decide +kernel
theorem dX12_goes_56 : decode cX12_goes 56 = .ok (.aload_n 0, 1) := by decide +kernel
theorem dX12_goes_57 : decode cX12_goes 57 = .ok (.getfield 378, 3) := by decide +kernel
theorem dX12_goes_60 : decode cX12_goes 60 = .ok (.imul, 1) := by decide +kernel
theorem dX12_goes_61 : decode cX12_goes 61 = .ok (.iconst 3, 1) := by decide +kernel
theorem dX12_goes_62 : decode cX12_goes 62 = .ok (.iadd, 1) := by decide +kernel
theorem dX12_goes_63 : decode cX12_goes 63 = .ok (.iload 5, 2) := by decide +kernel
theorem dX12_goes_65 : decode cX12_goes 65 = .ok (.iastore, 1) := by decide +kernel
theorem dX12_goes_66 : decode cX12_goes 66 = .ok (.aload_n 0, 1) := by decide +kernel
theorem dX12_goes_67 : decode cX12_goes 67 = .ok (.dup, 1) := by decide +kernel
theorem dX12_goes_68 : decode cX12_goes 68 = .ok (.getfield 378, 3) := by decide +kernel
theorem dX12_goes_71 : decode cX12_goes 71 = .ok (.iconst 1, 1) := by decide +kernel
theorem dX12_goes_72 : decode cX12_goes 72 = .ok (.iadd, 1) := by decide +kernel
theorem dX12_goes_73 : decode cX12_goes 73 = .ok (.putfield 378, 3) := by decide +kernel
theorem dX12_goes_76 : decode cX12_goes 76 = .ok (.return_, 1) := by decide +kernel
theorem dX12_arrives_0 : decode cX12_arrives 0 = .ok (.aload_n 0, 1) := by decide +kernel
theorem dX12_arrives_1 : decode cX12_arrives 1 = .ok (.getfield 72, 3) := by decide +kernel
theorem dX12_arrives_4 : decode cX12_arrives 4 = .ok (.iconst 4, 1) := by decide +kernel
theorem dX12_arrives_5 : decode cX12_arrives 5 = .ok (.aload_n 0, 1) := by decide +kernel
theorem dX12_arrives_6 : decode cX12_arrives 6 = .ok (.getfield 381, 3) := by decide +kernel
theorem dX12_arrives_9 : decode cX12_arrives 9 = .ok (.imul, 1) := by decide +kernel
theorem dX12_arrives_10 : decode cX12_arrives 10 = .ok (.iload_n 1, 1) := by decide +kernel
theorem dX12_arrives_11 : decode cX12_arrives 11 = .ok (.iastore, 1) := by decide +kernel
theorem dX12_arrives_12 : decode cX12_arrives 12 = .ok (.aload_n 0, 1) := by decide +kernel
theorem dX12_arrives_13 : decode cX12_arrives 13 = .ok (.getfield 72, 3) := by decide +kernel
theorem dX12_arrives_16 : decode cX12_arrives 16 = .ok (.iconst 4, 1) := by decide +kernel
theorem dX12_arrives_17 : decode cX12_arrives 17 = .ok (.aload_n 0, 1) := by decide +kernel
theorem dX12_arrives_18 : decode cX12_arrives 18 = .ok (.getfield 381, 3) := by decide +kernel
theorem dX12_arrives_21 : decode cX12_arrives 21 = .ok (.imul, 1) := by decide +kernel
theorem dX12_arrives_22 : decode cX12_arrives 22 = .ok (.iconst 1, 1) := by decide +kernel
theorem dX12_arrives_23 : decode cX12_arrives 23 = .ok (.iadd, 1) := by decide +kernel
theorem dX12_arrives_24 : decode cX12_arrives 24 = .ok (.iload_n 2, 1) := by decide +kernel
theorem dX12_arrives_25 : decode cX12_arrives 25 = .ok (.iastore, 1) := by decide +kernel
theorem dX12_arrives_26 : decode cX12_arrives 26 = .ok (.aload_n 0, 1) := by decide +kernel
theorem dX12_arrives_27 : decode cX12_arrives 27 = .ok (.getfield 72, 3) := by decide +kernel
theorem dX12_arrives_30 : decode cX12_arrives 30 = .ok (.iconst 4, 1) := by decide +kernel
theorem dX12_arrives_31 : decode cX12_arrives 31 = .ok (.aload_n 0, 1) := by decide +kernel
theorem dX12_arrives_32 : decode cX12_arrives 32 = .ok (.getfield 381, 3) := by decide +kernel
theorem dX12_arrives_35 : decode cX12_arrives 35 = .ok (.imul, 1) := by decide +kernel
theorem dX12_arrives_36 : decode cX12_arrives 36 = .ok (.iconst 2, 1) := by decide +kernel
theorem dX12_arrives_37 : decode cX12_arrives 37 = .ok (.iadd, 1) := by decide +kernel
theorem dX12_arrives_38 : decode cX12_arrives 38 = .ok (.iload_n 3, 1) := by decide +kernel
theorem dX12_arrives_39 : decode cX12_arrives 39 = .ok (.iastore, 1) := by decide +kernel
theorem dX12_arrives_40 : decode cX12_arrives 40 = .ok (.aload_n 0, 1) := by decide +kernel
theorem dX12_arrives_41 : decode cX12_arrives 41 = .ok (.getfield 72, 3) := by decide +kernel
theorem dX12_arrives_44 : decode cX12_arrives 44 = .ok (.iconst 4, 1) := by decide +kernel
theorem dX12_arrives_45 : decode cX12_arrives 45 = .ok (.aload_n 0, 1) := by decide +kernel
theorem dX12_arrives_46 : decode cX12_arrives 46 = .ok (.getfield 381, 3) := by decide +kernel
theorem dX12_arrives_49 : decode cX12_arrives 49 = .ok (.imul, 1) := by decide +kernel
theorem dX12_arrives_50 : decode cX12_arrives 50 = .ok (.iconst 3, 1) := by decide +kernel
theorem dX12_arrives_51 : decode cX12_arrives 51 = .ok (.iadd, 1) := by decide +kernel
theorem dX12_arrives_52 : decode cX12_arrives 52 = .ok (.iload 4, 2) := by decide +kernel
theorem dX12_arrives_54 : decode cX12_arrives 54 = .ok (.iastore, 1) := by decide +kernel
theorem dX12_arrives_55 : decode cX12_arrives 55 = .ok (.aload_n 0, 1) := by decide +kernel
theorem dX12_arrives_56 : decode cX12_arrives 56 = .ok (.dup, 1) := by decide +kernel
theorem dX12_arrives_57 : decode cX12_arrives 57 = .ok (.getfield 381, 3) := by decide +kernel
theorem dX12_arrives_60 : decode cX12_arrives 60 = .ok (.iconst 1, 1) := by decide +kernel
theorem dX12_arrives_61 : decode cX12_arrives 61 = .ok (.iadd, 1) := by decide +kernel
theorem dX12_arrives_62 : decode cX12_arrives 62 = .ok (.putfield 381, 3) := by decide +kernel
theorem dX12_arrives_65 : decode cX12_arrives 65 = .ok (.return_, 1) := by decide +kernel
theorem dX12_beginMove_0 : decode cX12_beginMove 0 = .ok (.aload_n 0, 1) := by decide +kernel
theorem dX12_beginMove_1 : decode cX12_beginMove 1 = .ok (.iconst 0, 1) := by decide +kernel
theorem dX12_beginMove_2 : decode cX12_beginMove 2 = .ok (.putfield 378, 3) := by decide +kernel
theorem dX12_beginMove_5 : decode cX12_beginMove 5 = .ok (.aload_n 0, 1) := by decide +kernel
theorem dX12_beginMove_6 : decode cX12_beginMove 6 = .ok (.iconst 0, 1) := by decide +kernel
theorem dX12_beginMove_7 : decode cX12_beginMove 7 = .ok (.putfield 381, 3) := by decide +kernel
theorem dX12_beginMove_10 : decode cX12_beginMove 10 = .ok (.return_, 1) := by decide +kernel
theorem dX12_labelsOf_0 : decode cX12_labelsOf 0 = .ok (.iconst 0, 1) := by decide +kernel
theorem dX12_labelsOf_1 : decode cX12_labelsOf 1 = .ok (.istore_n 3, 1) := by decide +kernel
theorem dX12_labelsOf_2 : decode cX12_labelsOf 2 = .ok (.iconst 0, 1) := by decide +kernel
theorem dX12_labelsOf_3 : decode cX12_labelsOf 3 = .ok (.istore 4, 2) := by decide +kernel
theorem dX12_labelsOf_5 : decode cX12_labelsOf 5 = .ok (.iload 4, 2) := by decide +kernel
theorem dX12_labelsOf_7 : decode cX12_labelsOf 7 = .ok (.iconst 4, 1) := by decide +kernel
theorem dX12_labelsOf_8 : decode cX12_labelsOf 8 = .ok (.if_icmp .ge 32, 3) := by decide +kernel
theorem dX12_labelsOf_11 : decode cX12_labelsOf 11 = .ok (.iload_n 3, 1) := by decide +kernel
theorem dX12_labelsOf_12 : decode cX12_labelsOf 12 = .ok (.iload 4, 2) := by decide +kernel
theorem dX12_labelsOf_14 : decode cX12_labelsOf 14 = .ok (.iload_n 2, 1) := by decide +kernel
theorem dX12_labelsOf_15 : decode cX12_labelsOf 15 = .ok (.if_icmp .ne 7, 3) := by decide +kernel
theorem dX12_labelsOf_18 : decode cX12_labelsOf 18 = .ok (.iconst 0, 1) := by decide +kernel
theorem dX12_labelsOf_19 : decode cX12_labelsOf 19 = .ok (.goto 13, 3) := by decide +kernel
theorem dX12_labelsOf_22 : decode cX12_labelsOf 22 = .ok (.iconst 1, 1) := by decide +kernel
theorem dX12_labelsOf_23 : decode cX12_labelsOf 23 = .ok (.aload_n 0, 1) := by decide +kernel
theorem dX12_labelsOf_24 : decode cX12_labelsOf 24 = .ok (.iconst 4, 1) := by decide +kernel
theorem dX12_labelsOf_25 : decode cX12_labelsOf 25 = .ok (.iload_n 1, 1) := by decide +kernel
theorem dX12_labelsOf_26 : decode cX12_labelsOf 26 = .ok (.imul, 1) := by decide +kernel
theorem dX12_labelsOf_27 : decode cX12_labelsOf 27 = .ok (.iload 4, 2) := by decide +kernel
theorem dX12_labelsOf_29 : decode cX12_labelsOf 29 = .ok (.iadd, 1) := by decide +kernel
theorem dX12_labelsOf_30 : decode cX12_labelsOf 30 = .ok (.iaload, 1) := by decide +kernel
theorem dX12_labelsOf_31 : decode cX12_labelsOf 31 = .ok (.ishl, 1) := by decide +kernel
theorem dX12_labelsOf_32 : decode cX12_labelsOf 32 = .ok (.ior, 1) := by decide +kernel
theorem dX12_labelsOf_33 : decode cX12_labelsOf 33 = .ok (.istore_n 3, 1) := by decide +kernel
theorem dX12_labelsOf_34 : decode cX12_labelsOf 34 = .ok (.iinc 4 1, 3) := by decide +kernel
theorem dX12_labelsOf_37 : decode cX12_labelsOf 37 = .ok (.goto (-32), 3) := by decide +kernel
theorem dX12_labelsOf_40 : decode cX12_labelsOf 40 = .ok (.iload_n 3, 1) := by decide +kernel
theorem dX12_labelsOf_41 : decode cX12_labelsOf 41 = .ok (.ireturn, 1) := by decide +kernel
theorem dX12_cornerOf_0 : decode cX12_cornerOf 0 = .ok (.iconst 0, 1) := by decide +kernel
theorem dX12_cornerOf_1 : decode cX12_cornerOf 1 = .ok (.istore_n 3, 1) := by decide +kernel
theorem dX12_cornerOf_2 : decode cX12_cornerOf 2 = .ok (.iload_n 3, 1) := by decide +kernel
theorem dX12_cornerOf_3 : decode cX12_cornerOf 3 = .ok (.iconst 4, 1) := by decide +kernel
theorem dX12_cornerOf_4 : decode cX12_cornerOf 4 = .ok (.if_icmp .ge 22, 3) := by decide +kernel
theorem dX12_cornerOf_7 : decode cX12_cornerOf 7 = .ok (.aload_n 0, 1) := by decide +kernel
theorem dX12_cornerOf_8 : decode cX12_cornerOf 8 = .ok (.iconst 4, 1) := by decide +kernel
theorem dX12_cornerOf_9 : decode cX12_cornerOf 9 = .ok (.iload_n 1, 1) := by decide +kernel
theorem dX12_cornerOf_10 : decode cX12_cornerOf 10 = .ok (.imul, 1) := by decide +kernel
theorem dX12_cornerOf_11 : decode cX12_cornerOf 11 = .ok (.iload_n 3, 1) := by decide +kernel
theorem dX12_cornerOf_12 : decode cX12_cornerOf 12 = .ok (.iadd, 1) := by decide +kernel
theorem dX12_cornerOf_13 : decode cX12_cornerOf 13 = .ok (.iaload, 1) := by decide +kernel
theorem dX12_cornerOf_14 : decode cX12_cornerOf 14 = .ok (.iload_n 2, 1) := by decide +kernel
theorem dX12_cornerOf_15 : decode cX12_cornerOf 15 = .ok (.if_icmp .ne 5, 3) := by decide +kernel
theorem dX12_cornerOf_18 : decode cX12_cornerOf 18 = .ok (.iload_n 3, 1) := by decide +kernel
theorem dX12_cornerOf_19 : decode cX12_cornerOf 19 = .ok (.ireturn, 1) := by decide +kernel
theorem dX12_cornerOf_20 : decode cX12_cornerOf 20 = .ok (.iinc 3 1, 3) := by decide +kernel
theorem dX12_cornerOf_23 : decode cX12_cornerOf 23 = .ok (.goto (-21), 3) := by decide +kernel
theorem dX12_cornerOf_26 : decode cX12_cornerOf 26 = .ok (.iconst (-1), 1) := by decide +kernel
theorem dX12_cornerOf_27 : decode cX12_cornerOf 27 = .ok (.ireturn, 1) := by decide +kernel
theorem dX12_goingAs_0 : decode cX12_goingAs 0 = .ok (.iconst 0, 1) := by decide +kernel
theorem dX12_goingAs_1 : decode cX12_goingAs 1 = .ok (.istore_n 2, 1) := by decide +kernel
theorem dX12_goingAs_2 : decode cX12_goingAs 2 = .ok (.iload_n 2, 1) := by decide +kernel
theorem dX12_goingAs_3 : decode cX12_goingAs 3 = .ok (.aload_n 0, 1) := by decide +kernel
theorem dX12_goingAs_4 : decode cX12_goingAs 4 = .ok (.getfield 378, 3) := by decide +kernel
theorem dX12_goingAs_7 : decode cX12_goingAs 7 = .ok (.if_icmp .ge 21, 3) := by decide +kernel
theorem dX12_goingAs_10 : decode cX12_goingAs 10 = .ok (.aload_n 0, 1) := by decide +kernel
theorem dX12_goingAs_11 : decode cX12_goingAs 11 = .ok (.getfield 66, 3) := by decide +kernel
theorem dX12_goingAs_14 : decode cX12_goingAs 14 = .ok (.iload_n 2, 1) := by decide +kernel
theorem dX12_goingAs_15 : decode cX12_goingAs 15 = .ok (.iaload, 1) := by decide +kernel
theorem dX12_goingAs_16 : decode cX12_goingAs 16 = .ok (.iload_n 1, 1) := by decide +kernel
theorem dX12_goingAs_17 : decode cX12_goingAs 17 = .ok (.if_icmp .ne 5, 3) := by decide +kernel
theorem dX12_goingAs_20 : decode cX12_goingAs 20 = .ok (.iload_n 2, 1) := by decide +kernel
theorem dX12_goingAs_21 : decode cX12_goingAs 21 = .ok (.ireturn, 1) := by decide +kernel
theorem dX12_goingAs_22 : decode cX12_goingAs 22 = .ok (.iinc 2 1, 3) := by decide +kernel
theorem dX12_goingAs_25 : decode cX12_goingAs 25 = .ok (.goto (-23), 3) := by decide +kernel
theorem dX12_goingAs_28 : decode cX12_goingAs 28 = .ok (.iconst (-1), 1) := by decide +kernel
theorem dX12_goingAs_29 : decode cX12_goingAs 29 = .ok (.ireturn, 1) := by decide +kernel
theorem dX12_faceWith_0 : decode cX12_faceWith 0 = .ok (.iconst 0, 1) := by decide +kernel
theorem dX12_faceWith_1 : decode cX12_faceWith 1 = .ok (.istore_n 3, 1) := by decide +kernel
theorem dX12_faceWith_2 : decode cX12_faceWith 2 = .ok (.iload_n 3, 1) := by decide +kernel
theorem dX12_faceWith_3 : decode cX12_faceWith 3 = .ok (.aload_n 0, 1) := by decide +kernel
theorem dX12_faceWith_4 : decode cX12_faceWith 4 = .ok (.getfield 381, 3) := by decide +kernel
theorem dX12_faceWith_7 : decode cX12_faceWith 7 = .ok (.if_icmp .ge 55, 3) := by decide +kernel
theorem dX12_faceWith_10 : decode cX12_faceWith 10 = .ok (.iconst 0, 1) := by decide +kernel
theorem dX12_faceWith_11 : decode cX12_faceWith 11 = .ok (.istore 4, 2) := by decide +kernel
theorem dX12_faceWith_13 : decode cX12_faceWith 13 = .ok (.iload 4, 2) := by decide +kernel
theorem dX12_faceWith_15 : decode cX12_faceWith 15 = .ok (.iconst 4, 1) := by decide +kernel
theorem dX12_faceWith_16 : decode cX12_faceWith 16 = .ok (.if_icmp .ge 40, 3) := by decide +kernel
theorem dX12_faceWith_19 : decode cX12_faceWith 19 = .ok (.iconst 4, 1) := by decide +kernel
theorem dX12_faceWith_20 : decode cX12_faceWith 20 = .ok (.iload_n 3, 1) := by decide +kernel
theorem dX12_faceWith_21 : decode cX12_faceWith 21 = .ok (.imul, 1) := by decide +kernel
theorem dX12_faceWith_22 : decode cX12_faceWith 22 = .ok (.iload 4, 2) := by decide +kernel
theorem dX12_faceWith_24 : decode cX12_faceWith 24 = .ok (.iadd, 1) := by decide +kernel
theorem dX12_faceWith_25 : decode cX12_faceWith 25 = .ok (.iload_n 2, 1) := by decide +kernel
theorem dX12_faceWith_26 : decode cX12_faceWith 26 = .ok (.if_icmp .eq 24, 3) := by decide +kernel
theorem dX12_faceWith_29 : decode cX12_faceWith 29 = .ok (.aload_n 0, 1) := by decide +kernel
theorem dX12_faceWith_30 : decode cX12_faceWith 30 = .ok (.getfield 72, 3) := by decide +kernel
theorem dX12_faceWith_33 : decode cX12_faceWith 33 = .ok (.iload_n 3, 1) := by decide +kernel
theorem dX12_faceWith_34 : decode cX12_faceWith 34 = .ok (.iload 4, 2) := by decide +kernel
theorem dX12_faceWith_36 : decode cX12_faceWith 36 = .ok (.invokestatic 384, 3) := by decide +kernel
theorem dX12_faceWith_39 : decode cX12_faceWith 39 = .ok (.iload_n 1, 1) := by decide +kernel
theorem dX12_faceWith_40 : decode cX12_faceWith 40 = .ok (.if_icmp .ne 10, 3) := by decide +kernel
theorem dX12_faceWith_43 : decode cX12_faceWith 43 = .ok (.iconst 4, 1) := by decide +kernel
theorem dX12_faceWith_44 : decode cX12_faceWith 44 = .ok (.iload_n 3, 1) := by decide +kernel
theorem dX12_faceWith_45 : decode cX12_faceWith 45 = .ok (.imul, 1) := by decide +kernel
theorem dX12_faceWith_46 : decode cX12_faceWith 46 = .ok (.iload 4, 2) := by decide +kernel
theorem dX12_faceWith_48 : decode cX12_faceWith 48 = .ok (.iadd, 1) := by decide +kernel
theorem dX12_faceWith_49 : decode cX12_faceWith 49 = .ok (.ireturn, 1) := by decide +kernel
theorem dX12_faceWith_50 : decode cX12_faceWith 50 = .ok (.iinc 4 1, 3) := by decide +kernel
theorem dX12_faceWith_53 : decode cX12_faceWith 53 = .ok (.goto (-40), 3) := by decide +kernel
theorem dX12_faceWith_56 : decode cX12_faceWith 56 = .ok (.iinc 3 1, 3) := by decide +kernel
theorem dX12_faceWith_59 : decode cX12_faceWith 59 = .ok (.goto (-57), 3) := by decide +kernel
theorem dX12_faceWith_62 : decode cX12_faceWith 62 = .ok (.iconst (-1), 1) := by decide +kernel
theorem dX12_faceWith_63 : decode cX12_faceWith 63 = .ok (.ireturn, 1) := by decide +kernel
theorem dX12_move_0 : decode cX12_move 0 = .ok (.iconst 0, 1) := by decide +kernel
theorem dX12_move_1 : decode cX12_move 1 = .ok (.istore_n 2, 1) := by decide +kernel
theorem dX12_move_2 : decode cX12_move 2 = .ok (.iload_n 2, 1) := by decide +kernel
theorem dX12_move_3 : decode cX12_move 3 = .ok (.bipush 33, 2) := by decide +kernel
theorem dX12_move_5 : decode cX12_move 5 = .ok (.if_icmp .ge 16, 3) := by decide +kernel
theorem dX12_move_8 : decode cX12_move 8 = .ok (.aload_n 0, 1) := by decide +kernel
theorem dX12_move_9 : decode cX12_move 9 = .ok (.getfield 78, 3) := by decide +kernel
theorem dX12_move_12 : decode cX12_move 12 = .ok (.iload_n 2, 1) := by decide +kernel
theorem dX12_move_13 : decode cX12_move 13 = .ok (.iconst (-1), 1) := by decide +kernel
theorem dX12_move_14 : decode cX12_move 14 = .ok (.iastore, 1) := by decide +kernel
theorem dX12_move_15 : decode cX12_move 15 = .ok (.iinc 2 1, 3) := by decide +kernel
theorem dX12_move_18 : decode cX12_move 18 = .ok (.goto (-16), 3) := by decide +kernel
theorem dX12_move_21 : decode cX12_move 21 = .ok (.iconst 0, 1) := by decide +kernel
theorem dX12_move_22 : decode cX12_move 22 = .ok (.istore_n 2, 1) := by decide +kernel
theorem dX12_move_23 : decode cX12_move 23 = .ok (.iconst 0, 1) := by decide +kernel
theorem dX12_move_24 : decode cX12_move 24 = .ok (.istore_n 3, 1) := by decide +kernel
theorem dX12_move_25 : decode cX12_move 25 = .ok (.iload_n 3, 1) := by decide +kernel
theorem dX12_move_26 : decode cX12_move 26 = .ok (.aload_n 1, 1) := by decide +kernel
theorem dX12_move_27 : decode cX12_move 27 = .ok (.iconst 0, 1) := by decide +kernel
theorem dX12_move_28 : decode cX12_move 28 = .ok (.iaload, 1) := by decide +kernel
theorem dX12_move_29 : decode cX12_move 29 = .ok (.if_icmp .ge 28, 3) := by decide +kernel
theorem dX12_move_32 : decode cX12_move 32 = .ok (.aload_n 0, 1) := by decide +kernel
theorem dX12_move_33 : decode cX12_move 33 = .ok (.iload_n 3, 1) := by decide +kernel
theorem dX12_move_34 : decode cX12_move 34 = .ok (.invokevirtual 387, 3) := by decide +kernel
theorem dX12_move_37 : decode cX12_move 37 = .ok (.iconst (-1), 1) := by decide +kernel
theorem dX12_move_38 : decode cX12_move 38 = .ok (.if_icmp .ne 13, 3) := by decide +kernel
theorem dX12_move_41 : decode cX12_move 41 = .ok (.aload_n 0, 1) := by decide +kernel
theorem dX12_move_42 : decode cX12_move 42 = .ok (.getfield 75, 3) := by decide +kernel
theorem dX12_move_45 : decode cX12_move 45 = .ok (.iload_n 3, 1) := by decide +kernel
theorem dX12_move_46 : decode cX12_move 46 = .ok (.iload_n 2, 1) := by decide +kernel
theorem dX12_move_47 : decode cX12_move 47 = .ok (.iinc 2 1, 3) := by decide +kernel
theorem dX12_move_50 : decode cX12_move 50 = .ok (.iastore, 1) := by decide +kernel
theorem dX12_move_51 : decode cX12_move 51 = .ok (.iinc 3 1, 3) := by decide +kernel
theorem dX12_move_54 : decode cX12_move 54 = .ok (.goto (-29), 3) := by decide +kernel
theorem dX12_move_57 : decode cX12_move 57 = .ok (.aload_n 0, 1) := by decide +kernel
theorem dX12_move_58 : decode cX12_move 58 = .ok (.getfield 78, 3) := by decide +kernel
theorem dX12_move_61 : decode cX12_move 61 = .ok (.iconst 0, 1) := by decide +kernel
theorem dX12_move_62 : decode cX12_move 62 = .ok (.iload_n 2, 1) := by decide +kernel
theorem dX12_move_63 : decode cX12_move 63 = .ok (.aload_n 0, 1) := by decide +kernel
theorem dX12_move_64 : decode cX12_move 64 = .ok (.getfield 381, 3) := by decide +kernel
theorem dX12_move_67 : decode cX12_move 67 = .ok (.iadd, 1) := by decide +kernel
theorem dX12_move_68 : decode cX12_move 68 = .ok (.iastore, 1) := by decide +kernel
theorem dX12_move_69 : decode cX12_move 69 = .ok (.iconst 0, 1) := by decide +kernel
theorem dX12_move_70 : decode cX12_move 70 = .ok (.istore_n 3, 1) := by decide +kernel
theorem dX12_move_71 : decode cX12_move 71 = .ok (.iload_n 3, 1) := by decide +kernel
theorem dX12_move_72 : decode cX12_move 72 = .ok (.aload_n 1, 1) := by decide +kernel
theorem dX12_move_73 : decode cX12_move 73 = .ok (.iconst 0, 1) := by decide +kernel
theorem dX12_move_74 : decode cX12_move 74 = .ok (.iaload, 1) := by decide +kernel
theorem dX12_move_75 : decode cX12_move 75 = .ok (.if_icmp .ge 98, 3) := by decide +kernel
theorem dX12_move_78 : decode cX12_move 78 = .ok (.aload_n 0, 1) := by decide +kernel
theorem dX12_move_79 : decode cX12_move 79 = .ok (.iload_n 3, 1) := by decide +kernel
theorem dX12_move_80 : decode cX12_move 80 = .ok (.invokevirtual 387, 3) := by decide +kernel
theorem dX12_move_83 : decode cX12_move 83 = .ok (.iconst (-1), 1) := by decide +kernel
theorem dX12_move_84 : decode cX12_move 84 = .ok (.if_icmp .eq 6, 3) := by decide +kernel
theorem dX12_move_87 : decode cX12_move 87 = .ok (.goto 80, 3) := by decide +kernel
theorem dX12_move_90 : decode cX12_move 90 = .ok (.iconst 0, 1) := by decide +kernel
theorem dX12_move_91 : decode cX12_move 91 = .ok (.istore 4, 2) := by decide +kernel
theorem dX12_move_93 : decode cX12_move 93 = .ok (.iload 4, 2) := by decide +kernel
theorem dX12_move_95 : decode cX12_move 95 = .ok (.iconst 4, 1) := by decide +kernel
theorem dX12_move_96 : decode cX12_move 96 = .ok (.if_icmp .ge 71, 3) := by decide +kernel
theorem dX12_move_99 : decode cX12_move 99 = .ok (.aload_n 1, 1) := by decide +kernel
theorem dX12_move_100 : decode cX12_move 100 = .ok (.iload_n 3, 1) := by decide +kernel
theorem dX12_move_101 : decode cX12_move 101 = .ok (.iload 4, 2) := by decide +kernel
theorem dX12_move_103 : decode cX12_move 103 = .ok (.invokestatic 150, 3) := by decide +kernel
theorem dX12_move_106 : decode cX12_move 106 = .ok (.istore 5, 2) := by decide +kernel
theorem dX12_move_108 : decode cX12_move 108 = .ok (.iload 5, 2) := by decide +kernel
theorem dX12_move_110 : decode cX12_move 110 = .ok (.iconst (-1), 1) := by decide +kernel
theorem dX12_move_111 : decode cX12_move 111 = .ok (.if_icmp .eq 50, 3) := by decide +kernel
theorem dX12_move_114 : decode cX12_move 114 = .ok (.aload_n 0, 1) := by decide +kernel
theorem dX12_move_115 : decode cX12_move 115 = .ok (.iload 5, 2) := by decide +kernel
theorem dX12_move_117 : decode cX12_move 117 = .ok (.bipush 24, 2) := by decide +kernel
theorem dX12_move_119 : decode cX12_move 119 = .ok (.idiv, 1) := by decide +kernel
theorem dX12_move_120 : decode cX12_move 120 = .ok (.invokevirtual 387, 3) := by decide +kernel
theorem dX12_move_123 : decode cX12_move 123 = .ok (.iconst (-1), 1) := by decide +kernel
theorem dX12_move_124 : decode cX12_move 124 = .ok (.if_icmp .ne 37, 3) := by decide +kernel
theorem dX12_move_127 : decode cX12_move 127 = .ok (.aload_n 0, 1) := by decide +kernel
theorem dX12_move_128 : decode cX12_move 128 = .ok (.getfield 78, 3) := by decide +kernel
theorem dX12_move_131 : decode cX12_move 131 = .ok (.aload_n 0, 1) := by decide +kernel
theorem dX12_move_132 : decode cX12_move 132 = .ok (.getfield 75, 3) := by decide +kernel
theorem dX12_move_135 : decode cX12_move 135 = .ok (.iload_n 3, 1) := by decide +kernel
theorem dX12_move_136 : decode cX12_move 136 = .ok (.iaload, 1) := by decide +kernel
theorem dX12_move_137 : decode cX12_move 137 = .ok (.iload 4, 2) := by decide +kernel
theorem dX12_move_139 : decode cX12_move 139 = .ok (.bipush 24, 2) := by decide +kernel
theorem dX12_move_141 : decode cX12_move 141 = .ok (.aload_n 0, 1) := by decide +kernel
theorem dX12_move_142 : decode cX12_move 142 = .ok (.getfield 75, 3) := by decide +kernel
theorem dX12_move_145 : decode cX12_move 145 = .ok (.iload 5, 2) := by decide +kernel
theorem dX12_move_147 : decode cX12_move 147 = .ok (.bipush 24, 2) := by decide +kernel
theorem dX12_move_149 : decode cX12_move 149 = .ok (.idiv, 1) := by decide +kernel
theorem dX12_move_150 : decode cX12_move 150 = .ok (.iaload, 1) := by decide +kernel
theorem dX12_move_151 : decode cX12_move 151 = .ok (.imul, 1) := by decide +kernel
theorem dX12_move_152 : decode cX12_move 152 = .ok (.iload 5, 2) := by decide +kernel
theorem dX12_move_154 : decode cX12_move 154 = .ok (.bipush 24, 2) := by decide +kernel
theorem dX12_move_156 : decode cX12_move 156 = .ok (.irem, 1) := by decide +kernel
theorem dX12_move_157 : decode cX12_move 157 = .ok (.iadd, 1) := by decide +kernel
theorem dX12_move_158 : decode cX12_move 158 = .ok (.invokestatic 138, 3) := by decide +kernel
theorem dX12_move_161 : decode cX12_move 161 = .ok (.iinc 4 1, 3) := by decide +kernel
theorem dX12_move_164 : decode cX12_move 164 = .ok (.goto (-71), 3) := by decide +kernel
theorem dX12_move_167 : decode cX12_move 167 = .ok (.iinc 3 1, 3) := by decide +kernel
theorem dX12_move_170 : decode cX12_move 170 = .ok (.goto (-99), 3) := by decide +kernel
theorem dX12_move_173 : decode cX12_move 173 = .ok (.iconst 0, 1) := by decide +kernel
theorem dX12_move_174 : decode cX12_move 174 = .ok (.istore_n 3, 1) := by decide +kernel
theorem dX12_move_175 : decode cX12_move 175 = .ok (.iload_n 3, 1) := by decide +kernel
theorem dX12_move_176 : decode cX12_move 176 = .ok (.aload_n 0, 1) := by decide +kernel
theorem dX12_move_177 : decode cX12_move 177 = .ok (.getfield 381, 3) := by decide +kernel
theorem dX12_move_180 : decode cX12_move 180 = .ok (.if_icmp .ge 32, 3) := by decide +kernel
theorem dX12_move_183 : decode cX12_move 183 = .ok (.iconst 0, 1) := by decide +kernel
theorem dX12_move_184 : decode cX12_move 184 = .ok (.istore 4, 2) := by decide +kernel
theorem dX12_move_186 : decode cX12_move 186 = .ok (.iload 4, 2) := by decide +kernel
theorem dX12_move_188 : decode cX12_move 188 = .ok (.iconst 4, 1) := by decide +kernel
theorem dX12_move_189 : decode cX12_move 189 = .ok (.if_icmp .ge 17, 3) := by decide +kernel
theorem dX12_move_192 : decode cX12_move 192 = .ok (.aload_n 0, 1) := by decide +kernel
theorem dX12_move_193 : decode cX12_move 193 = .ok (.iload_n 2, 1) := by decide +kernel
theorem dX12_move_194 : decode cX12_move 194 = .ok (.iload_n 3, 1) := by decide +kernel
theorem dX12_move_195 : decode cX12_move 195 = .ok (.iload 4, 2) := by decide +kernel
theorem dX12_move_197 : decode cX12_move 197 = .ok (.invokevirtual 390, 3) := by decide +kernel
theorem dX12_move_200 : decode cX12_move 200 = .ok (.iinc 4 1, 3) := by decide +kernel
theorem dX12_move_203 : decode cX12_move 203 = .ok (.goto (-17), 3) := by decide +kernel
theorem dX12_move_206 : decode cX12_move 206 = .ok (.iinc 3 1, 3) := by decide +kernel
theorem dX12_move_209 : decode cX12_move 209 = .ok (.goto (-34), 3) := by decide +kernel
theorem dX12_move_212 : decode cX12_move 212 = .ok (.iconst 0, 1) := by decide +kernel
theorem dX12_move_213 : decode cX12_move 213 = .ok (.istore_n 3, 1) := by decide +kernel
theorem dX12_move_214 : decode cX12_move 214 = .ok (.iload_n 3, 1) := by decide +kernel
theorem dX12_move_215 : decode cX12_move 215 = .ok (.aload_n 0, 1) := by decide +kernel
theorem dX12_move_216 : decode cX12_move 216 = .ok (.getfield 378, 3) := by decide +kernel
theorem dX12_move_219 : decode cX12_move 219 = .ok (.if_icmp .ge 33, 3) := by decide +kernel
theorem dX12_move_222 : decode cX12_move 222 = .ok (.iconst 0, 1) := by decide +kernel
theorem dX12_move_223 : decode cX12_move 223 = .ok (.istore 4, 2) := by decide +kernel
theorem dX12_move_225 : decode cX12_move 225 = .ok (.iload 4, 2) := by decide +kernel
theorem dX12_move_227 : decode cX12_move 227 = .ok (.iconst 4, 1) := by decide +kernel
theorem dX12_move_228 : decode cX12_move 228 = .ok (.if_icmp .ge 18, 3) := by decide +kernel
theorem dX12_move_231 : decode cX12_move 231 = .ok (.aload_n 0, 1) := by decide +kernel
theorem dX12_move_232 : decode cX12_move 232 = .ok (.aload_n 1, 1) := by decide +kernel
theorem dX12_move_233 : decode cX12_move 233 = .ok (.iload_n 2, 1) := by decide +kernel
theorem dX12_move_234 : decode cX12_move 234 = .ok (.iload_n 3, 1) := by decide +kernel
theorem dX12_move_235 : decode cX12_move 235 = .ok (.iload 4, 2) := by decide +kernel
theorem dX12_move_237 : decode cX12_move 237 = .ok (.invokevirtual 393, 3) := by decide +kernel
theorem dX12_move_240 : decode cX12_move 240 = .ok (.iinc 4 1, 3) := by decide +kernel
theorem dX12_move_243 : decode cX12_move 243 = .ok (.goto (-18), 3) := by decide +kernel
theorem dX12_move_246 : decode cX12_move 246 = .ok (.iinc 3 1, 3) := by decide +kernel
theorem dX12_move_249 : decode cX12_move 249 = .ok (.goto (-35), 3) := by decide +kernel
theorem dX12_move_252 : decode cX12_move 252 = .ok (.aload_n 0, 1) := by decide +kernel
theorem dX12_move_253 : decode cX12_move 253 = .ok (.getfield 78, 3) := by decide +kernel
theorem dX12_move_256 : decode cX12_move 256 = .ok (.aload_n 1, 1) := by decide +kernel
theorem dX12_move_257 : decode cX12_move 257 = .ok (.invokestatic 168, 3) := by decide +kernel
theorem dX12_move_260 : decode cX12_move 260 = .ok (.return_, 1) := by decide +kernel
theorem dX12_inside_0 : decode cX12_inside 0 = .ok (.aload_n 0, 1) := by decide +kernel
theorem dX12_inside_1 : decode cX12_inside 1 = .ok (.aload_n 0, 1) := by decide +kernel
theorem dX12_inside_2 : decode cX12_inside 2 = .ok (.getfield 72, 3) := by decide +kernel
theorem dX12_inside_5 : decode cX12_inside 5 = .ok (.iload_n 2, 1) := by decide +kernel
theorem dX12_inside_6 : decode cX12_inside 6 = .ok (.iload_n 3, 1) := by decide +kernel
theorem dX12_inside_7 : decode cX12_inside 7 = .ok (.invokestatic 384, 3) := by decide +kernel
theorem dX12_inside_10 : decode cX12_inside 10 = .ok (.iconst 4, 1) := by decide +kernel
theorem dX12_inside_11 : decode cX12_inside 11 = .ok (.iload_n 2, 1) := by decide +kernel
theorem dX12_inside_12 : decode cX12_inside 12 = .ok (.imul, 1) := by decide +kernel
theorem dX12_inside_13 : decode cX12_inside 13 = .ok (.iload_n 3, 1) := by decide +kernel
theorem dX12_inside_14 : decode cX12_inside 14 = .ok (.iadd, 1) := by decide +kernel
theorem dX12_inside_15 : decode cX12_inside 15 = .ok (.invokevirtual 396, 3) := by decide +kernel
theorem dX12_inside_18 : decode cX12_inside 18 = .ok (.istore 4, 2) := by decide +kernel
theorem dX12_inside_20 : decode cX12_inside 20 = .ok (.iload 4, 2) := by decide +kernel
theorem dX12_inside_22 : decode cX12_inside 22 = .ok (.iconst (-1), 1) := by decide +kernel
theorem dX12_inside_23 : decode cX12_inside 23 = .ok (.if_icmp .ne 4, 3) := by decide +kernel
theorem dX12_inside_26 : decode cX12_inside 26 = .ok (.return_, 1) := by decide +kernel
theorem dX12_inside_27 : decode cX12_inside 27 = .ok (.iconst 0, 1) := by decide +kernel
theorem dX12_inside_28 : decode cX12_inside 28 = .ok (.istore 5, 2) := by decide +kernel
theorem dX12_inside_30 : decode cX12_inside 30 = .ok (.iload 5, 2) := by decide +kernel
theorem dX12_inside_32 : decode cX12_inside 32 = .ok (.iconst 4, 1) := by decide +kernel
theorem dX12_inside_33 : decode cX12_inside 33 = .ok (.if_icmp .ge 51, 3) := by decide +kernel
theorem dX12_inside_36 : decode cX12_inside 36 = .ok (.aload_n 0, 1) := by decide +kernel
theorem dX12_inside_37 : decode cX12_inside 37 = .ok (.getfield 42, 3) := by decide +kernel
theorem dX12_inside_40 : decode cX12_inside 40 = .ok (.iload 5, 2) := by decide +kernel
theorem dX12_inside_42 : decode cX12_inside 42 = .ok (.iload 5, 2) := by decide +kernel
theorem dX12_inside_44 : decode cX12_inside 44 = .ok (.iload_n 3, 1) := by decide +kernel
theorem dX12_inside_45 : decode cX12_inside 45 = .ok (.if_icmp .ne 10, 3) := by decide +kernel
theorem dX12_inside_48 : decode cX12_inside 48 = .ok (.iload 4, 2) := by decide +kernel
theorem dX12_inside_50 : decode cX12_inside 50 = .ok (.iconst 4, 1) := by decide +kernel
theorem dX12_inside_51 : decode cX12_inside 51 = .ok (.irem, 1) := by decide +kernel
theorem dX12_inside_52 : decode cX12_inside 52 = .ok (.goto 25, 3) := by decide +kernel
theorem dX12_inside_55 : decode cX12_inside 55 = .ok (.aload_n 0, 1) := by decide +kernel
theorem dX12_inside_56 : decode cX12_inside 56 = .ok (.getfield 72, 3) := by decide +kernel
theorem dX12_inside_59 : decode cX12_inside 59 = .ok (.iload 4, 2) := by decide +kernel
theorem dX12_inside_61 : decode cX12_inside 61 = .ok (.iconst 4, 1) := by decide +kernel
theorem dX12_inside_62 : decode cX12_inside 62 = .ok (.idiv, 1) := by decide +kernel
theorem dX12_inside_63 : decode cX12_inside 63 = .ok (.aload_n 0, 1) := by decide +kernel
theorem dX12_inside_64 : decode cX12_inside 64 = .ok (.getfield 72, 3) := by decide +kernel
theorem dX12_inside_67 : decode cX12_inside 67 = .ok (.iconst 4, 1) := by decide +kernel
theorem dX12_inside_68 : decode cX12_inside 68 = .ok (.iload_n 2, 1) := by decide +kernel
theorem dX12_inside_69 : decode cX12_inside 69 = .ok (.imul, 1) := by decide +kernel
theorem dX12_inside_70 : decode cX12_inside 70 = .ok (.iload 5, 2) := by decide +kernel
theorem dX12_inside_72 : decode cX12_inside 72 = .ok (.iadd, 1) := by decide +kernel
theorem dX12_inside_73 : decode cX12_inside 73 = .ok (.iaload, 1) := by decide +kernel
theorem dX12_inside_74 : decode cX12_inside 74 = .ok (.invokestatic 399, 3) := by decide +kernel
theorem dX12_inside_77 : decode cX12_inside 77 = .ok (.iastore, 1) := by decide +kernel
theorem dX12_inside_78 : decode cX12_inside 78 = .ok (.iinc 5 1, 3) := by decide +kernel
theorem dX12_inside_81 : decode cX12_inside 81 = .ok (.goto (-51), 3) := by decide +kernel
theorem dX12_inside_84 : decode cX12_inside 84 = .ok (.aload_n 0, 1) := by decide +kernel
theorem dX12_inside_85 : decode cX12_inside 85 = .ok (.getfield 78, 3) := by decide +kernel
theorem dX12_inside_88 : decode cX12_inside 88 = .ok (.iload_n 1, 1) := by decide +kernel
theorem dX12_inside_89 : decode cX12_inside 89 = .ok (.iload_n 2, 1) := by decide +kernel
theorem dX12_inside_90 : decode cX12_inside 90 = .ok (.iadd, 1) := by decide +kernel
theorem dX12_inside_91 : decode cX12_inside 91 = .ok (.iload_n 3, 1) := by decide +kernel
theorem dX12_inside_92 : decode cX12_inside 92 = .ok (.bipush 24, 2) := by decide +kernel
theorem dX12_inside_94 : decode cX12_inside 94 = .ok (.iload_n 1, 1) := by decide +kernel
theorem dX12_inside_95 : decode cX12_inside 95 = .ok (.iload 4, 2) := by decide +kernel
theorem dX12_inside_97 : decode cX12_inside 97 = .ok (.iconst 4, 1) := by decide +kernel
theorem dX12_inside_98 : decode cX12_inside 98 = .ok (.idiv, 1) := by decide +kernel
theorem dX12_inside_99 : decode cX12_inside 99 = .ok (.iadd, 1) := by decide +kernel
theorem dX12_inside_100 : decode cX12_inside 100 = .ok (.imul, 1) := by decide +kernel
theorem dX12_inside_101 : decode cX12_inside 101 = .ok (.aload_n 0, 1) := by decide +kernel
theorem dX12_inside_102 : decode cX12_inside 102 = .ok (.aload_n 0, 1) := by decide +kernel
theorem dX12_inside_103 : decode cX12_inside 103 = .ok (.getfield 42, 3) := by decide +kernel
theorem dX12_inside_106 : decode cX12_inside 106 = .ok (.iconst 0, 1) := by decide +kernel
theorem dX12_inside_107 : decode cX12_inside 107 = .ok (.iaload, 1) := by decide +kernel
theorem dX12_inside_108 : decode cX12_inside 108 = .ok (.aload_n 0, 1) := by decide +kernel
theorem dX12_inside_109 : decode cX12_inside 109 = .ok (.getfield 42, 3) := by decide +kernel
theorem dX12_inside_112 : decode cX12_inside 112 = .ok (.iconst 1, 1) := by decide +kernel
theorem dX12_inside_113 : decode cX12_inside 113 = .ok (.iaload, 1) := by decide +kernel
theorem dX12_inside_114 : decode cX12_inside 114 = .ok (.aload_n 0, 1) := by decide +kernel
theorem dX12_inside_115 : decode cX12_inside 115 = .ok (.getfield 42, 3) := by decide +kernel
theorem dX12_inside_118 : decode cX12_inside 118 = .ok (.iconst 2, 1) := by decide +kernel
theorem dX12_inside_119 : decode cX12_inside 119 = .ok (.iaload, 1) := by decide +kernel
theorem dX12_inside_120 : decode cX12_inside 120 = .ok (.invokevirtual 158, 3) := by decide +kernel
theorem dX12_inside_123 : decode cX12_inside 123 = .ok (.iadd, 1) := by decide +kernel
theorem dX12_inside_124 : decode cX12_inside 124 = .ok (.invokestatic 138, 3) := by decide +kernel
theorem dX12_inside_127 : decode cX12_inside 127 = .ok (.return_, 1) := by decide +kernel
theorem dX12_outside_0 : decode cX12_outside 0 = .ok (.aload_n 0, 1) := by decide +kernel
theorem dX12_outside_1 : decode cX12_outside 1 = .ok (.aload_n 0, 1) := by decide +kernel
theorem dX12_outside_2 : decode cX12_outside 2 = .ok (.getfield 69, 3) := by decide +kernel
theorem dX12_outside_5 : decode cX12_outside 5 = .ok (.iload_n 3, 1) := by decide +kernel
theorem dX12_outside_6 : decode cX12_outside 6 = .ok (.iload 4, 2) := by decide +kernel
theorem dX12_outside_8 : decode cX12_outside 8 = .ok (.invokestatic 384, 3) := by decide +kernel
theorem dX12_outside_11 : decode cX12_outside 11 = .ok (.iconst (-1), 1) := by decide +kernel
theorem dX12_outside_12 : decode cX12_outside 12 = .ok (.invokevirtual 396, 3) := by decide +kernel
theorem dX12_outside_15 : decode cX12_outside 15 = .ok (.istore 5, 2) := by decide +kernel
theorem dX12_outside_17 : decode cX12_outside 17 = .ok (.aload_n 1, 1) := by decide +kernel
theorem dX12_outside_18 : decode cX12_outside 18 = .ok (.aload_n 0, 1) := by decide +kernel
theorem dX12_outside_19 : decode cX12_outside 19 = .ok (.getfield 66, 3) := by decide +kernel
theorem dX12_outside_22 : decode cX12_outside 22 = .ok (.iload_n 3, 1) := by decide +kernel
theorem dX12_outside_23 : decode cX12_outside 23 = .ok (.iaload, 1) := by decide +kernel
theorem dX12_outside_24 : decode cX12_outside 24 = .ok (.iload 4, 2) := by decide +kernel
theorem dX12_outside_26 : decode cX12_outside 26 = .ok (.invokestatic 150, 3) := by decide +kernel
theorem dX12_outside_29 : decode cX12_outside 29 = .ok (.istore 6, 2) := by decide +kernel
theorem dX12_outside_31 : decode cX12_outside 31 = .ok (.iload 5, 2) := by decide +kernel
theorem dX12_outside_33 : decode cX12_outside 33 = .ok (.iconst (-1), 1) := by decide +kernel
theorem dX12_outside_34 : decode cX12_outside 34 = .ok (.if_icmp .eq 9, 3) := by decide +kernel
theorem dX12_outside_37 : decode cX12_outside 37 = .ok (.iload 6, 2) := by decide +kernel
theorem dX12_outside_39 : decode cX12_outside 39 = .ok (.iconst (-1), 1) := by decide +kernel
theorem dX12_outside_40 : decode cX12_outside 40 = .ok (.if_icmp .ne 4, 3) := by decide +kernel
theorem dX12_outside_43 : decode cX12_outside 43 = .ok (.return_, 1) := by decide +kernel
theorem dX12_outside_44 : decode cX12_outside 44 = .ok (.iload 5, 2) := by decide +kernel
theorem dX12_outside_46 : decode cX12_outside 46 = .ok (.iconst 4, 1) := by decide +kernel
theorem dX12_outside_47 : decode cX12_outside 47 = .ok (.idiv, 1) := by decide +kernel
theorem dX12_outside_48 : decode cX12_outside 48 = .ok (.istore 7, 2) := by decide +kernel
theorem dX12_outside_50 : decode cX12_outside 50 = .ok (.iload 6, 2) := by decide +kernel
theorem dX12_outside_52 : decode cX12_outside 52 = .ok (.bipush 24, 2) := by decide +kernel
theorem dX12_outside_54 : decode cX12_outside 54 = .ok (.irem, 1) := by decide +kernel
theorem dX12_outside_55 : decode cX12_outside 55 = .ok (.istore 8, 2) := by decide +kernel
theorem dX12_outside_57 : decode cX12_outside 57 = .ok (.iload 6, 2) := by decide +kernel
theorem dX12_outside_59 : decode cX12_outside 59 = .ok (.bipush 24, 2) := by decide +kernel
theorem dX12_outside_61 : decode cX12_outside 61 = .ok (.idiv, 1) := by decide +kernel
theorem dX12_outside_62 : decode cX12_outside 62 = .ok (.istore 9, 2) := by decide +kernel
theorem dX12_outside_64 : decode cX12_outside 64 = .ok (.aload_n 0, 1) := by decide +kernel
theorem dX12_outside_65 : decode cX12_outside 65 = .ok (.iload 9, 2) := by decide +kernel
theorem dX12_outside_67 : decode cX12_outside 67 = .ok (.invokevirtual 387, 3) := by decide +kernel
theorem dX12_outside_70 : decode cX12_outside 70 = .ok (.istore 10, 2) := by decide +kernel
theorem dX12_outside_72 : decode cX12_outside 72 = .ok (.iload 10, 2) := by decide +kernel
theorem dX12_outside_74 : decode cX12_outside 74 = .ok (.iconst (-1), 1) := by decide +kernel
theorem dX12_outside_75 : decode cX12_outside 75 = .ok (.if_icmp .ne 13, 3) := by decide +kernel
theorem dX12_outside_78 : decode cX12_outside 78 = .ok (.iload 8, 2) := by decide +kernel
theorem dX12_outside_80 : decode cX12_outside 80 = .ok (.iload 4, 2) := by decide +kernel
theorem dX12_outside_82 : decode cX12_outside 82 = .ok (.invokestatic 124, 3) := by decide +kernel
theorem dX12_outside_85 : decode cX12_outside 85 = .ok (.goto 26, 3) := by decide +kernel
theorem dX12_outside_88 : decode cX12_outside 88 = .ok (.aload_n 0, 1) := by decide +kernel
theorem dX12_outside_89 : decode cX12_outside 89 = .ok (.aload_n 0, 1) := by decide +kernel
theorem dX12_outside_90 : decode cX12_outside 90 = .ok (.getfield 69, 3) := by decide +kernel
theorem dX12_outside_93 : decode cX12_outside 93 = .ok (.iload 10, 2) := by decide +kernel
theorem dX12_outside_95 : decode cX12_outside 95 = .ok (.iload 8, 2) := by decide +kernel
theorem dX12_outside_97 : decode cX12_outside 97 = .ok (.iload 4, 2) := by decide +kernel
theorem dX12_outside_99 : decode cX12_outside 99 = .ok (.invokestatic 124, 3) := by decide +kernel
theorem dX12_outside_102 : decode cX12_outside 102 = .ok (.invokestatic 384, 3) := by decide +kernel
theorem dX12_outside_105 : decode cX12_outside 105 = .ok (.iconst (-1), 1) := by decide +kernel
theorem dX12_outside_106 : decode cX12_outside 106 = .ok (.invokevirtual 396, 3) := by decide +kernel
theorem dX12_outside_109 : decode cX12_outside 109 = .ok (.iconst 4, 1) := by decide +kernel
theorem dX12_outside_110 : decode cX12_outside 110 = .ok (.irem, 1) := by decide +kernel
theorem dX12_outside_111 : decode cX12_outside 111 = .ok (.istore 11, 2) := by decide +kernel
theorem dX12_outside_113 : decode cX12_outside 113 = .ok (.iload 10, 2) := by decide +kernel
theorem dX12_outside_115 : decode cX12_outside 115 = .ok (.iconst (-1), 1) := by decide +kernel
theorem dX12_outside_116 : decode cX12_outside 116 = .ok (.if_icmp .ne 13, 3) := by decide +kernel
theorem dX12_outside_119 : decode cX12_outside 119 = .ok (.aload_n 0, 1) := by decide +kernel
theorem dX12_outside_120 : decode cX12_outside 120 = .ok (.getfield 75, 3) := by decide +kernel
theorem dX12_outside_123 : decode cX12_outside 123 = .ok (.iload 9, 2) := by decide +kernel
theorem dX12_outside_125 : decode cX12_outside 125 = .ok (.iaload, 1) := by decide +kernel
theorem dX12_outside_126 : decode cX12_outside 126 = .ok (.goto 28, 3) := by decide +kernel
theorem dX12_outside_129 : decode cX12_outside 129 = .ok (.iload_n 2, 1) := by decide +kernel
theorem dX12_outside_130 : decode cX12_outside 130 = .ok (.aload_n 0, 1) := by decide +kernel
theorem dX12_outside_131 : decode cX12_outside 131 = .ok (.aload_n 0, 1) := by decide +kernel
theorem dX12_outside_132 : decode cX12_outside 132 = .ok (.getfield 69, 3) := by decide +kernel
theorem dX12_outside_135 : decode cX12_outside 135 = .ok (.iload 10, 2) := by decide +kernel
theorem dX12_outside_137 : decode cX12_outside 137 = .ok (.iload 8, 2) := by decide +kernel
theorem dX12_outside_139 : decode cX12_outside 139 = .ok (.iload 4, 2) := by decide +kernel
theorem dX12_outside_141 : decode cX12_outside 141 = .ok (.invokestatic 124, 3) := by decide +kernel
theorem dX12_outside_144 : decode cX12_outside 144 = .ok (.invokestatic 384, 3) := by decide +kernel
theorem dX12_outside_147 : decode cX12_outside 147 = .ok (.iconst (-1), 1) := by decide +kernel
theorem dX12_outside_148 : decode cX12_outside 148 = .ok (.invokevirtual 396, 3) := by decide +kernel
theorem dX12_outside_151 : decode cX12_outside 151 = .ok (.iconst 4, 1) := by decide +kernel
theorem dX12_outside_152 : decode cX12_outside 152 = .ok (.idiv, 1) := by decide +kernel
theorem dX12_outside_153 : decode cX12_outside 153 = .ok (.iadd, 1) := by decide +kernel
theorem dX12_outside_154 : decode cX12_outside 154 = .ok (.istore 12, 2) := by decide +kernel
theorem dX12_outside_156 : decode cX12_outside 156 = .ok (.iconst 0, 1) := by decide +kernel
theorem dX12_outside_157 : decode cX12_outside 157 = .ok (.istore 13, 2) := by decide +kernel
theorem dX12_outside_159 : decode cX12_outside 159 = .ok (.iload 13, 2) := by decide +kernel
theorem dX12_outside_161 : decode cX12_outside 161 = .ok (.iconst 4, 1) := by decide +kernel
theorem dX12_outside_162 : decode cX12_outside 162 = .ok (.if_icmp .ge 98, 3) := by decide +kernel
theorem dX12_outside_165 : decode cX12_outside 165 = .ok (.iload 13, 2) := by decide +kernel
theorem dX12_outside_167 : decode cX12_outside 167 = .ok (.iload 5, 2) := by decide +kernel
theorem dX12_outside_169 : decode cX12_outside 169 = .ok (.iconst 4, 1) := by decide +kernel
theorem dX12_outside_170 : decode cX12_outside 170 = .ok (.irem, 1) := by decide +kernel
theorem dX12_outside_171 : decode cX12_outside 171 = .ok (.if_icmp .ne 15, 3) := by decide +kernel
theorem dX12_outside_174 : decode cX12_outside 174 = .ok (.aload_n 0, 1) := by decide +kernel
theorem dX12_outside_175 : decode cX12_outside 175 = .ok (.getfield 42, 3) := by decide +kernel
theorem dX12_outside_178 : decode cX12_outside 178 = .ok (.iload 13, 2) := by decide +kernel
theorem dX12_outside_180 : decode cX12_outside 180 = .ok (.iload 11, 2) := by decide +kernel
theorem dX12_outside_182 : decode cX12_outside 182 = .ok (.iastore, 1) := by decide +kernel
theorem dX12_outside_183 : decode cX12_outside 183 = .ok (.goto 71, 3) := by decide +kernel
theorem dX12_outside_186 : decode cX12_outside 186 = .ok (.iload 8, 2) := by decide +kernel
theorem dX12_outside_188 : decode cX12_outside 188 = .ok (.aload_n 0, 1) := by decide +kernel
theorem dX12_outside_189 : decode cX12_outside 189 = .ok (.getfield 69, 3) := by decide +kernel
theorem dX12_outside_192 : decode cX12_outside 192 = .ok (.iload_n 3, 1) := by decide +kernel
theorem dX12_outside_193 : decode cX12_outside 193 = .ok (.aload_n 0, 1) := by decide +kernel
theorem dX12_outside_194 : decode cX12_outside 194 = .ok (.getfield 72, 3) := by decide +kernel
theorem dX12_outside_197 : decode cX12_outside 197 = .ok (.iconst 4, 1) := by decide +kernel
theorem dX12_outside_198 : decode cX12_outside 198 = .ok (.iload 7, 2) := by decide +kernel
theorem dX12_outside_200 : decode cX12_outside 200 = .ok (.imul, 1) := by decide +kernel
theorem dX12_outside_201 : decode cX12_outside 201 = .ok (.iload 13, 2) := by decide +kernel
theorem dX12_outside_203 : decode cX12_outside 203 = .ok (.iadd, 1) := by decide +kernel
theorem dX12_outside_204 : decode cX12_outside 204 = .ok (.iaload, 1) := by decide +kernel
theorem dX12_outside_205 : decode cX12_outside 205 = .ok (.invokestatic 399, 3) := by decide +kernel
theorem dX12_outside_208 : decode cX12_outside 208 = .ok (.invokestatic 124, 3) := by decide +kernel
theorem dX12_outside_211 : decode cX12_outside 211 = .ok (.istore 14, 2) := by decide +kernel
theorem dX12_outside_213 : decode cX12_outside 213 = .ok (.aload_n 0, 1) := by decide +kernel
theorem dX12_outside_214 : decode cX12_outside 214 = .ok (.getfield 42, 3) := by decide +kernel
theorem dX12_outside_217 : decode cX12_outside 217 = .ok (.iload 13, 2) := by decide +kernel
theorem dX12_outside_219 : decode cX12_outside 219 = .ok (.iload 10, 2) := by decide +kernel
theorem dX12_outside_221 : decode cX12_outside 221 = .ok (.iconst (-1), 1) := by decide +kernel
theorem dX12_outside_222 : decode cX12_outside 222 = .ok (.if_icmp .ne 8, 3) := by decide +kernel
theorem dX12_outside_225 : decode cX12_outside 225 = .ok (.iload 14, 2) := by decide +kernel
theorem dX12_outside_227 : decode cX12_outside 227 = .ok (.goto 26, 3) := by decide +kernel
theorem dX12_outside_230 : decode cX12_outside 230 = .ok (.aload_n 0, 1) := by decide +kernel
theorem dX12_outside_231 : decode cX12_outside 231 = .ok (.getfield 72, 3) := by decide +kernel
theorem dX12_outside_234 : decode cX12_outside 234 = .ok (.iload 12, 2) := by decide +kernel
theorem dX12_outside_236 : decode cX12_outside 236 = .ok (.iload_n 2, 1) := by decide +kernel
theorem dX12_outside_237 : decode cX12_outside 237 = .ok (.isub, 1) := by decide +kernel
theorem dX12_outside_238 : decode cX12_outside 238 = .ok (.aload_n 0, 1) := by decide +kernel
theorem dX12_outside_239 : decode cX12_outside 239 = .ok (.getfield 69, 3) := by decide +kernel
theorem dX12_outside_242 : decode cX12_outside 242 = .ok (.iconst 4, 1) := by decide +kernel
theorem dX12_outside_243 : decode cX12_outside 243 = .ok (.iload 10, 2) := by decide +kernel
theorem dX12_outside_245 : decode cX12_outside 245 = .ok (.imul, 1) := by decide +kernel
theorem dX12_outside_246 : decode cX12_outside 246 = .ok (.iload 14, 2) := by decide +kernel
theorem dX12_outside_248 : decode cX12_outside 248 = .ok (.iadd, 1) := by decide +kernel
theorem dX12_outside_249 : decode cX12_outside 249 = .ok (.iaload, 1) := by decide +kernel
theorem dX12_outside_250 : decode cX12_outside 250 = .ok (.invokestatic 399, 3) := by decide +kernel
theorem dX12_outside_253 : decode cX12_outside 253 = .ok (.iastore, 1) := by decide +kernel
theorem dX12_outside_254 : decode cX12_outside 254 = .ok (.iinc 13 1, 3) := by decide +kernel
theorem dX12_outside_257 : decode cX12_outside 257 = .ok (.goto (-98), 3) := by decide +kernel
theorem dX12_outside_260 : decode cX12_outside 260 = .ok (.aload_n 0, 1) := by decide +kernel
theorem dX12_outside_261 : decode cX12_outside 261 = .ok (.aload_n 0, 1) := by decide +kernel
theorem dX12_outside_262 : decode cX12_outside 262 = .ok (.getfield 42, 3) := by decide +kernel
theorem dX12_outside_265 : decode cX12_outside 265 = .ok (.iconst 0, 1) := by decide +kernel
theorem dX12_outside_266 : decode cX12_outside 266 = .ok (.iaload, 1) := by decide +kernel
theorem dX12_outside_267 : decode cX12_outside 267 = .ok (.aload_n 0, 1) := by decide +kernel
theorem dX12_outside_268 : decode cX12_outside 268 = .ok (.getfield 42, 3) := by decide +kernel
theorem dX12_outside_271 : decode cX12_outside 271 = .ok (.iconst 1, 1) := by decide +kernel
theorem dX12_outside_272 : decode cX12_outside 272 = .ok (.iaload, 1) := by decide +kernel
theorem dX12_outside_273 : decode cX12_outside 273 = .ok (.aload_n 0, 1) := by decide +kernel
theorem dX12_outside_274 : decode cX12_outside 274 = .ok (.getfield 42, 3) := by decide +kernel
theorem dX12_outside_277 : decode cX12_outside 277 = .ok (.iconst 2, 1) := by decide +kernel
theorem dX12_outside_278 : decode cX12_outside 278 = .ok (.iaload, 1) := by decide +kernel
theorem dX12_outside_279 : decode cX12_outside 279 = .ok (.invokevirtual 158, 3) := by decide +kernel
theorem dX12_outside_282 : decode cX12_outside 282 = .ok (.istore 13, 2) := by decide +kernel
theorem dX12_outside_284 : decode cX12_outside 284 = .ok (.aload_n 0, 1) := by decide +kernel
theorem dX12_outside_285 : decode cX12_outside 285 = .ok (.getfield 78, 3) := by decide +kernel
theorem dX12_outside_288 : decode cX12_outside 288 = .ok (.iload_n 2, 1) := by decide +kernel
theorem dX12_outside_289 : decode cX12_outside 289 = .ok (.iload 7, 2) := by decide +kernel
theorem dX12_outside_291 : decode cX12_outside 291 = .ok (.iadd, 1) := by decide +kernel
theorem dX12_outside_292 : decode cX12_outside 292 = .ok (.iload 5, 2) := by decide +kernel
theorem dX12_outside_294 : decode cX12_outside 294 = .ok (.iconst 4, 1) := by decide +kernel
theorem dX12_outside_295 : decode cX12_outside 295 = .ok (.irem, 1) := by decide +kernel
theorem dX12_outside_296 : decode cX12_outside 296 = .ok (.bipush 24, 2) := by decide +kernel
theorem dX12_outside_298 : decode cX12_outside 298 = .ok (.iload 12, 2) := by decide +kernel
theorem dX12_outside_300 : decode cX12_outside 300 = .ok (.imul, 1) := by decide +kernel
theorem dX12_outside_301 : decode cX12_outside 301 = .ok (.iload 13, 2) := by decide +kernel
theorem dX12_outside_303 : decode cX12_outside 303 = .ok (.iadd, 1) := by decide +kernel
theorem dX12_outside_304 : decode cX12_outside 304 = .ok (.invokestatic 138, 3) := by decide +kernel
theorem dX12_outside_307 : decode cX12_outside 307 = .ok (.iload 10, 2) := by decide +kernel
theorem dX12_outside_309 : decode cX12_outside 309 = .ok (.iconst (-1), 1) := by decide +kernel
theorem dX12_outside_310 : decode cX12_outside 310 = .ok (.if_icmp .ne 27, 3) := by decide +kernel
theorem dX12_outside_313 : decode cX12_outside 313 = .ok (.aload_n 0, 1) := by decide +kernel
theorem dX12_outside_314 : decode cX12_outside 314 = .ok (.getfield 78, 3) := by decide +kernel
theorem dX12_outside_317 : decode cX12_outside 317 = .ok (.iload 12, 2) := by decide +kernel
theorem dX12_outside_319 : decode cX12_outside 319 = .ok (.iload 11, 2) := by decide +kernel
theorem dX12_outside_321 : decode cX12_outside 321 = .ok (.bipush 24, 2) := by decide +kernel
theorem dX12_outside_323 : decode cX12_outside 323 = .ok (.iload_n 2, 1) := by decide +kernel
theorem dX12_outside_324 : decode cX12_outside 324 = .ok (.iload 7, 2) := by decide +kernel
theorem dX12_outside_326 : decode cX12_outside 326 = .ok (.iadd, 1) := by decide +kernel
theorem dX12_outside_327 : decode cX12_outside 327 = .ok (.imul, 1) := by decide +kernel
theorem dX12_outside_328 : decode cX12_outside 328 = .ok (.iload 13, 2) := by decide +kernel
theorem dX12_outside_330 : decode cX12_outside 330 = .ok (.invokestatic 142, 3) := by decide +kernel
theorem dX12_outside_333 : decode cX12_outside 333 = .ok (.iadd, 1) := by decide +kernel
theorem dX12_outside_334 : decode cX12_outside 334 = .ok (.invokestatic 138, 3) := by decide +kernel
theorem dX12_outside_337 : decode cX12_outside 337 = .ok (.return_, 1) := by decide +kernel
theorem dX12_goTwo_0 : decode cX12_goTwo 0 = .ok (.iload_n 2, 1) := by decide +kernel
theorem dX12_goTwo_1 : decode cX12_goTwo 1 = .ok (.iconst 0, 1) := by decide +kernel
theorem dX12_goTwo_2 : decode cX12_goTwo 2 = .ok (.aload_n 1, 1) := by decide +kernel
theorem dX12_goTwo_3 : decode cX12_goTwo 3 = .ok (.iconst 0, 1) := by decide +kernel
theorem dX12_goTwo_4 : decode cX12_goTwo 4 = .ok (.iaload, 1) := by decide +kernel
theorem dX12_goTwo_5 : decode cX12_goTwo 5 = .ok (.iconst 1, 1) := by decide +kernel
theorem dX12_goTwo_6 : decode cX12_goTwo 6 = .ok (.isub, 1) := by decide +kernel
theorem dX12_goTwo_7 : decode cX12_goTwo 7 = .ok (.invokestatic 179, 3) := by decide +kernel
theorem dX12_goTwo_10 : decode cX12_goTwo 10 = .ok (.ifCond .eq 12, 3) := by decide +kernel
theorem dX12_goTwo_13 : decode cX12_goTwo 13 = .ok (.iload_n 3, 1) := by decide +kernel
theorem dX12_goTwo_14 : decode cX12_goTwo 14 = .ok (.iconst 0, 1) := by decide +kernel
theorem dX12_goTwo_15 : decode cX12_goTwo 15 = .ok (.iconst 3, 1) := by decide +kernel
theorem dX12_goTwo_16 : decode cX12_goTwo 16 = .ok (.invokestatic 179, 3) := by decide +kernel
theorem dX12_goTwo_19 : decode cX12_goTwo 19 = .ok (.ifCond .ne 5, 3) := by decide +kernel
theorem dX12_goTwo_22 : decode cX12_goTwo 22 = .ok (.iconst (-1), 1) := by decide +kernel
theorem dX12_goTwo_23 : decode cX12_goTwo 23 = .ok (.ireturn, 1) := by decide +kernel
theorem dX12_goTwo_24 : decode cX12_goTwo 24 = .ok (.aload_n 1, 1) := by decide +kernel
theorem dX12_goTwo_25 : decode cX12_goTwo 25 = .ok (.iload_n 2, 1) := by decide +kernel
theorem dX12_goTwo_26 : decode cX12_goTwo 26 = .ok (.iload_n 3, 1) := by decide +kernel
theorem dX12_goTwo_27 : decode cX12_goTwo 27 = .ok (.invokestatic 150, 3) := by decide +kernel
theorem dX12_goTwo_30 : decode cX12_goTwo 30 = .ok (.istore 4, 2) := by decide +kernel
theorem dX12_goTwo_32 : decode cX12_goTwo 32 = .ok (.iload 4, 2) := by decide +kernel
theorem dX12_goTwo_34 : decode cX12_goTwo 34 = .ok (.iconst (-1), 1) := by decide +kernel
theorem dX12_goTwo_35 : decode cX12_goTwo 35 = .ok (.if_icmp .eq 12, 3) := by decide +kernel
theorem dX12_goTwo_38 : decode cX12_goTwo 38 = .ok (.iload 4, 2) := by decide +kernel
theorem dX12_goTwo_40 : decode cX12_goTwo 40 = .ok (.bipush 24, 2) := by decide +kernel
theorem dX12_goTwo_42 : decode cX12_goTwo 42 = .ok (.idiv, 1) := by decide +kernel
theorem dX12_goTwo_43 : decode cX12_goTwo 43 = .ok (.iload_n 2, 1) := by decide +kernel
theorem dX12_goTwo_44 : decode cX12_goTwo 44 = .ok (.if_icmp .ne 6, 3) := by decide +kernel
theorem dX12_goTwo_47 : decode cX12_goTwo 47 = .ok (.bipush (-2), 2) := by decide +kernel
theorem dX12_goTwo_49 : decode cX12_goTwo 49 = .ok (.ireturn, 1) := by decide +kernel
theorem dX12_goTwo_50 : decode cX12_goTwo 50 = .ok (.aload_n 1, 1) := by decide +kernel
theorem dX12_goTwo_51 : decode cX12_goTwo 51 = .ok (.iconst 0, 1) := by decide +kernel
theorem dX12_goTwo_52 : decode cX12_goTwo 52 = .ok (.iaload, 1) := by decide +kernel
theorem dX12_goTwo_53 : decode cX12_goTwo 53 = .ok (.bipush 8, 2) := by decide +kernel
theorem dX12_goTwo_55 : decode cX12_goTwo 55 = .ok (.if_icmp .ne 6, 3) := by decide +kernel
theorem dX12_goTwo_58 : decode cX12_goTwo 58 = .ok (.bipush (-3), 2) := by decide +kernel
theorem dX12_goTwo_60 : decode cX12_goTwo 60 = .ok (.ireturn, 1) := by decide +kernel
theorem dX12_goTwo_61 : decode cX12_goTwo 61 = .ok (.iload 4, 2) := by decide +kernel
theorem dX12_goTwo_63 : decode cX12_goTwo 63 = .ok (.bipush 24, 2) := by decide +kernel
theorem dX12_goTwo_65 : decode cX12_goTwo 65 = .ok (.irem, 1) := by decide +kernel
theorem dX12_goTwo_66 : decode cX12_goTwo 66 = .ok (.istore 5, 2) := by decide +kernel
theorem dX12_goTwo_68 : decode cX12_goTwo 68 = .ok (.iconst 0, 1) := by decide +kernel
theorem dX12_goTwo_69 : decode cX12_goTwo 69 = .ok (.istore 6, 2) := by decide +kernel
theorem dX12_goTwo_71 : decode cX12_goTwo 71 = .ok (.iconst 0, 1) := by decide +kernel
theorem dX12_goTwo_72 : decode cX12_goTwo 72 = .ok (.istore 7, 2) := by decide +kernel
theorem dX12_goTwo_74 : decode cX12_goTwo 74 = .ok (.iload 7, 2) := by decide +kernel
theorem dX12_goTwo_76 : decode cX12_goTwo 76 = .ok (.iconst 4, 1) := by decide +kernel
theorem dX12_goTwo_77 : decode cX12_goTwo 77 = .ok (.if_icmp .ge 60, 3) := by decide +kernel
theorem dX12_goTwo_80 : decode cX12_goTwo 80 = .ok (.aload_n 0, 1) := by decide +kernel
theorem dX12_goTwo_81 : decode cX12_goTwo 81 = .ok (.getfield 81, 3) := by decide +kernel
theorem dX12_goTwo_84 : decode cX12_goTwo 84 = .ok (.iload 7, 2) := by decide +kernel
theorem dX12_goTwo_86 : decode cX12_goTwo 86 = .ok (.iload 7, 2) := by decide +kernel
theorem dX12_goTwo_88 : decode cX12_goTwo 88 = .ok (.iload_n 3, 1) := by decide +kernel
theorem dX12_goTwo_89 : decode cX12_goTwo 89 = .ok (.if_icmp .ne 7, 3) := by decide +kernel
theorem dX12_goTwo_92 : decode cX12_goTwo 92 = .ok (.iconst 3, 1) := by decide +kernel
theorem dX12_goTwo_93 : decode cX12_goTwo 93 = .ok (.goto 8, 3) := by decide +kernel
theorem dX12_goTwo_96 : decode cX12_goTwo 96 = .ok (.iload 6, 2) := by decide +kernel
theorem dX12_goTwo_98 : decode cX12_goTwo 98 = .ok (.iinc 6 1, 3) := by decide +kernel
theorem dX12_goTwo_101 : decode cX12_goTwo 101 = .ok (.iastore, 1) := by decide +kernel
theorem dX12_goTwo_102 : decode cX12_goTwo 102 = .ok (.aload_n 0, 1) := by decide +kernel
theorem dX12_goTwo_103 : decode cX12_goTwo 103 = .ok (.getfield 84, 3) := by decide +kernel
theorem dX12_goTwo_106 : decode cX12_goTwo 106 = .ok (.iload 5, 2) := by decide +kernel
theorem dX12_goTwo_108 : decode cX12_goTwo 108 = .ok (.iload 7, 2) := by decide +kernel
theorem dX12_goTwo_110 : decode cX12_goTwo 110 = .ok (.invokestatic 124, 3) := by decide +kernel
theorem dX12_goTwo_113 : decode cX12_goTwo 113 = .ok (.iload 7, 2) := by decide +kernel
theorem dX12_goTwo_115 : decode cX12_goTwo 115 = .ok (.iload_n 3, 1) := by decide +kernel
theorem dX12_goTwo_116 : decode cX12_goTwo 116 = .ok (.if_icmp .ne 7, 3) := by decide +kernel
theorem dX12_goTwo_119 : decode cX12_goTwo 119 = .ok (.iconst 4, 1) := by decide +kernel
theorem dX12_goTwo_120 : decode cX12_goTwo 120 = .ok (.goto 10, 3) := by decide +kernel
theorem dX12_goTwo_123 : decode cX12_goTwo 123 = .ok (.aload_n 0, 1) := by decide +kernel
theorem dX12_goTwo_124 : decode cX12_goTwo 124 = .ok (.getfield 81, 3) := by decide +kernel
theorem dX12_goTwo_127 : decode cX12_goTwo 127 = .ok (.iload 7, 2) := by decide +kernel
theorem dX12_goTwo_129 : decode cX12_goTwo 129 = .ok (.iaload, 1) := by decide +kernel
theorem dX12_goTwo_130 : decode cX12_goTwo 130 = .ok (.iastore, 1) := by decide +kernel
theorem dX12_goTwo_131 : decode cX12_goTwo 131 = .ok (.iinc 7 1, 3) := by decide +kernel
theorem dX12_goTwo_134 : decode cX12_goTwo 134 = .ok (.goto (-60), 3) := by decide +kernel
theorem dX12_goTwo_137 : decode cX12_goTwo 137 = .ok (.aload_n 0, 1) := by decide +kernel
theorem dX12_goTwo_138 : decode cX12_goTwo 138 = .ok (.invokevirtual 402, 3) := by decide +kernel
theorem dX12_goTwo_141 : decode cX12_goTwo 141 = .ok (.aload_n 0, 1) := by decide +kernel
theorem dX12_goTwo_142 : decode cX12_goTwo 142 = .ok (.iload_n 2, 1) := by decide +kernel
theorem dX12_goTwo_143 : decode cX12_goTwo 143 = .ok (.aload_n 0, 1) := by decide +kernel
theorem dX12_goTwo_144 : decode cX12_goTwo 144 = .ok (.getfield 81, 3) := by decide +kernel
theorem dX12_goTwo_147 : decode cX12_goTwo 147 = .ok (.iconst 0, 1) := by decide +kernel
theorem dX12_goTwo_148 : decode cX12_goTwo 148 = .ok (.iaload, 1) := by decide +kernel
theorem dX12_goTwo_149 : decode cX12_goTwo 149 = .ok (.aload_n 0, 1) := by decide +kernel
theorem dX12_goTwo_150 : decode cX12_goTwo 150 = .ok (.getfield 81, 3) := by decide +kernel
theorem dX12_goTwo_153 : decode cX12_goTwo 153 = .ok (.iconst 1, 1) := by decide +kernel
theorem dX12_goTwo_154 : decode cX12_goTwo 154 = .ok (.iaload, 1) := by decide +kernel
theorem dX12_goTwo_155 : decode cX12_goTwo 155 = .ok (.aload_n 0, 1) := by decide +kernel
theorem dX12_goTwo_156 : decode cX12_goTwo 156 = .ok (.getfield 81, 3) := by decide +kernel
theorem dX12_goTwo_159 : decode cX12_goTwo 159 = .ok (.iconst 2, 1) := by decide +kernel
theorem dX12_goTwo_160 : decode cX12_goTwo 160 = .ok (.iaload, 1) := by decide +kernel
theorem dX12_goTwo_161 : decode cX12_goTwo 161 = .ok (.aload_n 0, 1) := by decide +kernel
theorem dX12_goTwo_162 : decode cX12_goTwo 162 = .ok (.getfield 81, 3) := by decide +kernel
theorem dX12_goTwo_165 : decode cX12_goTwo 165 = .ok (.iconst 3, 1) := by decide +kernel
theorem dX12_goTwo_166 : decode cX12_goTwo 166 = .ok (.iaload, 1) := by decide +kernel
theorem dX12_goTwo_167 : decode cX12_goTwo 167 = .ok (.invokevirtual 405, 3) := by decide +kernel
theorem dX12_goTwo_170 : decode cX12_goTwo 170 = .ok (.aload_n 0, 1) := by decide +kernel
theorem dX12_goTwo_171 : decode cX12_goTwo 171 = .ok (.iload 4, 2) := by decide +kernel
theorem dX12_goTwo_173 : decode cX12_goTwo 173 = .ok (.bipush 24, 2) := by decide +kernel
theorem dX12_goTwo_175 : decode cX12_goTwo 175 = .ok (.idiv, 1) := by decide +kernel
theorem dX12_goTwo_176 : decode cX12_goTwo 176 = .ok (.aload_n 0, 1) := by decide +kernel
theorem dX12_goTwo_177 : decode cX12_goTwo 177 = .ok (.getfield 84, 3) := by decide +kernel
theorem dX12_goTwo_180 : decode cX12_goTwo 180 = .ok (.iconst 0, 1) := by decide +kernel
theorem dX12_goTwo_181 : decode cX12_goTwo 181 = .ok (.iaload, 1) := by decide +kernel
theorem dX12_goTwo_182 : decode cX12_goTwo 182 = .ok (.aload_n 0, 1) := by decide +kernel
theorem dX12_goTwo_183 : decode cX12_goTwo 183 = .ok (.getfield 84, 3) := by decide +kernel
theorem dX12_goTwo_186 : decode cX12_goTwo 186 = .ok (.iconst 1, 1) := by decide +kernel
theorem dX12_goTwo_187 : decode cX12_goTwo 187 = .ok (.iaload, 1) := by decide +kernel
theorem dX12_goTwo_188 : decode cX12_goTwo 188 = .ok (.aload_n 0, 1) := by decide +kernel
theorem dX12_goTwo_189 : decode cX12_goTwo 189 = .ok (.getfield 84, 3) := by decide +kernel
theorem dX12_goTwo_192 : decode cX12_goTwo 192 = .ok (.iconst 2, 1) := by decide +kernel
theorem dX12_goTwo_193 : decode cX12_goTwo 193 = .ok (.iaload, 1) := by decide +kernel
theorem dX12_goTwo_194 : decode cX12_goTwo 194 = .ok (.aload_n 0, 1) := by decide +kernel
theorem dX12_goTwo_195 : decode cX12_goTwo 195 = .ok (.getfield 84, 3) := by decide +kernel
theorem dX12_goTwo_198 : decode cX12_goTwo 198 = .ok (.iconst 3, 1) := by decide +kernel
theorem dX12_goTwo_199 : decode cX12_goTwo 199 = .ok (.iaload, 1) := by decide +kernel
theorem dX12_goTwo_200 : decode cX12_goTwo 200 = .ok (.invokevirtual 405, 3) := by decide +kernel
theorem dX12_goTwo_203 : decode cX12_goTwo 203 = .ok (.aload_n 0, 1) := by decide +kernel
theorem dX12_goTwo_204 : decode cX12_goTwo 204 = .ok (.iconst 3, 1) := by decide +kernel
theorem dX12_goTwo_205 : decode cX12_goTwo 205 = .ok (.iconst 4, 1) := by decide +kernel
theorem dX12_goTwo_206 : decode cX12_goTwo 206 = .ok (.iconst 0, 1) := by decide +kernel
theorem dX12_goTwo_207 : decode cX12_goTwo 207 = .ok (.iconst 1, 1) := by decide +kernel
theorem dX12_goTwo_208 : decode cX12_goTwo 208 = .ok (.invokevirtual 409, 3) := by decide +kernel
theorem dX12_goTwo_211 : decode cX12_goTwo 211 = .ok (.aload_n 0, 1) := by decide +kernel
theorem dX12_goTwo_212 : decode cX12_goTwo 212 = .ok (.iconst 3, 1) := by decide +kernel
theorem dX12_goTwo_213 : decode cX12_goTwo 213 = .ok (.iconst 4, 1) := by decide +kernel
theorem dX12_goTwo_214 : decode cX12_goTwo 214 = .ok (.iconst 1, 1) := by decide +kernel
theorem dX12_goTwo_215 : decode cX12_goTwo 215 = .ok (.iconst 2, 1) := by decide +kernel
theorem dX12_goTwo_216 : decode cX12_goTwo 216 = .ok (.invokevirtual 409, 3) := by decide +kernel
theorem dX12_goTwo_219 : decode cX12_goTwo 219 = .ok (.aload_n 0, 1) := by decide +kernel
theorem dX12_goTwo_220 : decode cX12_goTwo 220 = .ok (.iconst 3, 1) := by decide +kernel
theorem dX12_goTwo_221 : decode cX12_goTwo 221 = .ok (.iconst 4, 1) := by decide +kernel
theorem dX12_goTwo_222 : decode cX12_goTwo 222 = .ok (.iconst 2, 1) := by decide +kernel
theorem dX12_goTwo_223 : decode cX12_goTwo 223 = .ok (.iconst 0, 1) := by decide +kernel
theorem dX12_goTwo_224 : decode cX12_goTwo 224 = .ok (.invokevirtual 409, 3) := by decide +kernel
theorem dX12_goTwo_227 : decode cX12_goTwo 227 = .ok (.aload_n 0, 1) := by decide +kernel
theorem dX12_goTwo_228 : decode cX12_goTwo 228 = .ok (.aload_n 1, 1) := by decide +kernel
theorem dX12_goTwo_229 : decode cX12_goTwo 229 = .ok (.invokevirtual 413, 3) := by decide +kernel
theorem dX12_goTwo_232 : decode cX12_goTwo 232 = .ok (.iconst 0, 1) := by decide +kernel
theorem dX12_goTwo_233 : decode cX12_goTwo 233 = .ok (.ireturn, 1) := by decide +kernel
theorem dX12_goThree_0 : decode cX12_goThree 0 = .ok (.iload_n 2, 1) := by decide +kernel
theorem dX12_goThree_1 : decode cX12_goThree 1 = .ok (.iconst 0, 1) := by decide +kernel
theorem dX12_goThree_2 : decode cX12_goThree 2 = .ok (.aload_n 1, 1) := by decide +kernel
theorem dX12_goThree_3 : decode cX12_goThree 3 = .ok (.iconst 0, 1) := by decide +kernel
theorem dX12_goThree_4 : decode cX12_goThree 4 = .ok (.iaload, 1) := by decide +kernel
theorem dX12_goThree_5 : decode cX12_goThree 5 = .ok (.iconst 1, 1) := by decide +kernel
theorem dX12_goThree_6 : decode cX12_goThree 6 = .ok (.isub, 1) := by decide +kernel
theorem dX12_goThree_7 : decode cX12_goThree 7 = .ok (.invokestatic 179, 3) := by decide +kernel
theorem dX12_goThree_10 : decode cX12_goThree 10 = .ok (.ifCond .eq 12, 3) := by decide +kernel
theorem dX12_goThree_13 : decode cX12_goThree 13 = .ok (.iload_n 3, 1) := by decide +kernel
theorem dX12_goThree_14 : decode cX12_goThree 14 = .ok (.iload 4, 2) := by decide +kernel
theorem dX12_goThree_16 : decode cX12_goThree 16 = .ok (.invokestatic 265, 3) := by decide +kernel
theorem dX12_goThree_19 : decode cX12_goThree 19 = .ok (.ifCond .ne 5, 3) := by decide +kernel
theorem dX12_goThree_22 : decode cX12_goThree 22 = .ok (.iconst (-1), 1) := by decide +kernel
theorem dX12_goThree_23 : decode cX12_goThree 23 = .ok (.ireturn, 1) := by decide +kernel
theorem dX12_goThree_24 : decode cX12_goThree 24 = .ok (.aload_n 0, 1) := by decide +kernel
theorem dX12_goThree_25 : decode cX12_goThree 25 = .ok (.aload_n 1, 1) := by decide +kernel
theorem dX12_goThree_26 : decode cX12_goThree 26 = .ok (.invokevirtual 269, 3) := by decide +kernel
theorem dX12_goThree_29 : decode cX12_goThree 29 = .ok (.aload_n 0, 1) := by decide +kernel
theorem dX12_goThree_30 : decode cX12_goThree 30 = .ok (.iload_n 2, 1) := by decide +kernel
theorem dX12_goThree_31 : decode cX12_goThree 31 = .ok (.iload_n 3, 1) := by decide +kernel
theorem dX12_goThree_32 : decode cX12_goThree 32 = .ok (.iload 4, 2) := by decide +kernel
theorem dX12_goThree_34 : decode cX12_goThree 34 = .ok (.invokevirtual 258, 3) := by decide +kernel
theorem dX12_goThree_37 : decode cX12_goThree 37 = .ok (.istore 5, 2) := by decide +kernel
theorem dX12_goThree_39 : decode cX12_goThree 39 = .ok (.aload_n 0, 1) := by decide +kernel
theorem dX12_goThree_40 : decode cX12_goThree 40 = .ok (.aload_n 1, 1) := by decide +kernel
theorem dX12_goThree_41 : decode cX12_goThree 41 = .ok (.iload 5, 2) := by decide +kernel
theorem dX12_goThree_43 : decode cX12_goThree 43 = .ok (.invokevirtual 272, 3) := by decide +kernel
theorem dX12_goThree_46 : decode cX12_goThree 46 = .ok (.ifCond .ne 25, 3) := by decide +kernel
theorem dX12_goThree_49 : decode cX12_goThree 49 = .ok (.aload_n 0, 1) := by decide +kernel
theorem dX12_goThree_50 : decode cX12_goThree 50 = .ok (.iload_n 2, 1) := by decide +kernel
theorem dX12_goThree_51 : decode cX12_goThree 51 = .ok (.iload_n 3, 1) := by decide +kernel
theorem dX12_goThree_52 : decode cX12_goThree 52 = .ok (.iload 4, 2) := by decide +kernel
theorem dX12_goThree_54 : decode cX12_goThree 54 = .ok (.invokevirtual 276, 3) := by decide +kernel
theorem dX12_goThree_57 : decode cX12_goThree 57 = .ok (.ifCond .ne 14, 3) := by decide +kernel
theorem dX12_goThree_60 : decode cX12_goThree 60 = .ok (.aload_n 0, 1) := by decide +kernel
theorem dX12_goThree_61 : decode cX12_goThree 61 = .ok (.aload_n 1, 1) := by decide +kernel
theorem dX12_goThree_62 : decode cX12_goThree 62 = .ok (.iload 5, 2) := by decide +kernel
theorem dX12_goThree_64 : decode cX12_goThree 64 = .ok (.invokevirtual 279, 3) := by decide +kernel
theorem dX12_goThree_67 : decode cX12_goThree 67 = .ok (.iconst 3, 1) := by decide +kernel
theorem dX12_goThree_68 : decode cX12_goThree 68 = .ok (.if_icmp .eq 6, 3) := by decide +kernel
theorem dX12_goThree_71 : decode cX12_goThree 71 = .ok (.bipush (-2), 2) := by decide +kernel
theorem dX12_goThree_73 : decode cX12_goThree 73 = .ok (.ireturn, 1) := by decide +kernel
theorem dX12_goThree_74 : decode cX12_goThree 74 = .ok (.aload_n 0, 1) := by decide +kernel
theorem dX12_goThree_75 : decode cX12_goThree 75 = .ok (.invokevirtual 402, 3) := by decide +kernel
theorem dX12_goThree_78 : decode cX12_goThree 78 = .ok (.iload_n 2, 1) := by decide +kernel
theorem dX12_goThree_79 : decode cX12_goThree 79 = .ok (.istore 6, 2) := by decide +kernel
theorem dX12_goThree_81 : decode cX12_goThree 81 = .ok (.iload_n 3, 1) := by decide +kernel
theorem dX12_goThree_82 : decode cX12_goThree 82 = .ok (.istore 7, 2) := by decide +kernel
theorem dX12_goThree_84 : decode cX12_goThree 84 = .ok (.iload 4, 2) := by decide +kernel
theorem dX12_goThree_86 : decode cX12_goThree 86 = .ok (.istore 8, 2) := by decide +kernel
theorem dX12_goThree_88 : decode cX12_goThree 88 = .ok (.iconst 0, 1) := by decide +kernel
theorem dX12_goThree_89 : decode cX12_goThree 89 = .ok (.istore 9, 2) := by decide +kernel
theorem dX12_goThree_91 : decode cX12_goThree 91 = .ok (.iload 9, 2) := by decide +kernel
theorem dX12_goThree_93 : decode cX12_goThree 93 = .ok (.iload 7, 2) := by decide +kernel
theorem dX12_goThree_95 : decode cX12_goThree 95 = .ok (.if_icmp .eq 10, 3) := by decide +kernel
theorem dX12_goThree_98 : decode cX12_goThree 98 = .ok (.iload 9, 2) := by decide +kernel
theorem dX12_goThree_100 : decode cX12_goThree 100 = .ok (.iload 8, 2) := by decide +kernel
theorem dX12_goThree_102 : decode cX12_goThree 102 = .ok (.if_icmp .ne 9, 3) := by decide +kernel
theorem dX12_goThree_105 : decode cX12_goThree 105 = .ok (.iinc 9 1, 3) := by decide +kernel
theorem dX12_goThree_108 : decode cX12_goThree 108 = .ok (.goto (-17), 3) := by decide +kernel
theorem dX12_goThree_111 : decode cX12_goThree 111 = .ok (.iconst 0, 1) := by decide +kernel
theorem dX12_goThree_112 : decode cX12_goThree 112 = .ok (.istore 10, 2) := by decide +kernel
theorem dX12_goThree_114 : decode cX12_goThree 114 = .ok (.iload 10, 2) := by decide +kernel
theorem dX12_goThree_116 : decode cX12_goThree 116 = .ok (.iconst 3, 1) := by decide +kernel
theorem dX12_goThree_117 : decode cX12_goThree 117 = .ok (.if_icmp .ge 163, 3) := by decide +kernel
theorem dX12_goThree_120 : decode cX12_goThree 120 = .ok (.aload_n 0, 1) := by decide +kernel
theorem dX12_goThree_121 : decode cX12_goThree 121 = .ok (.iload 6, 2) := by decide +kernel
theorem dX12_goThree_123 : decode cX12_goThree 123 = .ok (.invokevirtual 387, 3) := by decide +kernel
theorem dX12_goThree_126 : decode cX12_goThree 126 = .ok (.iconst (-1), 1) := by decide +kernel
theorem dX12_goThree_127 : decode cX12_goThree 127 = .ok (.if_icmp .eq 6, 3) := by decide +kernel
theorem dX12_goThree_130 : decode cX12_goThree 130 = .ok (.bipush (-2), 2) := by decide +kernel
theorem dX12_goThree_132 : decode cX12_goThree 132 = .ok (.ireturn, 1) := by decide +kernel
theorem dX12_goThree_133 : decode cX12_goThree 133 = .ok (.aload_n 0, 1) := by decide +kernel
theorem dX12_goThree_134 : decode cX12_goThree 134 = .ok (.getfield 81, 3) := by decide +kernel
theorem dX12_goThree_137 : decode cX12_goThree 137 = .ok (.iload 7, 2) := by decide +kernel
theorem dX12_goThree_139 : decode cX12_goThree 139 = .ok (.iconst 3, 1) := by decide +kernel
theorem dX12_goThree_140 : decode cX12_goThree 140 = .ok (.iastore, 1) := by decide +kernel
theorem dX12_goThree_141 : decode cX12_goThree 141 = .ok (.aload_n 0, 1) := by decide +kernel
theorem dX12_goThree_142 : decode cX12_goThree 142 = .ok (.getfield 81, 3) := by decide +kernel
theorem dX12_goThree_145 : decode cX12_goThree 145 = .ok (.iload 8, 2) := by decide +kernel
theorem dX12_goThree_147 : decode cX12_goThree 147 = .ok (.iconst 4, 1) := by decide +kernel
theorem dX12_goThree_148 : decode cX12_goThree 148 = .ok (.iastore, 1) := by decide +kernel
theorem dX12_goThree_149 : decode cX12_goThree 149 = .ok (.aload_n 0, 1) := by decide +kernel
theorem dX12_goThree_150 : decode cX12_goThree 150 = .ok (.getfield 81, 3) := by decide +kernel
theorem dX12_goThree_153 : decode cX12_goThree 153 = .ok (.iload 9, 2) := by decide +kernel
theorem dX12_goThree_155 : decode cX12_goThree 155 = .ok (.iload 10, 2) := by decide +kernel
theorem dX12_goThree_157 : decode cX12_goThree 157 = .ok (.iastore, 1) := by decide +kernel
theorem dX12_goThree_158 : decode cX12_goThree 158 = .ok (.aload_n 0, 1) := by decide +kernel
theorem dX12_goThree_159 : decode cX12_goThree 159 = .ok (.getfield 81, 3) := by decide +kernel
theorem dX12_goThree_162 : decode cX12_goThree 162 = .ok (.bipush 6, 2) := by decide +kernel
theorem dX12_goThree_164 : decode cX12_goThree 164 = .ok (.iload 7, 2) := by decide +kernel
theorem dX12_goThree_166 : decode cX12_goThree 166 = .ok (.isub, 1) := by decide +kernel
theorem dX12_goThree_167 : decode cX12_goThree 167 = .ok (.iload 8, 2) := by decide +kernel
theorem dX12_goThree_169 : decode cX12_goThree 169 = .ok (.isub, 1) := by decide +kernel
theorem dX12_goThree_170 : decode cX12_goThree 170 = .ok (.iload 9, 2) := by decide +kernel
theorem dX12_goThree_172 : decode cX12_goThree 172 = .ok (.isub, 1) := by decide +kernel
theorem dX12_goThree_173 : decode cX12_goThree 173 = .ok (.iload 10, 2) := by decide +kernel
theorem dX12_goThree_175 : decode cX12_goThree 175 = .ok (.iconst 1, 1) := by decide +kernel
theorem dX12_goThree_176 : decode cX12_goThree 176 = .ok (.iadd, 1) := by decide +kernel
theorem dX12_goThree_177 : decode cX12_goThree 177 = .ok (.iconst 3, 1) := by decide +kernel
theorem dX12_goThree_178 : decode cX12_goThree 178 = .ok (.irem, 1) := by decide +kernel
theorem dX12_goThree_179 : decode cX12_goThree 179 = .ok (.iastore, 1) := by decide +kernel
theorem dX12_goThree_180 : decode cX12_goThree 180 = .ok (.aload_n 0, 1) := by decide +kernel
theorem dX12_goThree_181 : decode cX12_goThree 181 = .ok (.iload 6, 2) := by decide +kernel
theorem dX12_goThree_183 : decode cX12_goThree 183 = .ok (.aload_n 0, 1) := by decide +kernel
theorem dX12_goThree_184 : decode cX12_goThree 184 = .ok (.getfield 81, 3) := by decide +kernel
theorem dX12_goThree_187 : decode cX12_goThree 187 = .ok (.iconst 0, 1) := by decide +kernel
theorem dX12_goThree_188 : decode cX12_goThree 188 = .ok (.iaload, 1) := by decide +kernel
theorem dX12_goThree_189 : decode cX12_goThree 189 = .ok (.aload_n 0, 1) := by decide +kernel
theorem dX12_goThree_190 : decode cX12_goThree 190 = .ok (.getfield 81, 3) := by decide +kernel
theorem dX12_goThree_193 : decode cX12_goThree 193 = .ok (.iconst 1, 1) := by decide +kernel
theorem dX12_goThree_194 : decode cX12_goThree 194 = .ok (.iaload, 1) := by decide +kernel
theorem dX12_goThree_195 : decode cX12_goThree 195 = .ok (.aload_n 0, 1) := by decide +kernel
theorem dX12_goThree_196 : decode cX12_goThree 196 = .ok (.getfield 81, 3) := by decide +kernel
theorem dX12_goThree_199 : decode cX12_goThree 199 = .ok (.iconst 2, 1) := by decide +kernel
theorem dX12_goThree_200 : decode cX12_goThree 200 = .ok (.iaload, 1) := by decide +kernel
theorem dX12_goThree_201 : decode cX12_goThree 201 = .ok (.aload_n 0, 1) := by decide +kernel
theorem dX12_goThree_202 : decode cX12_goThree 202 = .ok (.getfield 81, 3) := by decide +kernel
theorem dX12_goThree_205 : decode cX12_goThree 205 = .ok (.iconst 3, 1) := by decide +kernel
theorem dX12_goThree_206 : decode cX12_goThree 206 = .ok (.iaload, 1) := by decide +kernel
theorem dX12_goThree_207 : decode cX12_goThree 207 = .ok (.invokevirtual 405, 3) := by decide +kernel
theorem dX12_goThree_210 : decode cX12_goThree 210 = .ok (.aload_n 1, 1) := by decide +kernel
theorem dX12_goThree_211 : decode cX12_goThree 211 = .ok (.iload 6, 2) := by decide +kernel
theorem dX12_goThree_213 : decode cX12_goThree 213 = .ok (.iload 9, 2) := by decide +kernel
theorem dX12_goThree_215 : decode cX12_goThree 215 = .ok (.invokestatic 150, 3) := by decide +kernel
theorem dX12_goThree_218 : decode cX12_goThree 218 = .ok (.istore 11, 2) := by decide +kernel
theorem dX12_goThree_220 : decode cX12_goThree 220 = .ok (.iload 11, 2) := by decide +kernel
theorem dX12_goThree_222 : decode cX12_goThree 222 = .ok (.bipush 24, 2) := by decide +kernel
theorem dX12_goThree_224 : decode cX12_goThree 224 = .ok (.irem, 1) := by decide +kernel
theorem dX12_goThree_225 : decode cX12_goThree 225 = .ok (.istore 12, 2) := by decide +kernel
theorem dX12_goThree_227 : decode cX12_goThree 227 = .ok (.iload 12, 2) := by decide +kernel
theorem dX12_goThree_229 : decode cX12_goThree 229 = .ok (.iload 9, 2) := by decide +kernel
theorem dX12_goThree_231 : decode cX12_goThree 231 = .ok (.invokestatic 124, 3) := by decide +kernel
theorem dX12_goThree_234 : decode cX12_goThree 234 = .ok (.istore 13, 2) := by decide +kernel
theorem dX12_goThree_236 : decode cX12_goThree 236 = .ok (.iload 11, 2) := by decide +kernel
theorem dX12_goThree_238 : decode cX12_goThree 238 = .ok (.bipush 24, 2) := by decide +kernel
theorem dX12_goThree_240 : decode cX12_goThree 240 = .ok (.idiv, 1) := by decide +kernel
theorem dX12_goThree_241 : decode cX12_goThree 241 = .ok (.istore 6, 2) := by decide +kernel
theorem dX12_goThree_243 : decode cX12_goThree 243 = .ok (.iload 12, 2) := by decide +kernel
theorem dX12_goThree_245 : decode cX12_goThree 245 = .ok (.iload 7, 2) := by decide +kernel
theorem dX12_goThree_247 : decode cX12_goThree 247 = .ok (.invokestatic 124, 3) := by decide +kernel
theorem dX12_goThree_250 : decode cX12_goThree 250 = .ok (.istore 7, 2) := by decide +kernel
theorem dX12_goThree_252 : decode cX12_goThree 252 = .ok (.iload 12, 2) := by decide +kernel
theorem dX12_goThree_254 : decode cX12_goThree 254 = .ok (.iload 8, 2) := by decide +kernel
theorem dX12_goThree_256 : decode cX12_goThree 256 = .ok (.invokestatic 124, 3) := by decide +kernel
theorem dX12_goThree_259 : decode cX12_goThree 259 = .ok (.istore 8, 2) := by decide +kernel
theorem dX12_goThree_261 : decode cX12_goThree 261 = .ok (.bipush 6, 2) := by decide +kernel
theorem dX12_goThree_263 : decode cX12_goThree 263 = .ok (.iload 7, 2) := by decide +kernel
theorem dX12_goThree_265 : decode cX12_goThree 265 = .ok (.isub, 1) := by decide +kernel
theorem dX12_goThree_266 : decode cX12_goThree 266 = .ok (.iload 8, 2) := by decide +kernel
theorem dX12_goThree_268 : decode cX12_goThree 268 = .ok (.isub, 1) := by decide +kernel
theorem dX12_goThree_269 : decode cX12_goThree 269 = .ok (.iload 13, 2) := by decide +kernel
theorem dX12_goThree_271 : decode cX12_goThree 271 = .ok (.isub, 1) := by decide +kernel
theorem dX12_goThree_272 : decode cX12_goThree 272 = .ok (.istore 9, 2) := by decide +kernel
theorem dX12_goThree_274 : decode cX12_goThree 274 = .ok (.iinc 10 1, 3) := by decide +kernel
theorem dX12_goThree_277 : decode cX12_goThree 277 = .ok (.goto (-163), 3) := by decide +kernel
theorem dX12_goThree_280 : decode cX12_goThree 280 = .ok (.aload_n 0, 1) := by decide +kernel
theorem dX12_goThree_281 : decode cX12_goThree 281 = .ok (.iconst 3, 1) := by decide +kernel
theorem dX12_goThree_282 : decode cX12_goThree 282 = .ok (.iconst 0, 1) := by decide +kernel
theorem dX12_goThree_283 : decode cX12_goThree 283 = .ok (.iconst 1, 1) := by decide +kernel
theorem dX12_goThree_284 : decode cX12_goThree 284 = .ok (.iconst 2, 1) := by decide +kernel
theorem dX12_goThree_285 : decode cX12_goThree 285 = .ok (.invokevirtual 409, 3) := by decide +kernel
theorem dX12_goThree_288 : decode cX12_goThree 288 = .ok (.aload_n 0, 1) := by decide +kernel
theorem dX12_goThree_289 : decode cX12_goThree 289 = .ok (.iconst 4, 1) := by decide +kernel
theorem dX12_goThree_290 : decode cX12_goThree 290 = .ok (.iconst 0, 1) := by decide +kernel
theorem dX12_goThree_291 : decode cX12_goThree 291 = .ok (.iconst 1, 1) := by decide +kernel
theorem dX12_goThree_292 : decode cX12_goThree 292 = .ok (.iconst 2, 1) := by decide +kernel
theorem dX12_goThree_293 : decode cX12_goThree 293 = .ok (.invokevirtual 409, 3) := by decide +kernel
theorem dX12_goThree_296 : decode cX12_goThree 296 = .ok (.aload_n 0, 1) := by decide +kernel
theorem dX12_goThree_297 : decode cX12_goThree 297 = .ok (.aload_n 1, 1) := by decide +kernel
theorem dX12_goThree_298 : decode cX12_goThree 298 = .ok (.invokevirtual 413, 3) := by decide +kernel
theorem dX12_goThree_301 : decode cX12_goThree 301 = .ok (.iconst 0, 1) := by decide +kernel
theorem dX12_goThree_302 : decode cX12_goThree 302 = .ok (.ireturn, 1) := by decide +kernel
theorem dX12_goOne_0 : decode cX12_goOne 0 = .ok (.iload_n 2, 1) := by decide +kernel
theorem dX12_goOne_1 : decode cX12_goOne 1 = .ok (.iconst 0, 1) := by decide +kernel
theorem dX12_goOne_2 : decode cX12_goOne 2 = .ok (.aload_n 1, 1) := by decide +kernel
theorem dX12_goOne_3 : decode cX12_goOne 3 = .ok (.iconst 0, 1) := by decide +kernel
theorem dX12_goOne_4 : decode cX12_goOne 4 = .ok (.iaload, 1) := by decide +kernel
theorem dX12_goOne_5 : decode cX12_goOne 5 = .ok (.iconst 1, 1) := by decide +kernel
theorem dX12_goOne_6 : decode cX12_goOne 6 = .ok (.isub, 1) := by decide +kernel
theorem dX12_goOne_7 : decode cX12_goOne 7 = .ok (.invokestatic 179, 3) := by decide +kernel
theorem dX12_goOne_10 : decode cX12_goOne 10 = .ok (.ifCond .ne 5, 3) := by decide +kernel
theorem dX12_goOne_13 : decode cX12_goOne 13 = .ok (.iconst (-1), 1) := by decide +kernel
theorem dX12_goOne_14 : decode cX12_goOne 14 = .ok (.ireturn, 1) := by decide +kernel
theorem dX12_goOne_15 : decode cX12_goOne 15 = .ok (.aload_n 1, 1) := by decide +kernel
theorem dX12_goOne_16 : decode cX12_goOne 16 = .ok (.iconst 0, 1) := by decide +kernel
theorem dX12_goOne_17 : decode cX12_goOne 17 = .ok (.iaload, 1) := by decide +kernel
theorem dX12_goOne_18 : decode cX12_goOne 18 = .ok (.iconst 3, 1) := by decide +kernel
theorem dX12_goOne_19 : decode cX12_goOne 19 = .ok (.iadd, 1) := by decide +kernel
theorem dX12_goOne_20 : decode cX12_goOne 20 = .ok (.bipush 8, 2) := by decide +kernel
theorem dX12_goOne_22 : decode cX12_goOne 22 = .ok (.if_icmp .le 6, 3) := by decide +kernel
theorem dX12_goOne_25 : decode cX12_goOne 25 = .ok (.bipush (-3), 2) := by decide +kernel
theorem dX12_goOne_27 : decode cX12_goOne 27 = .ok (.ireturn, 1) := by decide +kernel
theorem dX12_goOne_28 : decode cX12_goOne 28 = .ok (.aload_n 0, 1) := by decide +kernel
theorem dX12_goOne_29 : decode cX12_goOne 29 = .ok (.invokevirtual 402, 3) := by decide +kernel
theorem dX12_goOne_32 : decode cX12_goOne 32 = .ok (.aload_n 0, 1) := by decide +kernel
theorem dX12_goOne_33 : decode cX12_goOne 33 = .ok (.iload_n 2, 1) := by decide +kernel
theorem dX12_goOne_34 : decode cX12_goOne 34 = .ok (.iconst 0, 1) := by decide +kernel
theorem dX12_goOne_35 : decode cX12_goOne 35 = .ok (.iconst 1, 1) := by decide +kernel
theorem dX12_goOne_36 : decode cX12_goOne 36 = .ok (.iconst 2, 1) := by decide +kernel
theorem dX12_goOne_37 : decode cX12_goOne 37 = .ok (.iconst 3, 1) := by decide +kernel
theorem dX12_goOne_38 : decode cX12_goOne 38 = .ok (.invokevirtual 405, 3) := by decide +kernel
theorem dX12_goOne_41 : decode cX12_goOne 41 = .ok (.aload_n 0, 1) := by decide +kernel
theorem dX12_goOne_42 : decode cX12_goOne 42 = .ok (.iconst 4, 1) := by decide +kernel
theorem dX12_goOne_43 : decode cX12_goOne 43 = .ok (.iconst 1, 1) := by decide +kernel
theorem dX12_goOne_44 : decode cX12_goOne 44 = .ok (.iconst 2, 1) := by decide +kernel
theorem dX12_goOne_45 : decode cX12_goOne 45 = .ok (.iconst 3, 1) := by decide +kernel
theorem dX12_goOne_46 : decode cX12_goOne 46 = .ok (.invokevirtual 409, 3) := by decide +kernel
theorem dX12_goOne_49 : decode cX12_goOne 49 = .ok (.aload_n 0, 1) := by decide +kernel
theorem dX12_goOne_50 : decode cX12_goOne 50 = .ok (.iconst 4, 1) := by decide +kernel
theorem dX12_goOne_51 : decode cX12_goOne 51 = .ok (.iconst 0, 1) := by decide +kernel
theorem dX12_goOne_52 : decode cX12_goOne 52 = .ok (.iconst 2, 1) := by decide +kernel
theorem dX12_goOne_53 : decode cX12_goOne 53 = .ok (.iconst 3, 1) := by decide +kernel
theorem dX12_goOne_54 : decode cX12_goOne 54 = .ok (.invokevirtual 409, 3) := by decide +kernel
theorem dX12_goOne_57 : decode cX12_goOne 57 = .ok (.aload_n 0, 1) := by decide +kernel
theorem dX12_goOne_58 : decode cX12_goOne 58 = .ok (.iconst 4, 1) := by decide +kernel
theorem dX12_goOne_59 : decode cX12_goOne 59 = .ok (.iconst 0, 1) := by decide +kernel
theorem dX12_goOne_60 : decode cX12_goOne 60 = .ok (.iconst 1, 1) := by decide +kernel
theorem dX12_goOne_61 : decode cX12_goOne 61 = .ok (.iconst 3, 1) := by decide +kernel
theorem dX12_goOne_62 : decode cX12_goOne 62 = .ok (.invokevirtual 409, 3) := by decide +kernel
theorem dX12_goOne_65 : decode cX12_goOne 65 = .ok (.aload_n 0, 1) := by decide +kernel
theorem dX12_goOne_66 : decode cX12_goOne 66 = .ok (.iconst 4, 1) := by decide +kernel
theorem dX12_goOne_67 : decode cX12_goOne 67 = .ok (.iconst 0, 1) := by decide +kernel
theorem dX12_goOne_68 : decode cX12_goOne 68 = .ok (.iconst 1, 1) := by decide +kernel
theorem dX12_goOne_69 : decode cX12_goOne 69 = .ok (.iconst 2, 1) := by decide +kernel
theorem dX12_goOne_70 : decode cX12_goOne 70 = .ok (.invokevirtual 409, 3) := by decide +kernel
theorem dX12_goOne_73 : decode cX12_goOne 73 = .ok (.aload_n 0, 1) := by decide +kernel
theorem dX12_goOne_74 : decode cX12_goOne 74 = .ok (.aload_n 1, 1) := by decide +kernel
theorem dX12_goOne_75 : decode cX12_goOne 75 = .ok (.invokevirtual 413, 3) := by decide +kernel
theorem dX12_goOne_78 : decode cX12_goOne 78 = .ok (.iconst 0, 1) := by decide +kernel
theorem dX12_goOne_79 : decode cX12_goOne 79 = .ok (.ireturn, 1) := by decide +kernel
theorem dX12_gluedAt_0 : decode cX12_gluedAt 0 = .ok (.iconst 0, 1) := by decide +kernel
theorem dX12_gluedAt_1 : decode cX12_gluedAt 1 = .ok (.istore 5, 2) := by decide +kernel
theorem dX12_gluedAt_3 : decode cX12_gluedAt 3 = .ok (.iconst 0, 1) := by decide +kernel
theorem dX12_gluedAt_4 : decode cX12_gluedAt 4 = .ok (.istore 6, 2) := by decide +kernel
theorem dX12_gluedAt_6 : decode cX12_gluedAt 6 = .ok (.iload 6, 2) := by decide +kernel
theorem dX12_gluedAt_8 : decode cX12_gluedAt 8 = .ok (.iconst 4, 1) := by decide +kernel
theorem dX12_gluedAt_9 : decode cX12_gluedAt 9 = .ok (.if_icmp .ge 84, 3) := by decide +kernel
theorem dX12_gluedAt_12 : decode cX12_gluedAt 12 = .ok (.aload_n 1, 1) := by decide +kernel
theorem dX12_gluedAt_13 : decode cX12_gluedAt 13 = .ok (.iload_n 2, 1) := by decide +kernel
theorem dX12_gluedAt_14 : decode cX12_gluedAt 14 = .ok (.iload 6, 2) := by decide +kernel
theorem dX12_gluedAt_16 : decode cX12_gluedAt 16 = .ok (.invokestatic 150, 3) := by decide +kernel
theorem dX12_gluedAt_19 : decode cX12_gluedAt 19 = .ok (.istore 7, 2) := by decide +kernel
theorem dX12_gluedAt_21 : decode cX12_gluedAt 21 = .ok (.iload 7, 2) := by decide +kernel
theorem dX12_gluedAt_23 : decode cX12_gluedAt 23 = .ok (.iconst (-1), 1) := by decide +kernel
theorem dX12_gluedAt_24 : decode cX12_gluedAt 24 = .ok (.if_icmp .eq 63, 3) := by decide +kernel
theorem dX12_gluedAt_27 : decode cX12_gluedAt 27 = .ok (.iload 7, 2) := by decide +kernel
theorem dX12_gluedAt_29 : decode cX12_gluedAt 29 = .ok (.bipush 24, 2) := by decide +kernel
theorem dX12_gluedAt_31 : decode cX12_gluedAt 31 = .ok (.idiv, 1) := by decide +kernel
theorem dX12_gluedAt_32 : decode cX12_gluedAt 32 = .ok (.iload_n 3, 1) := by decide +kernel
theorem dX12_gluedAt_33 : decode cX12_gluedAt 33 = .ok (.if_icmp .eq 6, 3) := by decide +kernel
theorem dX12_gluedAt_36 : decode cX12_gluedAt 36 = .ok (.goto 51, 3) := by decide +kernel
theorem dX12_gluedAt_39 : decode cX12_gluedAt 39 = .ok (.iconst 0, 1) := by decide +kernel
theorem dX12_gluedAt_40 : decode cX12_gluedAt 40 = .ok (.istore 8, 2) := by decide +kernel
theorem dX12_gluedAt_42 : decode cX12_gluedAt 42 = .ok (.iload 8, 2) := by decide +kernel
theorem dX12_gluedAt_44 : decode cX12_gluedAt 44 = .ok (.iconst 4, 1) := by decide +kernel
theorem dX12_gluedAt_45 : decode cX12_gluedAt 45 = .ok (.if_icmp .ge 42, 3) := by decide +kernel
theorem dX12_gluedAt_48 : decode cX12_gluedAt 48 = .ok (.iload 5, 2) := by decide +kernel
theorem dX12_gluedAt_50 : decode cX12_gluedAt 50 = .ok (.iload 8, 2) := by decide +kernel
theorem dX12_gluedAt_52 : decode cX12_gluedAt 52 = .ok (.iload 6, 2) := by decide +kernel
theorem dX12_gluedAt_54 : decode cX12_gluedAt 54 = .ok (.if_icmp .eq 23, 3) := by decide +kernel
theorem dX12_gluedAt_57 : decode cX12_gluedAt 57 = .ok (.aload_n 0, 1) := by decide +kernel
theorem dX12_gluedAt_58 : decode cX12_gluedAt 58 = .ok (.getfield 51, 3) := by decide +kernel
theorem dX12_gluedAt_61 : decode cX12_gluedAt 61 = .ok (.iconst 4, 1) := by decide +kernel
theorem dX12_gluedAt_62 : decode cX12_gluedAt 62 = .ok (.iload_n 2, 1) := by decide +kernel
theorem dX12_gluedAt_63 : decode cX12_gluedAt 63 = .ok (.imul, 1) := by decide +kernel
theorem dX12_gluedAt_64 : decode cX12_gluedAt 64 = .ok (.iload 8, 2) := by decide +kernel
theorem dX12_gluedAt_66 : decode cX12_gluedAt 66 = .ok (.iadd, 1) := by decide +kernel
theorem dX12_gluedAt_67 : decode cX12_gluedAt 67 = .ok (.iaload, 1) := by decide +kernel
theorem dX12_gluedAt_68 : decode cX12_gluedAt 68 = .ok (.iload 4, 2) := by decide +kernel
theorem dX12_gluedAt_70 : decode cX12_gluedAt 70 = .ok (.if_icmp .ne 7, 3) := by decide +kernel
theorem dX12_gluedAt_73 : decode cX12_gluedAt 73 = .ok (.iconst 1, 1) := by decide +kernel
theorem dX12_gluedAt_74 : decode cX12_gluedAt 74 = .ok (.goto 4, 3) := by decide +kernel
theorem dX12_gluedAt_77 : decode cX12_gluedAt 77 = .ok (.iconst 0, 1) := by decide +kernel
theorem dX12_gluedAt_78 : decode cX12_gluedAt 78 = .ok (.iadd, 1) := by decide +kernel
theorem dX12_gluedAt_79 : decode cX12_gluedAt 79 = .ok (.istore 5, 2) := by decide +kernel
theorem dX12_gluedAt_81 : decode cX12_gluedAt 81 = .ok (.iinc 8 1, 3) := by decide +kernel
theorem dX12_gluedAt_84 : decode cX12_gluedAt 84 = .ok (.goto (-42), 3) := by decide +kernel
theorem dX12_gluedAt_87 : decode cX12_gluedAt 87 = .ok (.iinc 6 1, 3) := by decide +kernel
theorem dX12_gluedAt_90 : decode cX12_gluedAt 90 = .ok (.goto (-84), 3) := by decide +kernel
theorem dX12_gluedAt_93 : decode cX12_gluedAt 93 = .ok (.iload 5, 2) := by decide +kernel
theorem dX12_gluedAt_95 : decode cX12_gluedAt 95 = .ok (.ireturn, 1) := by decide +kernel
theorem dX12_goFour_0 : decode cX12_goFour 0 = .ok (.iload_n 2, 1) := by decide +kernel
theorem dX12_goFour_1 : decode cX12_goFour 1 = .ok (.iconst 0, 1) := by decide +kernel
theorem dX12_goFour_2 : decode cX12_goFour 2 = .ok (.aload_n 1, 1) := by decide +kernel
theorem dX12_goFour_3 : decode cX12_goFour 3 = .ok (.iconst 0, 1) := by decide +kernel
theorem dX12_goFour_4 : decode cX12_goFour 4 = .ok (.iaload, 1) := by decide +kernel
theorem dX12_goFour_5 : decode cX12_goFour 5 = .ok (.iconst 1, 1) := by decide +kernel
theorem dX12_goFour_6 : decode cX12_goFour 6 = .ok (.isub, 1) := by decide +kernel
theorem dX12_goFour_7 : decode cX12_goFour 7 = .ok (.invokestatic 179, 3) := by decide +kernel
theorem dX12_goFour_10 : decode cX12_goFour 10 = .ok (.ifCond .eq 12, 3) := by decide +kernel
theorem dX12_goFour_13 : decode cX12_goFour 13 = .ok (.iload_n 3, 1) := by decide +kernel
theorem dX12_goFour_14 : decode cX12_goFour 14 = .ok (.iconst 0, 1) := by decide +kernel
theorem dX12_goFour_15 : decode cX12_goFour 15 = .ok (.iconst 3, 1) := by decide +kernel
theorem dX12_goFour_16 : decode cX12_goFour 16 = .ok (.invokestatic 179, 3) := by decide +kernel
theorem dX12_goFour_19 : decode cX12_goFour 19 = .ok (.ifCond .ne 5, 3) := by decide +kernel
theorem dX12_goFour_22 : decode cX12_goFour 22 = .ok (.iconst (-1), 1) := by decide +kernel
theorem dX12_goFour_23 : decode cX12_goFour 23 = .ok (.ireturn, 1) := by decide +kernel
theorem dX12_goFour_24 : decode cX12_goFour 24 = .ok (.aload_n 0, 1) := by decide +kernel
theorem dX12_goFour_25 : decode cX12_goFour 25 = .ok (.aload_n 1, 1) := by decide +kernel
theorem dX12_goFour_26 : decode cX12_goFour 26 = .ok (.invokevirtual 269, 3) := by decide +kernel
theorem dX12_goFour_29 : decode cX12_goFour 29 = .ok (.aload_n 0, 1) := by decide +kernel
theorem dX12_goFour_30 : decode cX12_goFour 30 = .ok (.getfield 51, 3) := by decide +kernel
theorem dX12_goFour_33 : decode cX12_goFour 33 = .ok (.iconst 4, 1) := by decide +kernel
theorem dX12_goFour_34 : decode cX12_goFour 34 = .ok (.iload_n 2, 1) := by decide +kernel
theorem dX12_goFour_35 : decode cX12_goFour 35 = .ok (.imul, 1) := by decide +kernel
theorem dX12_goFour_36 : decode cX12_goFour 36 = .ok (.iload_n 3, 1) := by decide +kernel
theorem dX12_goFour_37 : decode cX12_goFour 37 = .ok (.iadd, 1) := by decide +kernel
theorem dX12_goFour_38 : decode cX12_goFour 38 = .ok (.iaload, 1) := by decide +kernel
theorem dX12_goFour_39 : decode cX12_goFour 39 = .ok (.istore 4, 2) := by decide +kernel
theorem dX12_goFour_41 : decode cX12_goFour 41 = .ok (.aload_n 0, 1) := by decide +kernel
theorem dX12_goFour_42 : decode cX12_goFour 42 = .ok (.aload_n 1, 1) := by decide +kernel
theorem dX12_goFour_43 : decode cX12_goFour 43 = .ok (.iload 4, 2) := by decide +kernel
theorem dX12_goFour_45 : decode cX12_goFour 45 = .ok (.invokevirtual 297, 3) := by decide +kernel
theorem dX12_goFour_48 : decode cX12_goFour 48 = .ok (.ifCond .eq 14, 3) := by decide +kernel
theorem dX12_goFour_51 : decode cX12_goFour 51 = .ok (.aload_n 0, 1) := by decide +kernel
theorem dX12_goFour_52 : decode cX12_goFour 52 = .ok (.aload_n 1, 1) := by decide +kernel
theorem dX12_goFour_53 : decode cX12_goFour 53 = .ok (.iload 4, 2) := by decide +kernel
theorem dX12_goFour_55 : decode cX12_goFour 55 = .ok (.invokevirtual 288, 3) := by decide +kernel
theorem dX12_goFour_58 : decode cX12_goFour 58 = .ok (.iconst 4, 1) := by decide +kernel
theorem dX12_goFour_59 : decode cX12_goFour 59 = .ok (.if_icmp .eq 6, 3) := by decide +kernel
theorem dX12_goFour_62 : decode cX12_goFour 62 = .ok (.bipush (-2), 2) := by decide +kernel
theorem dX12_goFour_64 : decode cX12_goFour 64 = .ok (.ireturn, 1) := by decide +kernel
theorem dX12_goFour_65 : decode cX12_goFour 65 = .ok (.iconst 0, 1) := by decide +kernel
theorem dX12_goFour_66 : decode cX12_goFour 66 = .ok (.istore 5, 2) := by decide +kernel
theorem dX12_goFour_68 : decode cX12_goFour 68 = .ok (.iconst 0, 1) := by decide +kernel
theorem dX12_goFour_69 : decode cX12_goFour 69 = .ok (.istore 6, 2) := by decide +kernel
theorem dX12_goFour_71 : decode cX12_goFour 71 = .ok (.iload 6, 2) := by decide +kernel
theorem dX12_goFour_73 : decode cX12_goFour 73 = .ok (.iconst 4, 1) := by decide +kernel
theorem dX12_goFour_74 : decode cX12_goFour 74 = .ok (.aload_n 1, 1) := by decide +kernel
theorem dX12_goFour_75 : decode cX12_goFour 75 = .ok (.iconst 0, 1) := by decide +kernel
theorem dX12_goFour_76 : decode cX12_goFour 76 = .ok (.iaload, 1) := by decide +kernel
theorem dX12_goFour_77 : decode cX12_goFour 77 = .ok (.imul, 1) := by decide +kernel
theorem dX12_goFour_78 : decode cX12_goFour 78 = .ok (.if_icmp .ge 36, 3) := by decide +kernel
theorem dX12_goFour_81 : decode cX12_goFour 81 = .ok (.iload 5, 2) := by decide +kernel
theorem dX12_goFour_83 : decode cX12_goFour 83 = .ok (.aload_n 0, 1) := by decide +kernel
theorem dX12_goFour_84 : decode cX12_goFour 84 = .ok (.getfield 51, 3) := by decide +kernel
theorem dX12_goFour_87 : decode cX12_goFour 87 = .ok (.iload 6, 2) := by decide +kernel
theorem dX12_goFour_89 : decode cX12_goFour 89 = .ok (.iaload, 1) := by decide +kernel
theorem dX12_goFour_90 : decode cX12_goFour 90 = .ok (.iload 4, 2) := by decide +kernel
theorem dX12_goFour_92 : decode cX12_goFour 92 = .ok (.if_icmp .ne 12, 3) := by decide +kernel
theorem dX12_goFour_95 : decode cX12_goFour 95 = .ok (.iconst 1, 1) := by decide +kernel
theorem dX12_goFour_96 : decode cX12_goFour 96 = .ok (.iload 6, 2) := by decide +kernel
theorem dX12_goFour_98 : decode cX12_goFour 98 = .ok (.iconst 4, 1) := by decide +kernel
theorem dX12_goFour_99 : decode cX12_goFour 99 = .ok (.idiv, 1) := by decide +kernel
theorem dX12_goFour_100 : decode cX12_goFour 100 = .ok (.ishl, 1) := by decide +kernel
theorem dX12_goFour_101 : decode cX12_goFour 101 = .ok (.goto 4, 3) := by decide +kernel
theorem dX12_goFour_104 : decode cX12_goFour 104 = .ok (.iconst 0, 1) := by decide +kernel
theorem dX12_goFour_105 : decode cX12_goFour 105 = .ok (.ior, 1) := by decide +kernel
theorem dX12_goFour_106 : decode cX12_goFour 106 = .ok (.istore 5, 2) := by decide +kernel
theorem dX12_goFour_108 : decode cX12_goFour 108 = .ok (.iinc 6 1, 3) := by decide +kernel
theorem dX12_goFour_111 : decode cX12_goFour 111 = .ok (.goto (-40), 3) := by decide +kernel
theorem dX12_goFour_114 : decode cX12_goFour 114 = .ok (.iload 5, 2) := by decide +kernel
theorem dX12_goFour_116 : decode cX12_goFour 116 = .ok (.invokestatic 416, 3) := by decide +kernel
theorem dX12_goFour_119 : decode cX12_goFour 119 = .ok (.iconst 4, 1) := by decide +kernel
theorem dX12_goFour_120 : decode cX12_goFour 120 = .ok (.if_icmp .eq 6, 3) := by decide +kernel
theorem dX12_goFour_123 : decode cX12_goFour 123 = .ok (.bipush (-2), 2) := by decide +kernel
theorem dX12_goFour_125 : decode cX12_goFour 125 = .ok (.ireturn, 1) := by decide +kernel
theorem dX12_goFour_126 : decode cX12_goFour 126 = .ok (.iconst 0, 1) := by decide +kernel
theorem dX12_goFour_127 : decode cX12_goFour 127 = .ok (.istore 6, 2) := by decide +kernel
theorem dX12_goFour_129 : decode cX12_goFour 129 = .ok (.iload 6, 2) := by decide +kernel
theorem dX12_goFour_131 : decode cX12_goFour 131 = .ok (.bipush 8, 2) := by decide +kernel
theorem dX12_goFour_133 : decode cX12_goFour 133 = .ok (.if_icmp .ge 67, 3) := by decide +kernel
theorem dX12_goFour_136 : decode cX12_goFour 136 = .ok (.iconst 0, 1) := by decide +kernel
theorem dX12_goFour_137 : decode cX12_goFour 137 = .ok (.istore 7, 2) := by decide +kernel
theorem dX12_goFour_139 : decode cX12_goFour 139 = .ok (.iload 7, 2) := by decide +kernel
theorem dX12_goFour_141 : decode cX12_goFour 141 = .ok (.bipush 8, 2) := by decide +kernel
theorem dX12_goFour_143 : decode cX12_goFour 143 = .ok (.if_icmp .ge 51, 3) := by decide +kernel
theorem dX12_goFour_146 : decode cX12_goFour 146 = .ok (.iload 6, 2) := by decide +kernel
theorem dX12_goFour_148 : decode cX12_goFour 148 = .ok (.iload 7, 2) := by decide +kernel
theorem dX12_goFour_150 : decode cX12_goFour 150 = .ok (.if_icmp .eq 38, 3) := by decide +kernel
theorem dX12_goFour_153 : decode cX12_goFour 153 = .ok (.iload 5, 2) := by decide +kernel
theorem dX12_goFour_155 : decode cX12_goFour 155 = .ok (.iload 6, 2) := by decide +kernel
theorem dX12_goFour_157 : decode cX12_goFour 157 = .ok (.ishr, 1) := by decide +kernel
theorem dX12_goFour_158 : decode cX12_goFour 158 = .ok (.iload 5, 2) := by decide +kernel
theorem dX12_goFour_160 : decode cX12_goFour 160 = .ok (.iload 7, 2) := by decide +kernel
theorem dX12_goFour_162 : decode cX12_goFour 162 = .ok (.ishr, 1) := by decide +kernel
theorem dX12_goFour_163 : decode cX12_goFour 163 = .ok (.iand, 1) := by decide +kernel
theorem dX12_goFour_164 : decode cX12_goFour 164 = .ok (.iconst 1, 1) := by decide +kernel
theorem dX12_goFour_165 : decode cX12_goFour 165 = .ok (.iand, 1) := by decide +kernel
theorem dX12_goFour_166 : decode cX12_goFour 166 = .ok (.iconst 1, 1) := by decide +kernel
theorem dX12_goFour_167 : decode cX12_goFour 167 = .ok (.if_icmp .ne 21, 3) := by decide +kernel
theorem dX12_goFour_170 : decode cX12_goFour 170 = .ok (.aload_n 0, 1) := by decide +kernel
theorem dX12_goFour_171 : decode cX12_goFour 171 = .ok (.aload_n 1, 1) := by decide +kernel
theorem dX12_goFour_172 : decode cX12_goFour 172 = .ok (.iload 6, 2) := by decide +kernel
theorem dX12_goFour_174 : decode cX12_goFour 174 = .ok (.iload 7, 2) := by decide +kernel
theorem dX12_goFour_176 : decode cX12_goFour 176 = .ok (.iload 4, 2) := by decide +kernel
theorem dX12_goFour_178 : decode cX12_goFour 178 = .ok (.invokevirtual 421, 3) := by decide +kernel
theorem dX12_goFour_181 : decode cX12_goFour 181 = .ok (.iconst 1, 1) := by decide +kernel
theorem dX12_goFour_182 : decode cX12_goFour 182 = .ok (.if_icmp .eq 6, 3) := by decide +kernel
theorem dX12_goFour_185 : decode cX12_goFour 185 = .ok (.bipush (-2), 2) := by decide +kernel
theorem dX12_goFour_187 : decode cX12_goFour 187 = .ok (.ireturn, 1) := by decide +kernel
theorem dX12_goFour_188 : decode cX12_goFour 188 = .ok (.iinc 7 1, 3) := by decide +kernel
theorem dX12_goFour_191 : decode cX12_goFour 191 = .ok (.goto (-52), 3) := by decide +kernel
theorem dX12_goFour_194 : decode cX12_goFour 194 = .ok (.iinc 6 1, 3) := by decide +kernel
theorem dX12_goFour_197 : decode cX12_goFour 197 = .ok (.goto (-68), 3) := by decide +kernel
theorem dX12_goFour_200 : decode cX12_goFour 200 = .ok (.aload_n 0, 1) := by decide +kernel
theorem dX12_goFour_201 : decode cX12_goFour 201 = .ok (.invokevirtual 402, 3) := by decide +kernel
theorem dX12_goFour_204 : decode cX12_goFour 204 = .ok (.iconst 0, 1) := by decide +kernel
theorem dX12_goFour_205 : decode cX12_goFour 205 = .ok (.istore 6, 2) := by decide +kernel
theorem dX12_goFour_207 : decode cX12_goFour 207 = .ok (.iconst 0, 1) := by decide +kernel
