theorem dX11_follow_1 : decode cX11_follow 1 = .ok (.istore_n 2, 1) := by decide +kernel
theorem dX11_follow_2 : decode cX11_follow 2 = .ok (.iload_n 2, 1) := by decide +kernel
theorem dX11_follow_3 : decode cX11_follow 3 = .ok (.aload_n 0, 1) := by decide +kernel
theorem dX11_follow_4 : decode cX11_follow 4 = .ok (.getfield 47, 3) := by decide +kernel
theorem dX11_follow_7 : decode cX11_follow 7 = .ok (.getfield 259, 3) := by decide +kernel
theorem dX11_follow_10 : decode cX11_follow 10 = .ok (.if_icmp .ge 60, 3) := by decide +kernel
theorem dX11_follow_13 : decode cX11_follow 13 = .ok (.aload_n 0, 1) := by decide +kernel
theorem dX11_follow_14 : decode cX11_follow 14 = .ok (.getfield 47, 3) := by decide +kernel
theorem dX11_follow_17 : decode cX11_follow 17 = .ok (.getfield 265, 3) := by decide +kernel
theorem dX11_follow_20 : decode cX11_follow 20 = .ok (.astore_n 3, 1) := by decide +kernel
theorem dX11_follow_21 : decode cX11_follow 21 = .ok (.aload_n 0, 1) := by decide +kernel
theorem dX11_follow_22 : decode cX11_follow 22 = .ok (.getfield 77, 3) := by decide +kernel
theorem dX11_follow_25 : decode cX11_follow 25 = .ok (.aload_n 1, 1) := by decide +kernel
theorem dX11_follow_26 : decode cX11_follow 26 = .ok (.aload_n 3, 1) := by decide +kernel
theorem dX11_follow_27 : decode cX11_follow 27 = .ok (.iconst 4, 1) := by decide +kernel
theorem dX11_follow_28 : decode cX11_follow 28 = .ok (.iload_n 2, 1) := by decide +kernel
theorem dX11_follow_29 : decode cX11_follow 29 = .ok (.imul, 1) := by decide +kernel
theorem dX11_follow_30 : decode cX11_follow 30 = .ok (.iaload, 1) := by decide +kernel
theorem dX11_follow_31 : decode cX11_follow 31 = .ok (.aload_n 3, 1) := by decide +kernel
theorem dX11_follow_32 : decode cX11_follow 32 = .ok (.iconst 4, 1) := by decide +kernel
theorem dX11_follow_33 : decode cX11_follow 33 = .ok (.iload_n 2, 1) := by decide +kernel
theorem dX11_follow_34 : decode cX11_follow 34 = .ok (.imul, 1) := by decide +kernel
theorem dX11_follow_35 : decode cX11_follow 35 = .ok (.iconst 1, 1) := by decide +kernel
theorem dX11_follow_36 : decode cX11_follow 36 = .ok (.iadd, 1) := by decide +kernel
theorem dX11_follow_37 : decode cX11_follow 37 = .ok (.iaload, 1) := by decide +kernel
theorem dX11_follow_38 : decode cX11_follow 38 = .ok (.aload_n 3, 1) := by decide +kernel
theorem dX11_follow_39 : decode cX11_follow 39 = .ok (.iconst 4, 1) := by decide +kernel
theorem dX11_follow_40 : decode cX11_follow 40 = .ok (.iload_n 2, 1) := by decide +kernel
theorem dX11_follow_41 : decode cX11_follow 41 = .ok (.imul, 1) := by decide +kernel
theorem dX11_follow_42 : decode cX11_follow 42 = .ok (.iconst 2, 1) := by decide +kernel
theorem dX11_follow_43 : decode cX11_follow 43 = .ok (.iadd, 1) := by decide +kernel
theorem dX11_follow_44 : decode cX11_follow 44 = .ok (.iaload, 1) := by decide +kernel
theorem dX11_follow_45 : decode cX11_follow 45 = .ok (.aload_n 3, 1) := by decide +kernel
theorem dX11_follow_46 : decode cX11_follow 46 = .ok (.iconst 4, 1) := by decide +kernel
theorem dX11_follow_47 : decode cX11_follow 47 = .ok (.iload_n 2, 1) := by decide +kernel
theorem dX11_follow_48 : decode cX11_follow 48 = .ok (.imul, 1) := by decide +kernel
theorem dX11_follow_49 : decode cX11_follow 49 = .ok (.iconst 3, 1) := by decide +kernel
theorem dX11_follow_50 : decode cX11_follow 50 = .ok (.iadd, 1) := by decide +kernel
theorem dX11_follow_51 : decode cX11_follow 51 = .ok (.iaload, 1) := by decide +kernel
theorem dX11_follow_52 : decode cX11_follow 52 = .ok (.invokevirtual 249, 3) := by decide +kernel
theorem dX11_follow_55 : decode cX11_follow 55 = .ok (.istore 4, 2) := by decide +kernel
theorem dX11_follow_57 : decode cX11_follow 57 = .ok (.iload 4, 2) := by decide +kernel
theorem dX11_follow_59 : decode cX11_follow 59 = .ok (.ifCond .ge 5, 3) := by decide +kernel
theorem dX11_follow_62 : decode cX11_follow 62 = .ok (.iload_n 2, 1) := by decide +kernel
theorem dX11_follow_63 : decode cX11_follow 63 = .ok (.ireturn, 1) := by decide +kernel
theorem dX11_follow_64 : decode cX11_follow 64 = .ok (.iinc 2 1, 3) := by decide +kernel
theorem dX11_follow_67 : decode cX11_follow 67 = .ok (.goto (-65), 3) := by decide +kernel
theorem dX11_follow_70 : decode cX11_follow 70 = .ok (.aload_n 0, 1) := by decide +kernel
theorem dX11_follow_71 : decode cX11_follow 71 = .ok (.getfield 47, 3) := by decide +kernel
theorem dX11_follow_74 : decode cX11_follow 74 = .ok (.getfield 259, 3) := by decide +kernel
theorem dX11_follow_77 : decode cX11_follow 77 = .ok (.ireturn, 1) := by decide +kernel
theorem dX11_comes_0 : decode cX11_comes 0 = .ok (.aload_n 0, 1) := by decide +kernel
theorem dX11_comes_1 : decode cX11_comes 1 = .ok (.getfield 86, 3) := by decide +kernel
theorem dX11_comes_4 : decode cX11_comes 4 = .ok (.aload_n 0, 1) := by decide +kernel
theorem dX11_comes_5 : decode cX11_comes 5 = .ok (.getfield 10, 3) := by decide +kernel
theorem dX11_comes_8 : decode cX11_comes 8 = .ok (.invokevirtual 268, 3) := by decide +kernel
theorem dX11_comes_11 : decode cX11_comes 11 = .ok (.istore_n 1, 1) := by decide +kernel
theorem dX11_comes_12 : decode cX11_comes 12 = .ok (.aload_n 0, 1) := by decide +kernel
theorem dX11_comes_13 : decode cX11_comes 13 = .ok (.getfield 40, 3) := by decide +kernel
theorem dX11_comes_16 : decode cX11_comes 16 = .ok (.invokevirtual 141, 3) := by decide +kernel
theorem dX11_comes_19 : decode cX11_comes 19 = .ok (.iconst 0, 1) := by decide +kernel
theorem dX11_comes_20 : decode cX11_comes 20 = .ok (.istore_n 2, 1) := by decide +kernel
theorem dX11_comes_21 : decode cX11_comes 21 = .ok (.iload_n 2, 1) := by decide +kernel
theorem dX11_comes_22 : decode cX11_comes 22 = .ok (.iconst 4, 1) := by decide +kernel
theorem dX11_comes_23 : decode cX11_comes 23 = .ok (.if_icmp .ge 26, 3) := by decide +kernel
theorem dX11_comes_26 : decode cX11_comes 26 = .ok (.aload_n 0, 1) := by decide +kernel
theorem dX11_comes_27 : decode cX11_comes 27 = .ok (.getfield 40, 3) := by decide +kernel
theorem dX11_comes_30 : decode cX11_comes 30 = .ok (.aload_n 0, 1) := by decide +kernel
theorem dX11_comes_31 : decode cX11_comes 31 = .ok (.getfield 86, 3) := by decide +kernel
theorem dX11_comes_34 : decode cX11_comes 34 = .ok (.getfield 271, 3) := by decide +kernel
theorem dX11_comes_37 : decode cX11_comes 37 = .ok (.iload_n 2, 1) := by decide +kernel
theorem dX11_comes_38 : decode cX11_comes 38 = .ok (.iaload, 1) := by decide +kernel
theorem dX11_comes_39 : decode cX11_comes 39 = .ok (.i2l, 1) := by decide +kernel
theorem dX11_comes_40 : decode cX11_comes 40 = .ok (.invokevirtual 144, 3) := by decide +kernel
theorem dX11_comes_43 : decode cX11_comes 43 = .ok (.iinc 2 1, 3) := by decide +kernel
theorem dX11_comes_46 : decode cX11_comes 46 = .ok (.goto (-25), 3) := by decide +kernel
theorem dX11_comes_49 : decode cX11_comes 49 = .ok (.iload_n 1, 1) := by decide +kernel
theorem dX11_comes_50 : decode cX11_comes 50 = .ok (.ireturn, 1) := by decide +kernel
theorem dX11_leads_0 : decode cX11_leads 0 = .ok (.iload_n 1, 1) := by decide +kernel
theorem dX11_leads_1 : decode cX11_leads 1 = .ok (.ifCond .lt 8, 3) := by decide +kernel
theorem dX11_leads_4 : decode cX11_leads 4 = .ok (.iload_n 1, 1) := by decide +kernel
theorem dX11_leads_5 : decode cX11_leads 5 = .ok (.iconst 2, 1) := by decide +kernel
theorem dX11_leads_6 : decode cX11_leads 6 = .ok (.if_icmp .lt 5, 3) := by decide +kernel
theorem dX11_leads_9 : decode cX11_leads 9 = .ok (.iconst (-1), 1) := by decide +kernel
theorem dX11_leads_10 : decode cX11_leads 10 = .ok (.ireturn, 1) := by decide +kernel
theorem dX11_leads_11 : decode cX11_leads 11 = .ok (.aload_n 0, 1) := by decide +kernel
theorem dX11_leads_12 : decode cX11_leads 12 = .ok (.getfield 26, 3) := by decide +kernel
theorem dX11_leads_15 : decode cX11_leads 15 = .ok (.iload_n 1, 1) := by decide +kernel
theorem dX11_leads_16 : decode cX11_leads 16 = .ok (.baload, 1) := by decide +kernel
theorem dX11_leads_17 : decode cX11_leads 17 = .ok (.ifCond .eq 23, 3) := by decide +kernel
theorem dX11_leads_20 : decode cX11_leads 20 = .ok (.aload_n 0, 1) := by decide +kernel
theorem dX11_leads_21 : decode cX11_leads 21 = .ok (.getfield 86, 3) := by decide +kernel
theorem dX11_leads_24 : decode cX11_leads 24 = .ok (.aload_n 0, 1) := by decide +kernel
theorem dX11_leads_25 : decode cX11_leads 25 = .ok (.getfield 10, 3) := by decide +kernel
theorem dX11_leads_28 : decode cX11_leads 28 = .ok (.aload_n 0, 1) := by decide +kernel
theorem dX11_leads_29 : decode cX11_leads 29 = .ok (.getfield 22, 3) := by decide +kernel
theorem dX11_leads_32 : decode cX11_leads 32 = .ok (.iload_n 1, 1) := by decide +kernel
theorem dX11_leads_33 : decode cX11_leads 33 = .ok (.aaload, 1) := by decide +kernel
theorem dX11_leads_34 : decode cX11_leads 34 = .ok (.invokevirtual 274, 3) := by decide +kernel
theorem dX11_leads_37 : decode cX11_leads 37 = .ok (.goto 4, 3) := by decide +kernel
theorem dX11_leads_40 : decode cX11_leads 40 = .ok (.iconst (-1), 1) := by decide +kernel
theorem dX11_leads_41 : decode cX11_leads 41 = .ok (.istore_n 2, 1) := by decide +kernel
theorem dX11_leads_42 : decode cX11_leads 42 = .ok (.iload_n 2, 1) := by decide +kernel
theorem dX11_leads_43 : decode cX11_leads 43 = .ok (.ifCond .ge 6, 3) := by decide +kernel
theorem dX11_leads_46 : decode cX11_leads 46 = .ok (.bipush (-2), 2) := by decide +kernel
theorem dX11_leads_48 : decode cX11_leads 48 = .ok (.ireturn, 1) := by decide +kernel
theorem dX11_leads_49 : decode cX11_leads 49 = .ok (.aload_n 0, 1) := by decide +kernel
theorem dX11_leads_50 : decode cX11_leads 50 = .ok (.iload_n 2, 1) := by decide +kernel
theorem dX11_leads_51 : decode cX11_leads 51 = .ok (.invokevirtual 278, 3) := by decide +kernel
theorem dX11_leads_54 : decode cX11_leads 54 = .ok (.iload_n 2, 1) := by decide +kernel
theorem dX11_leads_55 : decode cX11_leads 55 = .ok (.invokestatic 281, 3) := by decide +kernel
theorem dX11_leads_58 : decode cX11_leads 58 = .ok (.ireturn, 1) := by decide +kernel
theorem dX11_tellPlace_0 : decode cX11_tellPlace 0 = .ok (.aload_n 0, 1) := by decide +kernel
theorem dX11_tellPlace_1 : decode cX11_tellPlace 1 = .ok (.getfield 40, 3) := by decide +kernel
theorem dX11_tellPlace_4 : decode cX11_tellPlace 4 = .ok (.invokevirtual 141, 3) := by decide +kernel
theorem dX11_tellPlace_7 : decode cX11_tellPlace 7 = .ok (.iload_n 1, 1) := by decide +kernel
theorem dX11_tellPlace_8 : decode cX11_tellPlace 8 = .ok (.bipush 32, 2) := by decide +kernel
theorem dX11_tellPlace_10 : decode cX11_tellPlace 10 = .ok (.if_icmp .ge 28, 3) := by decide +kernel
theorem dX11_tellPlace_13 : decode cX11_tellPlace 13 = .ok (.aload_n 0, 1) := by decide +kernel
theorem dX11_tellPlace_14 : decode cX11_tellPlace 14 = .ok (.getfield 40, 3) := by decide +kernel
theorem dX11_tellPlace_17 : decode cX11_tellPlace 17 = .ok (.iload_n 1, 1) := by decide +kernel
theorem dX11_tellPlace_18 : decode cX11_tellPlace 18 = .ok (.iconst 2, 1) := by decide +kernel
theorem dX11_tellPlace_19 : decode cX11_tellPlace 19 = .ok (.ishr, 1) := by decide +kernel
theorem dX11_tellPlace_20 : decode cX11_tellPlace 20 = .ok (.i2l, 1) := by decide +kernel
theorem dX11_tellPlace_21 : decode cX11_tellPlace 21 = .ok (.invokevirtual 144, 3) := by decide +kernel
theorem dX11_tellPlace_24 : decode cX11_tellPlace 24 = .ok (.aload_n 0, 1) := by decide +kernel
theorem dX11_tellPlace_25 : decode cX11_tellPlace 25 = .ok (.getfield 40, 3) := by decide +kernel
theorem dX11_tellPlace_28 : decode cX11_tellPlace 28 = .ok (.iload_n 1, 1) := by decide +kernel
theorem dX11_tellPlace_29 : decode cX11_tellPlace 29 = .ok (.iconst 3, 1) := by decide +kernel
theorem dX11_tellPlace_30 : decode cX11_tellPlace 30 = .ok (.iand, 1) := by decide +kernel
theorem dX11_tellPlace_31 : decode cX11_tellPlace 31 = .ok (.i2l, 1) := by decide +kernel
theorem dX11_tellPlace_32 : decode cX11_tellPlace 32 = .ok (.invokevirtual 144, 3) := by decide +kernel
theorem dX11_tellPlace_35 : decode cX11_tellPlace 35 = .ok (.goto 110, 3) := by decide +kernel
theorem dX11_tellPlace_38 : decode cX11_tellPlace 38 = .ok (.iload_n 1, 1) := by decide +kernel
theorem dX11_tellPlace_39 : decode cX11_tellPlace 39 = .ok (.sipush 160, 3) := by decide +kernel
theorem dX11_tellPlace_42 : decode cX11_tellPlace 42 = .ok (.if_icmp .ge 50, 3) := by decide +kernel
theorem dX11_tellPlace_45 : decode cX11_tellPlace 45 = .ok (.aload_n 0, 1) := by decide +kernel
theorem dX11_tellPlace_46 : decode cX11_tellPlace 46 = .ok (.getfield 40, 3) := by decide +kernel
theorem dX11_tellPlace_49 : decode cX11_tellPlace 49 = .ok (.iload_n 1, 1) := by decide +kernel
theorem dX11_tellPlace_50 : decode cX11_tellPlace 50 = .ok (.bipush 32, 2) := by decide +kernel
theorem dX11_tellPlace_52 : decode cX11_tellPlace 52 = .ok (.isub, 1) := by decide +kernel
theorem dX11_tellPlace_53 : decode cX11_tellPlace 53 = .ok (.iconst 4, 1) := by decide +kernel
theorem dX11_tellPlace_54 : decode cX11_tellPlace 54 = .ok (.ishr, 1) := by decide +kernel
theorem dX11_tellPlace_55 : decode cX11_tellPlace 55 = .ok (.i2l, 1) := by decide +kernel
theorem dX11_tellPlace_56 : decode cX11_tellPlace 56 = .ok (.invokevirtual 144, 3) := by decide +kernel
theorem dX11_tellPlace_59 : decode cX11_tellPlace 59 = .ok (.aload_n 0, 1) := by decide +kernel
theorem dX11_tellPlace_60 : decode cX11_tellPlace 60 = .ok (.getfield 40, 3) := by decide +kernel
theorem dX11_tellPlace_63 : decode cX11_tellPlace 63 = .ok (.iload_n 1, 1) := by decide +kernel
theorem dX11_tellPlace_64 : decode cX11_tellPlace 64 = .ok (.bipush 32, 2) := by decide +kernel
theorem dX11_tellPlace_66 : decode cX11_tellPlace 66 = .ok (.isub, 1) := by decide +kernel
theorem dX11_tellPlace_67 : decode cX11_tellPlace 67 = .ok (.iconst 2, 1) := by decide +kernel
theorem dX11_tellPlace_68 : decode cX11_tellPlace 68 = .ok (.ishr, 1) := by decide +kernel
theorem dX11_tellPlace_69 : decode cX11_tellPlace 69 = .ok (.iconst 3, 1) := by decide +kernel
theorem dX11_tellPlace_70 : decode cX11_tellPlace 70 = .ok (.iand, 1) := by decide +kernel
theorem dX11_tellPlace_71 : decode cX11_tellPlace 71 = .ok (.i2l, 1) := by decide +kernel
theorem dX11_tellPlace_72 : decode cX11_tellPlace 72 = .ok (.invokevirtual 144, 3) := by decide +kernel
theorem dX11_tellPlace_75 : decode cX11_tellPlace 75 = .ok (.aload_n 0, 1) := by decide +kernel
theorem dX11_tellPlace_76 : decode cX11_tellPlace 76 = .ok (.getfield 40, 3) := by decide +kernel
theorem dX11_tellPlace_79 : decode cX11_tellPlace 79 = .ok (.iload_n 1, 1) := by decide +kernel
theorem dX11_tellPlace_80 : decode cX11_tellPlace 80 = .ok (.bipush 32, 2) := by decide +kernel
theorem dX11_tellPlace_82 : decode cX11_tellPlace 82 = .ok (.isub, 1) := by decide +kernel
theorem dX11_tellPlace_83 : decode cX11_tellPlace 83 = .ok (.iconst 3, 1) := by decide +kernel
theorem dX11_tellPlace_84 : decode cX11_tellPlace 84 = .ok (.iand, 1) := by decide +kernel
theorem dX11_tellPlace_85 : decode cX11_tellPlace 85 = .ok (.i2l, 1) := by decide +kernel
theorem dX11_tellPlace_86 : decode cX11_tellPlace 86 = .ok (.invokevirtual 144, 3) := by decide +kernel
theorem dX11_tellPlace_89 : decode cX11_tellPlace 89 = .ok (.goto 56, 3) := by decide +kernel
theorem dX11_tellPlace_92 : decode cX11_tellPlace 92 = .ok (.iload_n 1, 1) := by decide +kernel
theorem dX11_tellPlace_93 : decode cX11_tellPlace 93 = .ok (.sipush 168, 3) := by decide +kernel
theorem dX11_tellPlace_96 : decode cX11_tellPlace 96 = .ok (.if_icmp .ge 19, 3) := by decide +kernel
theorem dX11_tellPlace_99 : decode cX11_tellPlace 99 = .ok (.aload_n 0, 1) := by decide +kernel
theorem dX11_tellPlace_100 : decode cX11_tellPlace 100 = .ok (.getfield 40, 3) := by decide +kernel
theorem dX11_tellPlace_103 : decode cX11_tellPlace 103 = .ok (.iload_n 1, 1) := by decide +kernel
theorem dX11_tellPlace_104 : decode cX11_tellPlace 104 = .ok (.sipush 160, 3) := by decide +kernel
theorem dX11_tellPlace_107 : decode cX11_tellPlace 107 = .ok (.isub, 1) := by decide +kernel
theorem dX11_tellPlace_108 : decode cX11_tellPlace 108 = .ok (.i2l, 1) := by decide +kernel
theorem dX11_tellPlace_109 : decode cX11_tellPlace 109 = .ok (.invokevirtual 144, 3) := by decide +kernel
theorem dX11_tellPlace_112 : decode cX11_tellPlace 112 = .ok (.goto 33, 3) := by decide +kernel
theorem dX11_tellPlace_115 : decode cX11_tellPlace 115 = .ok (.aload_n 0, 1) := by decide +kernel
theorem dX11_tellPlace_116 : decode cX11_tellPlace 116 = .ok (.getfield 40, 3) := by decide +kernel
theorem dX11_tellPlace_119 : decode cX11_tellPlace 119 = .ok (.iload_n 1, 1) := by decide +kernel
theorem dX11_tellPlace_120 : decode cX11_tellPlace 120 = .ok (.sipush 168, 3) := by decide +kernel
theorem dX11_tellPlace_123 : decode cX11_tellPlace 123 = .ok (.isub, 1) := by decide +kernel
theorem dX11_tellPlace_124 : decode cX11_tellPlace 124 = .ok (.iconst 2, 1) := by decide +kernel
theorem dX11_tellPlace_125 : decode cX11_tellPlace 125 = .ok (.ishr, 1) := by decide +kernel
theorem dX11_tellPlace_126 : decode cX11_tellPlace 126 = .ok (.i2l, 1) := by decide +kernel
theorem dX11_tellPlace_127 : decode cX11_tellPlace 127 = .ok (.invokevirtual 144, 3) := by decide +kernel
theorem dX11_tellPlace_130 : decode cX11_tellPlace 130 = .ok (.aload_n 0, 1) := by decide +kernel
theorem dX11_tellPlace_131 : decode cX11_tellPlace 131 = .ok (.getfield 40, 3) := by decide +kernel
theorem dX11_tellPlace_134 : decode cX11_tellPlace 134 = .ok (.iload_n 1, 1) := by decide +kernel
theorem dX11_tellPlace_135 : decode cX11_tellPlace 135 = .ok (.sipush 168, 3) := by decide +kernel
theorem dX11_tellPlace_138 : decode cX11_tellPlace 138 = .ok (.isub, 1) := by decide +kernel
theorem dX11_tellPlace_139 : decode cX11_tellPlace 139 = .ok (.iconst 3, 1) := by decide +kernel
theorem dX11_tellPlace_140 : decode cX11_tellPlace 140 = .ok (.iand, 1) := by decide +kernel
theorem dX11_tellPlace_141 : decode cX11_tellPlace 141 = .ok (.i2l, 1) := by decide +kernel
theorem dX11_tellPlace_142 : decode cX11_tellPlace 142 = .ok (.invokevirtual 144, 3) := by decide +kernel
theorem dX11_tellPlace_145 : decode cX11_tellPlace 145 = .ok (.return_, 1) := by decide +kernel
theorem dX11_simpler_0 : decode cX11_simpler 0 = .ok (.aload_n 0, 1) := by decide +kernel
theorem dX11_simpler_1 : decode cX11_simpler 1 = .ok (.getfield 16, 3) := by decide +kernel
theorem dX11_simpler_4 : decode cX11_simpler 4 = .ok (.aload_n 0, 1) := by decide +kernel
theorem dX11_simpler_5 : decode cX11_simpler 5 = .ok (.getfield 10, 3) := by decide +kernel
theorem dX11_simpler_8 : decode cX11_simpler 8 = .ok (.invokevirtual 120, 3) := by decide +kernel
theorem dX11_simpler_11 : decode cX11_simpler 11 = .ok (.iconst 0, 1) := by decide +kernel
theorem dX11_simpler_12 : decode cX11_simpler 12 = .ok (.istore_n 1, 1) := by decide +kernel
theorem dX11_simpler_13 : decode cX11_simpler 13 = .ok (.iconst 0, 1) := by decide +kernel
theorem dX11_simpler_14 : decode cX11_simpler 14 = .ok (.istore_n 2, 1) := by decide +kernel
theorem dX11_simpler_15 : decode cX11_simpler 15 = .ok (.iload_n 2, 1) := by decide +kernel
theorem dX11_simpler_16 : decode cX11_simpler 16 = .ok (.bipush 8, 2) := by decide +kernel
theorem dX11_simpler_18 : decode cX11_simpler 18 = .ok (.if_icmp .ge 29, 3) := by decide +kernel
theorem dX11_simpler_21 : decode cX11_simpler 21 = .ok (.aload_n 0, 1) := by decide +kernel
theorem dX11_simpler_22 : decode cX11_simpler 22 = .ok (.getfield 77, 3) := by decide +kernel
theorem dX11_simpler_25 : decode cX11_simpler 25 = .ok (.aload_n 0, 1) := by decide +kernel
theorem dX11_simpler_26 : decode cX11_simpler 26 = .ok (.getfield 10, 3) := by decide +kernel
theorem dX11_simpler_29 : decode cX11_simpler 29 = .ok (.invokevirtual 284, 3) := by decide +kernel
theorem dX11_simpler_32 : decode cX11_simpler 32 = .ok (.ifCond .ne 6, 3) := by decide +kernel
theorem dX11_simpler_35 : decode cX11_simpler 35 = .ok (.goto 12, 3) := by decide +kernel
theorem dX11_simpler_38 : decode cX11_simpler 38 = .ok (.iinc 1 1, 3) := by decide +kernel
theorem dX11_simpler_41 : decode cX11_simpler 41 = .ok (.iinc 2 1, 3) := by decide +kernel
theorem dX11_simpler_44 : decode cX11_simpler 44 = .ok (.goto (-29), 3) := by decide +kernel
theorem dX11_simpler_47 : decode cX11_simpler 47 = .ok (.iload_n 1, 1) := by decide +kernel
theorem dX11_simpler_48 : decode cX11_simpler 48 = .ok (.ifCond .le 14, 3) := by decide +kernel
theorem dX11_simpler_51 : decode cX11_simpler 51 = .ok (.aload_n 0, 1) := by decide +kernel
theorem dX11_simpler_52 : decode cX11_simpler 52 = .ok (.getfield 33, 3) := by decide +kernel
theorem dX11_simpler_55 : decode cX11_simpler 55 = .ok (.aload_n 0, 1) := by decide +kernel
theorem dX11_simpler_56 : decode cX11_simpler 56 = .ok (.getfield 16, 3) := by decide +kernel
theorem dX11_simpler_59 : decode cX11_simpler 59 = .ok (.invokevirtual 113, 3) := by decide +kernel
theorem dX11_simpler_62 : decode cX11_simpler 62 = .ok (.aload_n 0, 1) := by decide +kernel
theorem dX11_simpler_63 : decode cX11_simpler 63 = .ok (.getfield 40, 3) := by decide +kernel
theorem dX11_simpler_66 : decode cX11_simpler 66 = .ok (.invokevirtual 141, 3) := by decide +kernel
theorem dX11_simpler_69 : decode cX11_simpler 69 = .ok (.aload_n 0, 1) := by decide +kernel
theorem dX11_simpler_70 : decode cX11_simpler 70 = .ok (.getfield 40, 3) := by decide +kernel
theorem dX11_simpler_73 : decode cX11_simpler 73 = .ok (.iload_n 1, 1) := by decide +kernel
theorem dX11_simpler_74 : decode cX11_simpler 74 = .ok (.i2l, 1) := by decide +kernel
theorem dX11_simpler_75 : decode cX11_simpler 75 = .ok (.invokevirtual 144, 3) := by decide +kernel
theorem dX11_simpler_78 : decode cX11_simpler 78 = .ok (.aload_n 0, 1) := by decide +kernel
theorem dX11_simpler_79 : decode cX11_simpler 79 = .ok (.getfield 10, 3) := by decide +kernel
theorem dX11_simpler_82 : decode cX11_simpler 82 = .ok (.getfield 123, 3) := by decide +kernel
theorem dX11_simpler_85 : decode cX11_simpler 85 = .ok (.ireturn, 1) := by decide +kernel
theorem dX11_way_0 : decode cX11_way 0 = .ok (.iload_n 1, 1) := by decide +kernel
theorem dX11_way_1 : decode cX11_way 1 = .ok (.ifCond .lt 30, 3) := by decide +kernel
theorem dX11_way_4 : decode cX11_way 4 = .ok (.iload_n 1, 1) := by decide +kernel
theorem dX11_way_5 : decode cX11_way 5 = .ok (.iconst 2, 1) := by decide +kernel
theorem dX11_way_6 : decode cX11_way 6 = .ok (.if_icmp .ge 25, 3) := by decide +kernel
theorem dX11_way_9 : decode cX11_way 9 = .ok (.iload_n 2, 1) := by decide +kernel
theorem dX11_way_10 : decode cX11_way 10 = .ok (.iconst 1, 1) := by decide +kernel
theorem dX11_way_11 : decode cX11_way 11 = .ok (.if_icmp .lt 20, 3) := by decide +kernel
theorem dX11_way_14 : decode cX11_way 14 = .ok (.iload_n 2, 1) := by decide +kernel
theorem dX11_way_15 : decode cX11_way 15 = .ok (.bipush 30, 2) := by decide +kernel
theorem dX11_way_17 : decode cX11_way 17 = .ok (.if_icmp .gt 14, 3) := by decide +kernel
theorem dX11_way_20 : decode cX11_way 20 = .ok (.iload_n 3, 1) := by decide +kernel
theorem dX11_way_21 : decode cX11_way 21 = .ok (.iconst 1, 1) := by decide +kernel
theorem dX11_way_22 : decode cX11_way 22 = .ok (.if_icmp .lt 9, 3) := by decide +kernel
theorem dX11_way_25 : decode cX11_way 25 = .ok (.iload_n 3, 1) := by decide +kernel
theorem dX11_way_26 : decode cX11_way 26 = .ok (.bipush 8, 2) := by decide +kernel
theorem dX11_way_28 : decode cX11_way 28 = .ok (.if_icmp .le 5, 3) := by decide +kernel
theorem dX11_way_31 : decode cX11_way 31 = .ok (.iconst (-1), 1) := by decide +kernel
theorem dX11_way_32 : decode cX11_way 32 = .ok (.ireturn, 1) := by decide +kernel
theorem dX11_way_33 : decode cX11_way 33 = .ok (.aload_n 0, 1) := by decide +kernel
theorem dX11_way_34 : decode cX11_way 34 = .ok (.getfield 26, 3) := by decide +kernel
theorem dX11_way_37 : decode cX11_way 37 = .ok (.iload_n 1, 1) := by decide +kernel
theorem dX11_way_38 : decode cX11_way 38 = .ok (.baload, 1) := by decide +kernel
theorem dX11_way_39 : decode cX11_way 39 = .ok (.ifCond .ne 6, 3) := by decide +kernel
theorem dX11_way_42 : decode cX11_way 42 = .ok (.bipush (-3), 2) := by decide +kernel
theorem dX11_way_44 : decode cX11_way 44 = .ok (.ireturn, 1) := by decide +kernel
theorem dX11_way_45 : decode cX11_way 45 = .ok (.aload_n 0, 1) := by decide +kernel
theorem dX11_way_46 : decode cX11_way 46 = .ok (.getfield 86, 3) := by decide +kernel
theorem dX11_way_49 : decode cX11_way 49 = .ok (.aload_n 0, 1) := by decide +kernel
theorem dX11_way_50 : decode cX11_way 50 = .ok (.getfield 10, 3) := by decide +kernel
theorem dX11_way_53 : decode cX11_way 53 = .ok (.aload_n 0, 1) := by decide +kernel
theorem dX11_way_54 : decode cX11_way 54 = .ok (.getfield 22, 3) := by decide +kernel
theorem dX11_way_57 : decode cX11_way 57 = .ok (.iload_n 1, 1) := by decide +kernel
theorem dX11_way_58 : decode cX11_way 58 = .ok (.aaload, 1) := by decide +kernel
theorem dX11_way_59 : decode cX11_way 59 = .ok (.iload_n 2, 1) := by decide +kernel
theorem dX11_way_60 : decode cX11_way 60 = .ok (.iload_n 3, 1) := by decide +kernel
theorem dX11_way_61 : decode cX11_way 61 = .ok (.invokevirtual 287, 3) := by decide +kernel
theorem dX11_way_64 : decode cX11_way 64 = .ok (.istore 4, 2) := by decide +kernel
theorem dX11_way_66 : decode cX11_way 66 = .ok (.iload 4, 2) := by decide +kernel
theorem dX11_way_68 : decode cX11_way 68 = .ok (.ifCond .ge 6, 3) := by decide +kernel
theorem dX11_way_71 : decode cX11_way 71 = .ok (.bipush (-2), 2) := by decide +kernel
theorem dX11_way_73 : decode cX11_way 73 = .ok (.ireturn, 1) := by decide +kernel
theorem dX11_way_74 : decode cX11_way 74 = .ok (.aload_n 0, 1) := by decide +kernel
theorem dX11_way_75 : decode cX11_way 75 = .ok (.getfield 40, 3) := by decide +kernel
theorem dX11_way_78 : decode cX11_way 78 = .ok (.invokevirtual 141, 3) := by decide +kernel
theorem dX11_way_81 : decode cX11_way 81 = .ok (.aload_n 0, 1) := by decide +kernel
theorem dX11_way_82 : decode cX11_way 82 = .ok (.getfield 40, 3) := by decide +kernel
theorem dX11_way_85 : decode cX11_way 85 = .ok (.aload_n 0, 1) := by decide +kernel
theorem dX11_way_86 : decode cX11_way 86 = .ok (.getfield 86, 3) := by decide +kernel
theorem dX11_way_89 : decode cX11_way 89 = .ok (.getfield 291, 3) := by decide +kernel
theorem dX11_way_92 : decode cX11_way 92 = .ok (.getfield 295, 3) := by decide +kernel
theorem dX11_way_95 : decode cX11_way 95 = .ok (.i2l, 1) := by decide +kernel
theorem dX11_way_96 : decode cX11_way 96 = .ok (.invokevirtual 144, 3) := by decide +kernel
theorem dX11_way_99 : decode cX11_way 99 = .ok (.iload 4, 2) := by decide +kernel
theorem dX11_way_101 : decode cX11_way 101 = .ok (.ireturn, 1) := by decide +kernel
theorem dX11_drawn_0 : decode cX11_drawn 0 = .ok (.iload_n 2, 1) := by decide +kernel
theorem dX11_drawn_1 : decode cX11_drawn 1 = .ok (.iconst 1, 1) := by decide +kernel
theorem dX11_drawn_2 : decode cX11_drawn 2 = .ok (.if_icmp .lt 9, 3) := by decide +kernel
theorem dX11_drawn_5 : decode cX11_drawn 5 = .ok (.iload_n 2, 1) := by decide +kernel
theorem dX11_drawn_6 : decode cX11_drawn 6 = .ok (.bipush 12, 2) := by decide +kernel
theorem dX11_drawn_8 : decode cX11_drawn 8 = .ok (.if_icmp .le 5, 3) := by decide +kernel
theorem dX11_drawn_11 : decode cX11_drawn 11 = .ok (.iconst (-1), 1) := by decide +kernel
theorem dX11_drawn_12 : decode cX11_drawn 12 = .ok (.ireturn, 1) := by decide +kernel
theorem dX11_drawn_13 : decode cX11_drawn 13 = .ok (.aload_n 0, 1) := by decide +kernel
theorem dX11_drawn_14 : decode cX11_drawn 14 = .ok (.iload_n 1, 1) := by decide +kernel
theorem dX11_drawn_15 : decode cX11_drawn 15 = .ok (.putfield 298, 3) := by decide +kernel
theorem dX11_drawn_18 : decode cX11_drawn 18 = .ok (.aload_n 0, 1) := by decide +kernel
theorem dX11_drawn_19 : decode cX11_drawn 19 = .ok (.getfield 19, 3) := by decide +kernel
theorem dX11_drawn_22 : decode cX11_drawn 22 = .ok (.aload_n 0, 1) := by decide +kernel
theorem dX11_drawn_23 : decode cX11_drawn 23 = .ok (.getfield 10, 3) := by decide +kernel
theorem dX11_drawn_26 : decode cX11_drawn 26 = .ok (.invokevirtual 120, 3) := by decide +kernel
theorem dX11_drawn_29 : decode cX11_drawn 29 = .ok (.iconst 0, 1) := by decide +kernel
theorem dX11_drawn_30 : decode cX11_drawn 30 = .ok (.istore_n 3, 1) := by decide +kernel
theorem dX11_drawn_31 : decode cX11_drawn 31 = .ok (.iconst 0, 1) := by decide +kernel
theorem dX11_drawn_32 : decode cX11_drawn 32 = .ok (.istore 4, 2) := by decide +kernel
theorem dX11_drawn_34 : decode cX11_drawn 34 = .ok (.iload 4, 2) := by decide +kernel
theorem dX11_drawn_36 : decode cX11_drawn 36 = .ok (.iload_n 2, 1) := by decide +kernel
theorem dX11_drawn_37 : decode cX11_drawn 37 = .ok (.if_icmp .ge 23, 3) := by decide +kernel
theorem dX11_drawn_40 : decode cX11_drawn 40 = .ok (.aload_n 0, 1) := by decide +kernel
theorem dX11_drawn_41 : decode cX11_drawn 41 = .ok (.aload_n 0, 1) := by decide +kernel
theorem dX11_drawn_42 : decode cX11_drawn 42 = .ok (.getfield 19, 3) := by decide +kernel
theorem dX11_drawn_45 : decode cX11_drawn 45 = .ok (.invokevirtual 301, 3) := by decide +kernel
theorem dX11_drawn_48 : decode cX11_drawn 48 = .ok (.ifCond .lt 6, 3) := by decide +kernel
theorem dX11_drawn_51 : decode cX11_drawn 51 = .ok (.iinc 3 1, 3) := by decide +kernel
theorem dX11_drawn_54 : decode cX11_drawn 54 = .ok (.iinc 4 1, 3) := by decide +kernel
theorem dX11_drawn_57 : decode cX11_drawn 57 = .ok (.goto (-23), 3) := by decide +kernel
theorem dX11_drawn_60 : decode cX11_drawn 60 = .ok (.aload_n 0, 1) := by decide +kernel
theorem dX11_drawn_61 : decode cX11_drawn 61 = .ok (.getfield 68, 3) := by decide +kernel
theorem dX11_drawn_64 : decode cX11_drawn 64 = .ok (.aload_n 0, 1) := by decide +kernel
theorem dX11_drawn_65 : decode cX11_drawn 65 = .ok (.getfield 19, 3) := by decide +kernel
theorem dX11_drawn_68 : decode cX11_drawn 68 = .ok (.invokevirtual 170, 3) := by decide +kernel
theorem dX11_drawn_71 : decode cX11_drawn 71 = .ok (.aload_n 0, 1) := by decide +kernel
theorem dX11_drawn_72 : decode cX11_drawn 72 = .ok (.getfield 40, 3) := by decide +kernel
theorem dX11_drawn_75 : decode cX11_drawn 75 = .ok (.invokevirtual 141, 3) := by decide +kernel
theorem dX11_drawn_78 : decode cX11_drawn 78 = .ok (.aload_n 0, 1) := by decide +kernel
theorem dX11_drawn_79 : decode cX11_drawn 79 = .ok (.getfield 40, 3) := by decide +kernel
theorem dX11_drawn_82 : decode cX11_drawn 82 = .ok (.iload_n 3, 1) := by decide +kernel
theorem dX11_drawn_83 : decode cX11_drawn 83 = .ok (.i2l, 1) := by decide +kernel
theorem dX11_drawn_84 : decode cX11_drawn 84 = .ok (.invokevirtual 144, 3) := by decide +kernel
theorem dX11_drawn_87 : decode cX11_drawn 87 = .ok (.aload_n 0, 1) := by decide +kernel
theorem dX11_drawn_88 : decode cX11_drawn 88 = .ok (.getfield 40, 3) := by decide +kernel
theorem dX11_drawn_91 : decode cX11_drawn 91 = .ok (.aload_n 0, 1) := by decide +kernel
theorem dX11_drawn_92 : decode cX11_drawn 92 = .ok (.aload_n 0, 1) := by decide +kernel
theorem dX11_drawn_93 : decode cX11_drawn 93 = .ok (.getfield 19, 3) := by decide +kernel
theorem dX11_drawn_96 : decode cX11_drawn 96 = .ok (.invokevirtual 227, 3) := by decide +kernel
theorem dX11_drawn_99 : decode cX11_drawn 99 = .ok (.invokevirtual 179, 3) := by decide +kernel
theorem dX11_drawn_102 : decode cX11_drawn 102 = .ok (.aload_n 0, 1) := by decide +kernel
theorem dX11_drawn_103 : decode cX11_drawn 103 = .ok (.getfield 19, 3) := by decide +kernel
theorem dX11_drawn_106 : decode cX11_drawn 106 = .ok (.getfield 123, 3) := by decide +kernel
theorem dX11_drawn_109 : decode cX11_drawn 109 = .ok (.ireturn, 1) := by decide +kernel
theorem dX11_drawOne_0 : decode cX11_drawOne 0 = .ok (.aload_n 0, 1) := by decide +kernel
theorem dX11_drawOne_1 : decode cX11_drawOne 1 = .ok (.iconst 4, 1) := by decide +kernel
theorem dX11_drawOne_2 : decode cX11_drawOne 2 = .ok (.invokevirtual 304, 3) := by decide +kernel
theorem dX11_drawOne_5 : decode cX11_drawOne 5 = .ok (.istore_n 2, 1) := by decide +kernel
theorem dX11_drawOne_6 : decode cX11_drawOne 6 = .ok (.aload_n 0, 1) := by decide +kernel
theorem dX11_drawOne_7 : decode cX11_drawOne 7 = .ok (.bipush 8, 2) := by decide +kernel
theorem dX11_drawOne_9 : decode cX11_drawOne 9 = .ok (.invokevirtual 304, 3) := by decide +kernel
theorem dX11_drawOne_12 : decode cX11_drawOne 12 = .ok (.istore_n 3, 1) := by decide +kernel
theorem dX11_drawOne_13 : decode cX11_drawOne 13 = .ok (.iload_n 2, 1) := by decide +kernel
theorem dX11_drawOne_14 : decode cX11_drawOne 14 = .ok (.iconst 2, 1) := by decide +kernel
theorem dX11_drawOne_15 : decode cX11_drawOne 15 = .ok (.if_icmp .ne 7, 3) := by decide +kernel
theorem dX11_drawOne_18 : decode cX11_drawOne 18 = .ok (.iconst 0, 1) := by decide +kernel
theorem dX11_drawOne_19 : decode cX11_drawOne 19 = .ok (.goto 8, 3) := by decide +kernel
theorem dX11_drawOne_22 : decode cX11_drawOne 22 = .ok (.aload_n 0, 1) := by decide +kernel
theorem dX11_drawOne_23 : decode cX11_drawOne 23 = .ok (.iconst 4, 1) := by decide +kernel
theorem dX11_drawOne_24 : decode cX11_drawOne 24 = .ok (.invokevirtual 304, 3) := by decide +kernel
theorem dX11_drawOne_27 : decode cX11_drawOne 27 = .ok (.istore 4, 2) := by decide +kernel
theorem dX11_drawOne_29 : decode cX11_drawOne 29 = .ok (.iload_n 2, 1) := by decide +kernel
theorem dX11_drawOne_30 : decode cX11_drawOne 30 = .ok (.iconst 1, 1) := by decide +kernel
theorem dX11_drawOne_31 : decode cX11_drawOne 31 = .ok (.if_icmp .ne 11, 3) := by decide +kernel
theorem dX11_drawOne_34 : decode cX11_drawOne 34 = .ok (.aload_n 0, 1) := by decide +kernel
theorem dX11_drawOne_35 : decode cX11_drawOne 35 = .ok (.iconst 4, 1) := by decide +kernel
theorem dX11_drawOne_36 : decode cX11_drawOne 36 = .ok (.invokevirtual 304, 3) := by decide +kernel
theorem dX11_drawOne_39 : decode cX11_drawOne 39 = .ok (.goto 4, 3) := by decide +kernel
theorem dX11_drawOne_42 : decode cX11_drawOne 42 = .ok (.iconst 0, 1) := by decide +kernel
theorem dX11_drawOne_43 : decode cX11_drawOne 43 = .ok (.istore 5, 2) := by decide +kernel
theorem dX11_drawOne_45 : decode cX11_drawOne 45 = .ok (.aload_n 0, 1) := by decide +kernel
theorem dX11_drawOne_46 : decode cX11_drawOne 46 = .ok (.getfield 77, 3) := by decide +kernel
theorem dX11_drawOne_49 : decode cX11_drawOne 49 = .ok (.aload_n 1, 1) := by decide +kernel
theorem dX11_drawOne_50 : decode cX11_drawOne 50 = .ok (.iload_n 2, 1) := by decide +kernel
theorem dX11_drawOne_51 : decode cX11_drawOne 51 = .ok (.iload_n 3, 1) := by decide +kernel
theorem dX11_drawOne_52 : decode cX11_drawOne 52 = .ok (.iload 4, 2) := by decide +kernel
theorem dX11_drawOne_54 : decode cX11_drawOne 54 = .ok (.iload 5, 2) := by decide +kernel
theorem dX11_drawOne_56 : decode cX11_drawOne 56 = .ok (.invokevirtual 249, 3) := by decide +kernel
theorem dX11_drawOne_59 : decode cX11_drawOne 59 = .ok (.ireturn, 1) := by decide +kernel
theorem dX11_draw_0 : decode cX11_draw 0 = .ok (.aload_n 0, 1) := by decide +kernel
theorem dX11_draw_1 : decode cX11_draw 1 = .ok (.aload_n 0, 1) := by decide +kernel
theorem dX11_draw_2 : decode cX11_draw 2 = .ok (.getfield 298, 3) := by decide +kernel
theorem dX11_draw_5 : decode cX11_draw 5 = .ok (.ldc_w 307, 3) := by decide +kernel
theorem dX11_draw_8 : decode cX11_draw 8 = .ok (.imul, 1) := by decide +kernel
theorem dX11_draw_9 : decode cX11_draw 9 = .ok (.sipush 12345, 3) := by decide +kernel
theorem dX11_draw_12 : decode cX11_draw 12 = .ok (.iadd, 1) := by decide +kernel
theorem dX11_draw_13 : decode cX11_draw 13 = .ok (.putfield 298, 3) := by decide +kernel
theorem dX11_draw_16 : decode cX11_draw 16 = .ok (.iload_n 1, 1) := by decide +kernel
theorem dX11_draw_17 : decode cX11_draw 17 = .ok (.iconst 1, 1) := by decide +kernel
theorem dX11_draw_18 : decode cX11_draw 18 = .ok (.if_icmp .ge 7, 3) := by decide +kernel
theorem dX11_draw_21 : decode cX11_draw 21 = .ok (.iconst 0, 1) := by decide +kernel
theorem dX11_draw_22 : decode cX11_draw 22 = .ok (.goto 12, 3) := by decide +kernel
theorem dX11_draw_25 : decode cX11_draw 25 = .ok (.aload_n 0, 1) := by decide +kernel
theorem dX11_draw_26 : decode cX11_draw 26 = .ok (.getfield 298, 3) := by decide +kernel
theorem dX11_draw_29 : decode cX11_draw 29 = .ok (.bipush 16, 2) := by decide +kernel
theorem dX11_draw_31 : decode cX11_draw 31 = .ok (.iushr, 1) := by decide +kernel
theorem dX11_draw_32 : decode cX11_draw 32 = .ok (.iload_n 1, 1) := by decide +kernel
theorem dX11_draw_33 : decode cX11_draw 33 = .ok (.irem, 1) := by decide +kernel
theorem dX11_draw_34 : decode cX11_draw 34 = .ok (.ireturn, 1) := by decide +kernel
theorem dX11_undo_0 : decode cX11_undo 0 = .ok (.aload_n 0, 1) := by decide +kernel
theorem dX11_undo_1 : decode cX11_undo 1 = .ok (.getfield 33, 3) := by decide +kernel
theorem dX11_undo_4 : decode cX11_undo 4 = .ok (.aload_n 0, 1) := by decide +kernel
theorem dX11_undo_5 : decode cX11_undo 5 = .ok (.getfield 10, 3) := by decide +kernel
theorem dX11_undo_8 : decode cX11_undo 8 = .ok (.invokevirtual 308, 3) := by decide +kernel
theorem dX11_undo_11 : decode cX11_undo 11 = .ok (.ireturn, 1) := by decide +kernel
theorem dX11_heard_0 : decode cX11_heard 0 = .ok (.aload_n 0, 1) := by decide +kernel
theorem dX11_heard_1 : decode cX11_heard 1 = .ok (.getfield 54, 3) := by decide +kernel
theorem dX11_heard_4 : decode cX11_heard 4 = .ok (.iload_n 1, 1) := by decide +kernel
theorem dX11_heard_5 : decode cX11_heard 5 = .ok (.iload_n 2, 1) := by decide +kernel
theorem dX11_heard_6 : decode cX11_heard 6 = .ok (.invokevirtual 311, 3) := by decide +kernel
theorem dX11_heard_9 : decode cX11_heard 9 = .ok (.ireturn, 1) := by decide +kernel
theorem dX11_forget_0 : decode cX11_forget 0 = .ok (.aload_n 0, 1) := by decide +kernel
theorem dX11_forget_1 : decode cX11_forget 1 = .ok (.getfield 54, 3) := by decide +kernel
theorem dX11_forget_4 : decode cX11_forget 4 = .ok (.getfield 313, 3) := by decide +kernel
theorem dX11_forget_7 : decode cX11_forget 7 = .ok (.istore_n 1, 1) := by decide +kernel
theorem dX11_forget_8 : decode cX11_forget 8 = .ok (.aload_n 0, 1) := by decide +kernel
theorem dX11_forget_9 : decode cX11_forget 9 = .ok (.getfield 54, 3) := by decide +kernel
theorem dX11_forget_12 : decode cX11_forget 12 = .ok (.iconst 0, 1) := by decide +kernel
theorem dX11_forget_13 : decode cX11_forget 13 = .ok (.putfield 313, 3) := by decide +kernel
theorem dX11_forget_16 : decode cX11_forget 16 = .ok (.iload_n 1, 1) := by decide +kernel
theorem dX11_forget_17 : decode cX11_forget 17 = .ok (.ireturn, 1) := by decide +kernel
theorem dX11_fits_0 : decode cX11_fits 0 = .ok (.aload_n 0, 1) := by decide +kernel
theorem dX11_fits_1 : decode cX11_fits 1 = .ok (.getfield 68, 3) := by decide +kernel
theorem dX11_fits_4 : decode cX11_fits 4 = .ok (.aload_n 0, 1) := by decide +kernel
theorem dX11_fits_5 : decode cX11_fits 5 = .ok (.getfield 10, 3) := by decide +kernel
theorem dX11_fits_8 : decode cX11_fits 8 = .ok (.invokevirtual 170, 3) := by decide +kernel
theorem dX11_fits_11 : decode cX11_fits 11 = .ok (.aload_n 0, 1) := by decide +kernel
theorem dX11_fits_12 : decode cX11_fits 12 = .ok (.getfield 40, 3) := by decide +kernel
theorem dX11_fits_15 : decode cX11_fits 15 = .ok (.invokevirtual 141, 3) := by decide +kernel
theorem dX11_fits_18 : decode cX11_fits 18 = .ok (.iconst 0, 1) := by decide +kernel
theorem dX11_fits_19 : decode cX11_fits 19 = .ok (.istore_n 1, 1) := by decide +kernel
theorem dX11_fits_20 : decode cX11_fits 20 = .ok (.iconst 0, 1) := by decide +kernel
theorem dX11_fits_21 : decode cX11_fits 21 = .ok (.istore_n 2, 1) := by decide +kernel
theorem dX11_fits_22 : decode cX11_fits 22 = .ok (.iload_n 2, 1) := by decide +kernel
theorem dX11_fits_23 : decode cX11_fits 23 = .ok (.sipush 128, 3) := by decide +kernel
theorem dX11_fits_26 : decode cX11_fits 26 = .ok (.if_icmp .ge 79, 3) := by decide +kernel
theorem dX11_fits_29 : decode cX11_fits 29 = .ok (.aload_n 0, 1) := by decide +kernel
theorem dX11_fits_30 : decode cX11_fits 30 = .ok (.getfield 68, 3) := by decide +kernel
theorem dX11_fits_33 : decode cX11_fits 33 = .ok (.getfield 173, 3) := by decide +kernel
theorem dX11_fits_36 : decode cX11_fits 36 = .ok (.iload_n 2, 1) := by decide +kernel
theorem dX11_fits_37 : decode cX11_fits 37 = .ok (.iaload, 1) := by decide +kernel
theorem dX11_fits_38 : decode cX11_fits 38 = .ok (.iload_n 2, 1) := by decide +kernel
theorem dX11_fits_39 : decode cX11_fits 39 = .ok (.if_icmp .ne 60, 3) := by decide +kernel
theorem dX11_fits_42 : decode cX11_fits 42 = .ok (.aload_n 0, 1) := by decide +kernel
theorem dX11_fits_43 : decode cX11_fits 43 = .ok (.getfield 54, 3) := by decide +kernel
theorem dX11_fits_46 : decode cX11_fits 46 = .ok (.aload_n 0, 1) := by decide +kernel
theorem dX11_fits_47 : decode cX11_fits 47 = .ok (.getfield 68, 3) := by decide +kernel
theorem dX11_fits_50 : decode cX11_fits 50 = .ok (.iload_n 2, 1) := by decide +kernel
theorem dX11_fits_51 : decode cX11_fits 51 = .ok (.invokevirtual 314, 3) := by decide +kernel
theorem dX11_fits_54 : decode cX11_fits 54 = .ok (.ifCond .eq 45, 3) := by decide +kernel
theorem dX11_fits_57 : decode cX11_fits 57 = .ok (.iload_n 1, 1) := by decide +kernel
theorem dX11_fits_58 : decode cX11_fits 58 = .ok (.ifCond .ne 38, 3) := by decide +kernel
theorem dX11_fits_61 : decode cX11_fits 61 = .ok (.aload_n 0, 1) := by decide +kernel
theorem dX11_fits_62 : decode cX11_fits 62 = .ok (.getfield 40, 3) := by decide +kernel
theorem dX11_fits_65 : decode cX11_fits 65 = .ok (.iload_n 2, 1) := by decide +kernel
theorem dX11_fits_66 : decode cX11_fits 66 = .ok (.iconst 4, 1) := by decide +kernel
theorem dX11_fits_67 : decode cX11_fits 67 = .ok (.ishr, 1) := by decide +kernel
theorem dX11_fits_68 : decode cX11_fits 68 = .ok (.i2l, 1) := by decide +kernel
theorem dX11_fits_69 : decode cX11_fits 69 = .ok (.invokevirtual 144, 3) := by decide +kernel
theorem dX11_fits_72 : decode cX11_fits 72 = .ok (.aload_n 0, 1) := by decide +kernel
theorem dX11_fits_73 : decode cX11_fits 73 = .ok (.getfield 40, 3) := by decide +kernel
theorem dX11_fits_76 : decode cX11_fits 76 = .ok (.iload_n 2, 1) := by decide +kernel
theorem dX11_fits_77 : decode cX11_fits 77 = .ok (.iconst 2, 1) := by decide +kernel
theorem dX11_fits_78 : decode cX11_fits 78 = .ok (.ishr, 1) := by decide +kernel
theorem dX11_fits_79 : decode cX11_fits 79 = .ok (.iconst 3, 1) := by decide +kernel
theorem dX11_fits_80 : decode cX11_fits 80 = .ok (.iand, 1) := by decide +kernel
theorem dX11_fits_81 : decode cX11_fits 81 = .ok (.i2l, 1) := by decide +kernel
theorem dX11_fits_82 : decode cX11_fits 82 = .ok (.invokevirtual 144, 3) := by decide +kernel
theorem dX11_fits_85 : decode cX11_fits 85 = .ok (.aload_n 0, 1) := by decide +kernel
theorem dX11_fits_86 : decode cX11_fits 86 = .ok (.getfield 40, 3) := by decide +kernel
theorem dX11_fits_89 : decode cX11_fits 89 = .ok (.iload_n 2, 1) := by decide +kernel
theorem dX11_fits_90 : decode cX11_fits 90 = .ok (.iconst 3, 1) := by decide +kernel
theorem dX11_fits_91 : decode cX11_fits 91 = .ok (.iand, 1) := by decide +kernel
theorem dX11_fits_92 : decode cX11_fits 92 = .ok (.i2l, 1) := by decide +kernel
theorem dX11_fits_93 : decode cX11_fits 93 = .ok (.invokevirtual 144, 3) := by decide +kernel
theorem dX11_fits_96 : decode cX11_fits 96 = .ok (.iinc 1 1, 3) := by decide +kernel
theorem dX11_fits_99 : decode cX11_fits 99 = .ok (.iinc 2 1, 3) := by decide +kernel
theorem dX11_fits_102 : decode cX11_fits 102 = .ok (.goto (-80), 3) := by decide +kernel
theorem dX11_fits_105 : decode cX11_fits 105 = .ok (.iload_n 1, 1) := by decide +kernel
theorem dX11_fits_106 : decode cX11_fits 106 = .ok (.ireturn, 1) := by decide +kernel
theorem dX11_keep_0 : decode cX11_keep 0 = .ok (.iload_n 1, 1) := by decide +kernel
theorem dX11_keep_1 : decode cX11_keep 1 = .ok (.ifCond .lt 8, 3) := by decide +kernel
theorem dX11_keep_4 : decode cX11_keep 4 = .ok (.iload_n 1, 1) := by decide +kernel
theorem dX11_keep_5 : decode cX11_keep 5 = .ok (.iconst 2, 1) := by decide +kernel
theorem dX11_keep_6 : decode cX11_keep 6 = .ok (.if_icmp .lt 5, 3) := by decide +kernel
theorem dX11_keep_9 : decode cX11_keep 9 = .ok (.iconst 0, 1) := by decide +kernel
theorem dX11_keep_10 : decode cX11_keep 10 = .ok (.ireturn, 1) := by decide +kernel
theorem dX11_keep_11 : decode cX11_keep 11 = .ok (.aload_n 0, 1) := by decide +kernel
theorem dX11_keep_12 : decode cX11_keep 12 = .ok (.getfield 22, 3) := by decide +kernel
theorem dX11_keep_15 : decode cX11_keep 15 = .ok (.iload_n 1, 1) := by decide +kernel
theorem dX11_keep_16 : decode cX11_keep 16 = .ok (.aaload, 1) := by decide +kernel
theorem dX11_keep_17 : decode cX11_keep 17 = .ok (.aload_n 0, 1) := by decide +kernel
theorem dX11_keep_18 : decode cX11_keep 18 = .ok (.getfield 10, 3) := by decide +kernel
theorem dX11_keep_21 : decode cX11_keep 21 = .ok (.invokevirtual 120, 3) := by decide +kernel
theorem dX11_keep_24 : decode cX11_keep 24 = .ok (.aload_n 0, 1) := by decide +kernel
theorem dX11_keep_25 : decode cX11_keep 25 = .ok (.getfield 26, 3) := by decide +kernel
theorem dX11_keep_28 : decode cX11_keep 28 = .ok (.iload_n 1, 1) := by decide +kernel
theorem dX11_keep_29 : decode cX11_keep 29 = .ok (.iconst 1, 1) := by decide +kernel
theorem dX11_keep_30 : decode cX11_keep 30 = .ok (.bastore, 1) := by decide +kernel
theorem dX11_keep_31 : decode cX11_keep 31 = .ok (.iconst 1, 1) := by decide +kernel
theorem dX11_keep_32 : decode cX11_keep 32 = .ok (.ireturn, 1) := by decide +kernel
theorem dX11_again_0 : decode cX11_again 0 = .ok (.iload_n 1, 1) := by decide +kernel
theorem dX11_again_1 : decode cX11_again 1 = .ok (.ifCond .lt 17, 3) := by decide +kernel
theorem dX11_again_4 : decode cX11_again 4 = .ok (.iload_n 1, 1) := by decide +kernel
theorem dX11_again_5 : decode cX11_again 5 = .ok (.iconst 2, 1) := by decide +kernel
theorem dX11_again_6 : decode cX11_again 6 = .ok (.if_icmp .ge 12, 3) := by decide +kernel
theorem dX11_again_9 : decode cX11_again 9 = .ok (.aload_n 0, 1) := by decide +kernel
theorem dX11_again_10 : decode cX11_again 10 = .ok (.getfield 26, 3) := by decide +kernel
theorem dX11_again_13 : decode cX11_again 13 = .ok (.iload_n 1, 1) := by decide +kernel
theorem dX11_again_14 : decode cX11_again 14 = .ok (.baload, 1) := by decide +kernel
theorem dX11_again_15 : decode cX11_again 15 = .ok (.ifCond .ne 5, 3) := by decide +kernel
theorem dX11_again_18 : decode cX11_again 18 = .ok (.iconst 0, 1) := by decide +kernel
theorem dX11_again_19 : decode cX11_again 19 = .ok (.ireturn, 1) := by decide +kernel
theorem dX11_again_20 : decode cX11_again 20 = .ok (.aload_n 0, 1) := by decide +kernel
theorem dX11_again_21 : decode cX11_again 21 = .ok (.getfield 10, 3) := by decide +kernel
theorem dX11_again_24 : decode cX11_again 24 = .ok (.aload_n 0, 1) := by decide +kernel
theorem dX11_again_25 : decode cX11_again 25 = .ok (.getfield 22, 3) := by decide +kernel
theorem dX11_again_28 : decode cX11_again 28 = .ok (.iload_n 1, 1) := by decide +kernel
theorem dX11_again_29 : decode cX11_again 29 = .ok (.aaload, 1) := by decide +kernel
theorem dX11_again_30 : decode cX11_again 30 = .ok (.invokevirtual 120, 3) := by decide +kernel
theorem dX11_again_33 : decode cX11_again 33 = .ok (.aload_n 0, 1) := by decide +kernel
theorem dX11_again_34 : decode cX11_again 34 = .ok (.getfield 33, 3) := by decide +kernel
theorem dX11_again_37 : decode cX11_again 37 = .ok (.iconst 0, 1) := by decide +kernel
theorem dX11_again_38 : decode cX11_again 38 = .ok (.putfield 318, 3) := by decide +kernel
theorem dX11_again_41 : decode cX11_again 41 = .ok (.iconst 1, 1) := by decide +kernel
theorem dX11_again_42 : decode cX11_again 42 = .ok (.ireturn, 1) := by decide +kernel
theorem dX11_same_0 : decode cX11_same 0 = .ok (.iload_n 1, 1) := by decide +kernel
theorem dX11_same_1 : decode cX11_same 1 = .ok (.ifCond .lt 8, 3) := by decide +kernel
theorem dX11_same_4 : decode cX11_same 4 = .ok (.iload_n 1, 1) := by decide +kernel
theorem dX11_same_5 : decode cX11_same 5 = .ok (.iconst 2, 1) := by decide +kernel
theorem dX11_same_6 : decode cX11_same 6 = .ok (.if_icmp .lt 5, 3) := by decide +kernel
theorem dX11_same_9 : decode cX11_same 9 = .ok (.iconst (-1), 1) := by decide +kernel
theorem dX11_same_10 : decode cX11_same 10 = .ok (.ireturn, 1) := by decide +kernel
theorem dX11_same_11 : decode cX11_same 11 = .ok (.aload_n 0, 1) := by decide +kernel
theorem dX11_same_12 : decode cX11_same 12 = .ok (.getfield 26, 3) := by decide +kernel
theorem dX11_same_15 : decode cX11_same 15 = .ok (.iload_n 1, 1) := by decide +kernel
theorem dX11_same_16 : decode cX11_same 16 = .ok (.baload, 1) := by decide +kernel
theorem dX11_same_17 : decode cX11_same 17 = .ok (.ifCond .ne 6, 3) := by decide +kernel
theorem dX11_same_20 : decode cX11_same 20 = .ok (.bipush (-2), 2) := by decide +kernel
theorem dX11_same_22 : decode cX11_same 22 = .ok (.ireturn, 1) := by decide +kernel
theorem dX11_same_23 : decode cX11_same 23 = .ok (.aload_n 0, 1) := by decide +kernel
theorem dX11_same_24 : decode cX11_same 24 = .ok (.getfield 40, 3) := by decide +kernel
theorem dX11_same_27 : decode cX11_same 27 = .ok (.invokevirtual 141, 3) := by decide +kernel
theorem dX11_same_30 : decode cX11_same 30 = .ok (.aload_n 0, 1) := by decide +kernel
theorem dX11_same_31 : decode cX11_same 31 = .ok (.getfield 40, 3) := by decide +kernel
theorem dX11_same_34 : decode cX11_same 34 = .ok (.aload_n 0, 1) := by decide +kernel
theorem dX11_same_35 : decode cX11_same 35 = .ok (.getfield 22, 3) := by decide +kernel
theorem dX11_same_38 : decode cX11_same 38 = .ok (.iload_n 1, 1) := by decide +kernel
theorem dX11_same_39 : decode cX11_same 39 = .ok (.aaload, 1) := by decide +kernel
theorem dX11_same_40 : decode cX11_same 40 = .ok (.getfield 123, 3) := by decide +kernel
theorem dX11_same_43 : decode cX11_same 43 = .ok (.i2l, 1) := by decide +kernel
theorem dX11_same_44 : decode cX11_same 44 = .ok (.invokevirtual 144, 3) := by decide +kernel
theorem dX11_same_47 : decode cX11_same 47 = .ok (.aload_n 0, 1) := by decide +kernel
theorem dX11_same_48 : decode cX11_same 48 = .ok (.getfield 10, 3) := by decide +kernel
theorem dX11_same_51 : decode cX11_same 51 = .ok (.aload_n 0, 1) := by decide +kernel
theorem dX11_same_52 : decode cX11_same 52 = .ok (.getfield 22, 3) := by decide +kernel
theorem dX11_same_55 : decode cX11_same 55 = .ok (.iload_n 1, 1) := by decide +kernel
theorem dX11_same_56 : decode cX11_same 56 = .ok (.aaload, 1) := by decide +kernel
theorem dX11_same_57 : decode cX11_same 57 = .ok (.invokevirtual 262, 3) := by decide +kernel
theorem dX11_same_60 : decode cX11_same 60 = .ok (.ifCond .eq 7, 3) := by decide +kernel
theorem dX11_same_63 : decode cX11_same 63 = .ok (.iconst 1, 1) := by decide +kernel
theorem dX11_same_64 : decode cX11_same 64 = .ok (.goto 4, 3) := by decide +kernel
theorem dX11_same_67 : decode cX11_same 67 = .ok (.iconst 0, 1) := by decide +kernel
theorem dX11_same_68 : decode cX11_same 68 = .ok (.ireturn, 1) := by decide +kernel
theorem dX11_count_0 : decode cX11_count 0 = .ok (.iload_n 1, 1) := by decide +kernel
theorem dX11_count_1 : decode cX11_count 1 = .ok (.tableswitch 87 0 5 #[39, 47, 55, 63, 71, 79], 39) := by decide +kernel
theorem dX11_count_40 : decode cX11_count 40 = .ok (.aload_n 0, 1) := by decide +kernel
theorem dX11_count_41 : decode cX11_count 41 = .ok (.getfield 10, 3) := by decide +kernel
theorem dX11_count_44 : decode cX11_count 44 = .ok (.getfield 123, 3) := by decide +kernel
theorem dX11_count_47 : decode cX11_count 47 = .ok (.ireturn, 1) := by decide +kernel
theorem dX11_count_48 : decode cX11_count 48 = .ok (.aload_n 0, 1) := by decide +kernel
theorem dX11_count_49 : decode cX11_count 49 = .ok (.getfield 10, 3) := by decide +kernel
theorem dX11_count_52 : decode cX11_count 52 = .ok (.invokevirtual 162, 3) := by decide +kernel
theorem dX11_count_55 : decode cX11_count 55 = .ok (.ireturn, 1) := by decide +kernel
theorem dX11_count_56 : decode cX11_count 56 = .ok (.aload_n 0, 1) := by decide +kernel
theorem dX11_count_57 : decode cX11_count 57 = .ok (.getfield 33, 3) := by decide +kernel
theorem dX11_count_60 : decode cX11_count 60 = .ok (.getfield 318, 3) := by decide +kernel
theorem dX11_count_63 : decode cX11_count 63 = .ok (.ireturn, 1) := by decide +kernel
theorem dX11_count_64 : decode cX11_count 64 = .ok (.aload_n 0, 1) := by decide +kernel
theorem dX11_count_65 : decode cX11_count 65 = .ok (.getfield 54, 3) := by decide +kernel
theorem dX11_count_68 : decode cX11_count 68 = .ok (.getfield 313, 3) := by decide +kernel
theorem dX11_count_71 : decode cX11_count 71 = .ok (.ireturn, 1) := by decide +kernel
theorem dX11_count_72 : decode cX11_count 72 = .ok (.aload_n 0, 1) := by decide +kernel
theorem dX11_count_73 : decode cX11_count 73 = .ok (.getfield 40, 3) := by decide +kernel
theorem dX11_count_76 : decode cX11_count 76 = .ok (.getfield 151, 3) := by decide +kernel
theorem dX11_count_79 : decode cX11_count 79 = .ok (.ireturn, 1) := by decide +kernel
theorem dX11_count_80 : decode cX11_count 80 = .ok (.aload_n 0, 1) := by decide +kernel
theorem dX11_count_81 : decode cX11_count 81 = .ok (.getfield 47, 3) := by decide +kernel
theorem dX11_count_84 : decode cX11_count 84 = .ok (.getfield 319, 3) := by decide +kernel
theorem dX11_count_87 : decode cX11_count 87 = .ok (.ireturn, 1) := by decide +kernel
theorem dX11_count_88 : decode cX11_count 88 = .ok (.iconst (-1), 1) := by decide +kernel
theorem dX11_count_89 : decode cX11_count 89 = .ok (.ireturn, 1) := by decide +kernel
theorem dX11_row_0 : decode cX11_row 0 = .ok (.iload_n 1, 1) := by decide +kernel
theorem dX11_row_1 : decode cX11_row 1 = .ok (.ifCond .lt 14, 3) := by decide +kernel
theorem dX11_row_4 : decode cX11_row 4 = .ok (.iload_n 1, 1) := by decide +kernel
theorem dX11_row_5 : decode cX11_row 5 = .ok (.aload_n 0, 1) := by decide +kernel
theorem dX11_row_6 : decode cX11_row 6 = .ok (.getfield 40, 3) := by decide +kernel
theorem dX11_row_9 : decode cX11_row 9 = .ok (.getfield 151, 3) := by decide +kernel
theorem dX11_row_12 : decode cX11_row 12 = .ok (.if_icmp .lt 11, 3) := by decide +kernel
theorem dX11_row_15 : decode cX11_row 15 = .ok (.new 131, 3) := by decide +kernel
theorem dX11_row_18 : decode cX11_row 18 = .ok (.dup, 1) := by decide +kernel
theorem dX11_row_19 : decode cX11_row 19 = .ok (.invokespecial 133, 3) := by decide +kernel
theorem dX11_row_22 : decode cX11_row 22 = .ok (.athrow, 1) := by decide +kernel
theorem dX11_row_23 : decode cX11_row 23 = .ok (.aload_n 0, 1) := by decide +kernel
theorem dX11_row_24 : decode cX11_row 24 = .ok (.getfield 40, 3) := by decide +kernel
theorem dX11_row_27 : decode cX11_row 27 = .ok (.getfield 322, 3) := by decide +kernel
theorem dX11_row_30 : decode cX11_row 30 = .ok (.iload_n 1, 1) := by decide +kernel
theorem dX11_row_31 : decode cX11_row 31 = .ok (.laload, 1) := by decide +kernel
theorem dX11_row_32 : decode cX11_row 32 = .ok (.lreturn, 1) := by decide +kernel
theorem dX12_init_0 : decode cX12_init 0 = .ok (.aload_n 0, 1) := by decide +kernel
theorem dX12_init_1 : decode cX12_init 1 = .ok (.invokespecial 3, 3) := by decide +kernel
theorem dX12_init_4 : decode cX12_init 4 = .ok (.aload_n 0, 1) := by decide +kernel
theorem dX12_init_5 : decode cX12_init 5 = .ok (.bipush 33, 2) := by decide +kernel
theorem dX12_init_7 : decode cX12_init 7 = .ok (.newarray .int, 2) := by decide +kernel
theorem dX12_init_9 : decode cX12_init 9 = .ok (.putfield 9, 3) := by decide +kernel
theorem dX12_init_12 : decode cX12_init 12 = .ok (.aload_n 0, 1) := by decide +kernel
theorem dX12_init_13 : decode cX12_init 13 = .ok (.bipush 80, 2) := by decide +kernel
theorem dX12_init_15 : decode cX12_init 15 = .ok (.newarray .byte, 2) := by decide +kernel
theorem dX12_init_17 : decode cX12_init 17 = .ok (.putfield 13, 3) := by decide +kernel
theorem dX12_init_20 : decode cX12_init 20 = .ok (.aload_n 0, 1) := by decide +kernel
theorem dX12_init_21 : decode cX12_init 21 = .ok (.bipush 96, 2) := by decide +kernel
theorem dX12_init_23 : decode cX12_init 23 = .ok (.newarray .long, 2) := by decide +kernel
theorem dX12_init_25 : decode cX12_init 25 = .ok (.putfield 17, 3) := by decide +kernel
theorem dX12_init_28 : decode cX12_init 28 = .ok (.aload_n 0, 1) := by decide +kernel
theorem dX12_init_29 : decode cX12_init 29 = .ok (.bipush 64, 2) := by decide +kernel
theorem dX12_init_31 : decode cX12_init 31 = .ok (.newarray .int, 2) := by decide +kernel
theorem dX12_init_33 : decode cX12_init 33 = .ok (.putfield 21, 3) := by decide +kernel
theorem dX12_init_36 : decode cX12_init 36 = .ok (.aload_n 0, 1) := by decide +kernel
theorem dX12_init_37 : decode cX12_init 37 = .ok (.bipush 8, 2) := by decide +kernel
theorem dX12_init_39 : decode cX12_init 39 = .ok (.newarray .int, 2) := by decide +kernel
theorem dX12_init_41 : decode cX12_init 41 = .ok (.putfield 24, 3) := by decide +kernel
theorem dX12_init_44 : decode cX12_init 44 = .ok (.aload_n 0, 1) := by decide +kernel
theorem dX12_init_45 : decode cX12_init 45 = .ok (.bipush 32, 2) := by decide +kernel
theorem dX12_init_47 : decode cX12_init 47 = .ok (.newarray .int, 2) := by decide +kernel
theorem dX12_init_49 : decode cX12_init 49 = .ok (.putfield 27, 3) := by decide +kernel
theorem dX12_init_52 : decode cX12_init 52 = .ok (.aload_n 0, 1) := by decide +kernel
theorem dX12_init_53 : decode cX12_init 53 = .ok (.bipush 8, 2) := by decide +kernel
theorem dX12_init_55 : decode cX12_init 55 = .ok (.newarray .int, 2) := by decide +kernel
theorem dX12_init_57 : decode cX12_init 57 = .ok (.putfield 30, 3) := by decide +kernel
theorem dX12_init_60 : decode cX12_init 60 = .ok (.aload_n 0, 1) := by decide +kernel
theorem dX12_init_61 : decode cX12_init 61 = .ok (.bipush 33, 2) := by decide +kernel
theorem dX12_init_63 : decode cX12_init 63 = .ok (.newarray .int, 2) := by decide +kernel
theorem dX12_init_65 : decode cX12_init 65 = .ok (.putfield 33, 3) := by decide +kernel
theorem dX12_init_68 : decode cX12_init 68 = .ok (.aload_n 0, 1) := by decide +kernel
theorem dX12_init_69 : decode cX12_init 69 = .ok (.bipush 33, 2) := by decide +kernel
theorem dX12_init_71 : decode cX12_init 71 = .ok (.newarray .int, 2) := by decide +kernel
theorem dX12_init_73 : decode cX12_init 73 = .ok (.putfield 36, 3) := by decide +kernel
theorem dX12_init_76 : decode cX12_init 76 = .ok (.aload_n 0, 1) := by decide +kernel
theorem dX12_init_77 : decode cX12_init 77 = .ok (.bipush 32, 2) := by decide +kernel
theorem dX12_init_79 : decode cX12_init 79 = .ok (.newarray .int, 2) := by decide +kernel
theorem dX12_init_81 : decode cX12_init 81 = .ok (.putfield 39, 3) := by decide +kernel
theorem dX12_init_84 : decode cX12_init 84 = .ok (.aload_n 0, 1) := by decide +kernel
theorem dX12_init_85 : decode cX12_init 85 = .ok (.iconst 4, 1) := by decide +kernel
theorem dX12_init_86 : decode cX12_init 86 = .ok (.newarray .int, 2) := by decide +kernel
theorem dX12_init_88 : decode cX12_init 88 = .ok (.putfield 42, 3) := by decide +kernel
theorem dX12_init_91 : decode cX12_init 91 = .ok (.aload_n 0, 1) := by decide +kernel
theorem dX12_init_92 : decode cX12_init 92 = .ok (.bipush 33, 2) := by decide +kernel
theorem dX12_init_94 : decode cX12_init 94 = .ok (.newarray .int, 2) := by decide +kernel
theorem dX12_init_96 : decode cX12_init 96 = .ok (.putfield 45, 3) := by decide +kernel
theorem dX12_init_99 : decode cX12_init 99 = .ok (.aload_n 0, 1) := by decide +kernel
theorem dX12_init_100 : decode cX12_init 100 = .ok (.sipush 128, 3) := by decide +kernel
theorem dX12_init_103 : decode cX12_init 103 = .ok (.newarray .int, 2) := by decide +kernel
theorem dX12_init_105 : decode cX12_init 105 = .ok (.putfield 48, 3) := by decide +kernel
theorem dX12_init_108 : decode cX12_init 108 = .ok (.aload_n 0, 1) := by decide +kernel
theorem dX12_init_109 : decode cX12_init 109 = .ok (.bipush 32, 2) := by decide +kernel
theorem dX12_init_111 : decode cX12_init 111 = .ok (.newarray .int, 2) := by decide +kernel
theorem dX12_init_113 : decode cX12_init 113 = .ok (.putfield 51, 3) := by decide +kernel
theorem dX12_init_116 : decode cX12_init 116 = .ok (.aload_n 0, 1) := by decide +kernel
theorem dX12_init_117 : decode cX12_init 117 = .ok (.bipush 48, 2) := by decide +kernel
theorem dX12_init_119 : decode cX12_init 119 = .ok (.newarray .int, 2) := by decide +kernel
theorem dX12_init_121 : decode cX12_init 121 = .ok (.putfield 54, 3) := by decide +kernel
theorem dX12_init_124 : decode cX12_init 124 = .ok (.aload_n 0, 1) := by decide +kernel
theorem dX12_init_125 : decode cX12_init 125 = .ok (.bipush 8, 2) := by decide +kernel
theorem dX12_init_127 : decode cX12_init 127 = .ok (.newarray .int, 2) := by decide +kernel
theorem dX12_init_129 : decode cX12_init 129 = .ok (.putfield 57, 3) := by decide +kernel
theorem dX12_init_132 : decode cX12_init 132 = .ok (.aload_n 0, 1) := by decide +kernel
theorem dX12_init_133 : decode cX12_init 133 = .ok (.bipush 32, 2) := by decide +kernel
theorem dX12_init_135 : decode cX12_init 135 = .ok (.newarray .int, 2) := by decide +kernel
theorem dX12_init_137 : decode cX12_init 137 = .ok (.putfield 60, 3) := by decide +kernel
theorem dX12_init_140 : decode cX12_init 140 = .ok (.aload_n 0, 1) := by decide +kernel
theorem dX12_init_141 : decode cX12_init 141 = .ok (.sipush 768, 3) := by decide +kernel
theorem dX12_init_144 : decode cX12_init 144 = .ok (.newarray .long, 2) := by decide +kernel
theorem dX12_init_146 : decode cX12_init 146 = .ok (.putfield 63, 3) := by decide +kernel
theorem dX12_init_149 : decode cX12_init 149 = .ok (.aload_n 0, 1) := by decide +kernel
theorem dX12_init_150 : decode cX12_init 150 = .ok (.iconst 4, 1) := by decide +kernel
theorem dX12_init_151 : decode cX12_init 151 = .ok (.newarray .int, 2) := by decide +kernel
theorem dX12_init_153 : decode cX12_init 153 = .ok (.putfield 66, 3) := by decide +kernel
theorem dX12_init_156 : decode cX12_init 156 = .ok (.aload_n 0, 1) := by decide +kernel
theorem dX12_init_157 : decode cX12_init 157 = .ok (.bipush 16, 2) := by decide +kernel
theorem dX12_init_159 : decode cX12_init 159 = .ok (.newarray .int, 2) := by decide +kernel
theorem dX12_init_161 : decode cX12_init 161 = .ok (.putfield 69, 3) := by decide +kernel
theorem dX12_init_164 : decode cX12_init 164 = .ok (.aload_n 0, 1) := by decide +kernel
theorem dX12_init_165 : decode cX12_init 165 = .ok (.bipush 16, 2) := by decide +kernel
theorem dX12_init_167 : decode cX12_init 167 = .ok (.newarray .int, 2) := by decide +kernel
theorem dX12_init_169 : decode cX12_init 169 = .ok (.putfield 72, 3) := by decide +kernel
theorem dX12_init_172 : decode cX12_init 172 = .ok (.aload_n 0, 1) := by decide +kernel
theorem dX12_init_173 : decode cX12_init 173 = .ok (.bipush 8, 2) := by decide +kernel
theorem dX12_init_175 : decode cX12_init 175 = .ok (.newarray .int, 2) := by decide +kernel
theorem dX12_init_177 : decode cX12_init 177 = .ok (.putfield 75, 3) := by decide +kernel
theorem dX12_init_180 : decode cX12_init 180 = .ok (.aload_n 0, 1) := by decide +kernel
theorem dX12_init_181 : decode cX12_init 181 = .ok (.bipush 33, 2) := by decide +kernel
theorem dX12_init_183 : decode cX12_init 183 = .ok (.newarray .int, 2) := by decide +kernel
theorem dX12_init_185 : decode cX12_init 185 = .ok (.putfield 78, 3) := by decide +kernel
theorem dX12_init_188 : decode cX12_init 188 = .ok (.aload_n 0, 1) := by decide +kernel
theorem dX12_init_189 : decode cX12_init 189 = .ok (.iconst 4, 1) := by decide +kernel
theorem dX12_init_190 : decode cX12_init 190 = .ok (.newarray .int, 2) := by decide +kernel
theorem dX12_init_192 : decode cX12_init 192 = .ok (.putfield 81, 3) := by decide +kernel
theorem dX12_init_195 : decode cX12_init 195 = .ok (.aload_n 0, 1) := by decide +kernel
theorem dX12_init_196 : decode cX12_init 196 = .ok (.iconst 4, 1) := by decide +kernel
theorem dX12_init_197 : decode cX12_init 197 = .ok (.newarray .int, 2) := by decide +kernel
theorem dX12_init_199 : decode cX12_init 199 = .ok (.putfield 84, 3) := by decide +kernel
theorem dX12_init_202 : decode cX12_init 202 = .ok (.aload_n 0, 1) := by decide +kernel
theorem dX12_init_203 : decode cX12_init 203 = .ok (.sipush 264, 3) := by decide +kernel
theorem dX12_init_206 : decode cX12_init 206 = .ok (.newarray .int, 2) := by decide +kernel
theorem dX12_init_208 : decode cX12_init 208 = .ok (.putfield 87, 3) := by decide +kernel
theorem dX12_init_211 : decode cX12_init 211 = .ok (.aload_n 0, 1) := by decide +kernel
theorem dX12_init_212 : decode cX12_init 212 = .ok (.bipush 33, 2) := by decide +kernel
theorem dX12_init_214 : decode cX12_init 214 = .ok (.newarray .int, 2) := by decide +kernel
theorem dX12_init_216 : decode cX12_init 216 = .ok (.putfield 90, 3) := by decide +kernel
theorem dX12_init_219 : decode cX12_init 219 = .ok (.aload_n 0, 1) := by decide +kernel
theorem dX12_init_220 : decode cX12_init 220 = .ok (.sipush 320, 3) := by decide +kernel
theorem dX12_init_223 : decode cX12_init 223 = .ok (.newarray .int, 2) := by decide +kernel
theorem dX12_init_225 : decode cX12_init 225 = .ok (.putfield 93, 3) := by decide +kernel
theorem dX12_init_228 : decode cX12_init 228 = .ok (.aload_n 0, 1) := by decide +kernel
theorem dX12_init_229 : decode cX12_init 229 = .ok (.sipush 4950, 3) := by decide +kernel
theorem dX12_init_232 : decode cX12_init 232 = .ok (.newarray .int, 2) := by decide +kernel
theorem dX12_init_234 : decode cX12_init 234 = .ok (.putfield 96, 3) := by decide +kernel
theorem dX12_init_237 : decode cX12_init 237 = .ok (.aload_n 0, 1) := by decide +kernel
theorem dX12_init_238 : decode cX12_init 238 = .ok (.sipush 150, 3) := by decide +kernel
theorem dX12_init_241 : decode cX12_init 241 = .ok (.newarray .int, 2) := by decide +kernel
theorem dX12_init_243 : decode cX12_init 243 = .ok (.putfield 99, 3) := by decide +kernel
theorem dX12_init_246 : decode cX12_init 246 = .ok (.aload_n 0, 1) := by decide +kernel
theorem dX12_init_247 : decode cX12_init 247 = .ok (.iconst 4, 1) := by decide +kernel
theorem dX12_init_248 : decode cX12_init 248 = .ok (.newarray .int, 2) := by decide +kernel
theorem dX12_init_250 : decode cX12_init 250 = .ok (.putfield 102, 3) := by decide +kernel
theorem dX12_init_253 : decode cX12_init 253 = .ok (.aload_n 0, 1) := by decide +kernel
theorem dX12_init_254 : decode cX12_init 254 = .ok (.bipush 66, 2) := by decide +kernel
theorem dX12_init_256 : decode cX12_init 256 = .ok (.newarray .int, 2) := by decide +kernel
theorem dX12_init_258 : decode cX12_init 258 = .ok (.putfield 105, 3) := by decide +kernel
theorem dX12_init_261 : decode cX12_init 261 = .ok (.aload_n 0, 1) := by decide +kernel
theorem dX12_init_262 : decode cX12_init 262 = .ok (.iconst 2, 1) := by decide +kernel
theorem dX12_init_263 : decode cX12_init 263 = .ok (.newarray .boolean, 2) := by decide +kernel
theorem dX12_init_265 : decode cX12_init 265 = .ok (.putfield 108, 3) := by decide +kernel
theorem dX12_init_268 : decode cX12_init 268 = .ok (.aload_n 0, 1) := by decide +kernel
theorem dX12_init_269 : decode cX12_init 269 = .ok (.bipush 33, 2) := by decide +kernel
theorem dX12_init_271 : decode cX12_init 271 = .ok (.newarray .int, 2) := by decide +kernel
theorem dX12_init_273 : decode cX12_init 273 = .ok (.putfield 112, 3) := by decide +kernel
theorem dX12_init_276 : decode cX12_init 276 = .ok (.aload_n 0, 1) := by decide +kernel
theorem dX12_init_277 : decode cX12_init 277 = .ok (.bipush 33, 2) := by decide +kernel
theorem dX12_init_279 : decode cX12_init 279 = .ok (.newarray .int, 2) := by decide +kernel
theorem dX12_init_281 : decode cX12_init 281 = .ok (.putfield 115, 3) := by decide +kernel
theorem dX12_init_284 : decode cX12_init 284 = .ok (.aload_n 0, 1) := by decide +kernel
theorem dX12_init_285 : decode cX12_init 285 = .ok (.bipush 8, 2) := by decide +kernel
theorem dX12_init_287 : decode cX12_init 287 = .ok (.newarray .int, 2) := by decide +kernel
theorem dX12_init_289 : decode cX12_init 289 = .ok (.putfield 118, 3) := by decide +kernel
theorem dX12_init_292 : decode cX12_init 292 = .ok (.aload_n 0, 1) := by decide +kernel
theorem dX12_init_293 : decode cX12_init 293 = .ok (.bipush 8, 2) := by decide +kernel
theorem dX12_init_295 : decode cX12_init 295 = .ok (.newarray .int, 2) := by decide +kernel
theorem dX12_init_297 : decode cX12_init 297 = .ok (.putfield 121, 3) := by decide +kernel
theorem dX12_init_300 : decode cX12_init 300 = .ok (.iconst 0, 1) := by decide +kernel
theorem dX12_init_301 : decode cX12_init 301 = .ok (.istore_n 1, 1) := by decide +kernel
theorem dX12_init_302 : decode cX12_init 302 = .ok (.iload_n 1, 1) := by decide +kernel
theorem dX12_init_303 : decode cX12_init 303 = .ok (.bipush 24, 2) := by decide +kernel
theorem dX12_init_305 : decode cX12_init 305 = .ok (.if_icmp .ge 37, 3) := by decide +kernel
theorem dX12_init_308 : decode cX12_init 308 = .ok (.aload_n 0, 1) := by decide +kernel
theorem dX12_init_309 : decode cX12_init 309 = .ok (.getfield 21, 3) := by decide +kernel
theorem dX12_init_312 : decode cX12_init 312 = .ok (.bipush 16, 2) := by decide +kernel
theorem dX12_init_314 : decode cX12_init 314 = .ok (.iload_n 1, 1) := by decide +kernel
theorem dX12_init_315 : decode cX12_init 315 = .ok (.iconst 0, 1) := by decide +kernel
theorem dX12_init_316 : decode cX12_init 316 = .ok (.invokestatic 124, 3) := by decide +kernel
theorem dX12_init_319 : decode cX12_init 319 = .ok (.imul, 1) := by decide +kernel
theorem dX12_init_320 : decode cX12_init 320 = .ok (.iconst 4, 1) := by decide +kernel
theorem dX12_init_321 : decode cX12_init 321 = .ok (.iload_n 1, 1) := by decide +kernel
theorem dX12_init_322 : decode cX12_init 322 = .ok (.iconst 1, 1) := by decide +kernel
theorem dX12_init_323 : decode cX12_init 323 = .ok (.invokestatic 124, 3) := by decide +kernel
theorem dX12_init_326 : decode cX12_init 326 = .ok (.imul, 1) := by decide +kernel
theorem dX12_init_327 : decode cX12_init 327 = .ok (.iadd, 1) := by decide +kernel
theorem dX12_init_328 : decode cX12_init 328 = .ok (.iload_n 1, 1) := by decide +kernel
theorem dX12_init_329 : decode cX12_init 329 = .ok (.iconst 2, 1) := by decide +kernel
theorem dX12_init_330 : decode cX12_init 330 = .ok (.invokestatic 124, 3) := by decide +kernel
theorem dX12_init_333 : decode cX12_init 333 = .ok (.iadd, 1) := by decide +kernel
theorem dX12_init_334 : decode cX12_init 334 = .ok (.iload_n 1, 1) := by decide +kernel
theorem dX12_init_335 : decode cX12_init 335 = .ok (.iastore, 1) := by decide +kernel
theorem dX12_init_336 : decode cX12_init 336 = .ok (.iinc 1 1, 3) := by decide +kernel
theorem dX12_init_339 : decode cX12_init 339 = .ok (.goto (-37), 3) := by decide +kernel
theorem dX12_init_342 : decode cX12_init 342 = .ok (.aload_n 0, 1) := by decide +kernel
theorem dX12_init_343 : decode cX12_init 343 = .ok (.getfield 9, 3) := by decide +kernel
theorem dX12_init_346 : decode cX12_init 346 = .ok (.iconst 0, 1) := by decide +kernel
theorem dX12_init_347 : decode cX12_init 347 = .ok (.iconst 1, 1) := by decide +kernel
theorem dX12_init_348 : decode cX12_init 348 = .ok (.iastore, 1) := by decide +kernel
theorem dX12_init_349 : decode cX12_init 349 = .ok (.iconst 1, 1) := by decide +kernel
theorem dX12_init_350 : decode cX12_init 350 = .ok (.istore_n 1, 1) := by decide +kernel
theorem dX12_init_351 : decode cX12_init 351 = .ok (.iload_n 1, 1) := by decide +kernel
theorem dX12_init_352 : decode cX12_init 352 = .ok (.bipush 33, 2) := by decide +kernel
theorem dX12_init_354 : decode cX12_init 354 = .ok (.if_icmp .ge 16, 3) := by decide +kernel
theorem dX12_init_357 : decode cX12_init 357 = .ok (.aload_n 0, 1) := by decide +kernel
theorem dX12_init_358 : decode cX12_init 358 = .ok (.getfield 9, 3) := by decide +kernel
theorem dX12_init_361 : decode cX12_init 361 = .ok (.iload_n 1, 1) := by decide +kernel
theorem dX12_init_362 : decode cX12_init 362 = .ok (.iconst (-1), 1) := by decide +kernel
theorem dX12_init_363 : decode cX12_init 363 = .ok (.iastore, 1) := by decide +kernel
theorem dX12_init_364 : decode cX12_init 364 = .ok (.iinc 1 1, 3) := by decide +kernel
theorem dX12_init_367 : decode cX12_init 367 = .ok (.goto (-16), 3) := by decide +kernel
theorem dX12_init_370 : decode cX12_init 370 = .ok (.return_, 1) := by decide +kernel
theorem dX12_thrown_0 : decode cX12_thrown 0 = .ok (.aload_n 0, 1) := by decide +kernel
theorem dX12_thrown_1 : decode cX12_thrown 1 = .ok (.getfield 128, 3) := by decide +kernel
theorem dX12_thrown_4 : decode cX12_thrown 4 = .ok (.ireturn, 1) := by decide +kernel
theorem dX12_in_0 : decode cX12_in 0 = .ok (.iload_n 0, 1) := by decide +kernel
theorem dX12_in_1 : decode cX12_in 1 = .ok (.iload_n 1, 1) := by decide +kernel
theorem dX12_in_2 : decode cX12_in 2 = .ok (.if_icmp .lt 12, 3) := by decide +kernel
theorem dX12_in_5 : decode cX12_in 5 = .ok (.iload_n 0, 1) := by decide +kernel
theorem dX12_in_6 : decode cX12_in 6 = .ok (.iload_n 2, 1) := by decide +kernel
theorem dX12_in_7 : decode cX12_in 7 = .ok (.if_icmp .gt 7, 3) := by decide +kernel
theorem dX12_in_10 : decode cX12_in 10 = .ok (.iconst 1, 1) := by decide +kernel
theorem dX12_in_11 : decode cX12_in 11 = .ok (.goto 4, 3) := by decide +kernel
theorem dX12_in_14 : decode cX12_in 14 = .ok (.iconst 0, 1) := by decide +kernel
theorem dX12_in_15 : decode cX12_in 15 = .ok (.ireturn, 1) := by decide +kernel
theorem dX12_lost_0 : decode cX12_lost 0 = .ok (.aload_n 0, 1) := by decide +kernel
theorem dX12_lost_1 : decode cX12_lost 1 = .ok (.iconst 1, 1) := by decide +kernel
theorem dX12_lost_2 : decode cX12_lost 2 = .ok (.putfield 128, 3) := by decide +kernel
theorem dX12_lost_5 : decode cX12_lost 5 = .ok (.iconst 0, 1) := by decide +kernel
theorem dX12_lost_6 : decode cX12_lost 6 = .ok (.ireturn, 1) := by decide +kernel
theorem dX12_tell_0 : decode cX12_tell 0 = .ok (.aload_n 0, 1) := by decide +kernel
theorem dX12_tell_1 : decode cX12_tell 1 = .ok (.getfield 17, 3) := by decide +kernel
theorem dX12_tell_4 : decode cX12_tell 4 = .ok (.aload_n 0, 1) := by decide +kernel
theorem dX12_tell_5 : decode cX12_tell 5 = .ok (.getfield 132, 3) := by decide +kernel
theorem dX12_tell_8 : decode cX12_tell 8 = .ok (.lload_n 1, 1) := by decide +kernel
theorem dX12_tell_9 : decode cX12_tell 9 = .ok (.lastore, 1) := by decide +kernel
theorem dX12_tell_10 : decode cX12_tell 10 = .ok (.aload_n 0, 1) := by decide +kernel
theorem dX12_tell_11 : decode cX12_tell 11 = .ok (.dup, 1) := by decide +kernel
theorem dX12_tell_12 : decode cX12_tell 12 = .ok (.getfield 132, 3) := by decide +kernel
theorem dX12_tell_15 : decode cX12_tell 15 = .ok (.iconst 1, 1) := by decide +kernel
theorem dX12_tell_16 : decode cX12_tell 16 = .ok (.iadd, 1) := by decide +kernel
theorem dX12_tell_17 : decode cX12_tell 17 = .ok (.putfield 132, 3) := by decide +kernel
theorem dX12_tell_20 : decode cX12_tell 20 = .ok (.return_, 1) := by decide +kernel
theorem dX12_image_0 : decode cX12_image 0 = .ok (.getstatic 135, 3) := by decide +kernel
theorem dX12_image_3 : decode cX12_image 3 = .ok (.iconst 4, 1) := by decide +kernel
theorem dX12_image_4 : decode cX12_image 4 = .ok (.iload_n 0, 1) := by decide +kernel
theorem dX12_image_5 : decode cX12_image 5 = .ok (.imul, 1) := by decide +kernel
theorem dX12_image_6 : decode cX12_image 6 = .ok (.iload_n 1, 1) := by decide +kernel
theorem dX12_image_7 : decode cX12_image 7 = .ok (.iadd, 1) := by decide +kernel
theorem dX12_image_8 : decode cX12_image 8 = .ok (.iaload, 1) := by decide +kernel
theorem dX12_image_9 : decode cX12_image 9 = .ok (.ireturn, 1) := by decide +kernel
theorem dX12_permOf_0 : decode cX12_permOf 0 = .ok (.aload_n 0, 1) := by decide +kernel
theorem dX12_permOf_1 : decode cX12_permOf 1 = .ok (.getfield 21, 3) := by decide +kernel
theorem dX12_permOf_4 : decode cX12_permOf 4 = .ok (.bipush 16, 2) := by decide +kernel
theorem dX12_permOf_6 : decode cX12_permOf 6 = .ok (.iload_n 1, 1) := by decide +kernel
theorem dX12_permOf_7 : decode cX12_permOf 7 = .ok (.imul, 1) := by decide +kernel
theorem dX12_permOf_8 : decode cX12_permOf 8 = .ok (.iconst 4, 1) := by decide +kernel
theorem dX12_permOf_9 : decode cX12_permOf 9 = .ok (.iload_n 2, 1) := by decide +kernel
theorem dX12_permOf_10 : decode cX12_permOf 10 = .ok (.imul, 1) := by decide +kernel
theorem dX12_permOf_11 : decode cX12_permOf 11 = .ok (.iadd, 1) := by decide +kernel
theorem dX12_permOf_12 : decode cX12_permOf 12 = .ok (.iload_n 3, 1) := by decide +kernel
theorem dX12_permOf_13 : decode cX12_permOf 13 = .ok (.iadd, 1) := by decide +kernel
theorem dX12_permOf_14 : decode cX12_permOf 14 = .ok (.iaload, 1) := by decide +kernel
theorem dX12_permOf_15 : decode cX12_permOf 15 = .ok (.ireturn, 1) := by decide +kernel
theorem dX12_inverse_0 : decode cX12_inverse 0 = .ok (.iconst 0, 1) := by decide +kernel
theorem dX12_inverse_1 : decode cX12_inverse 1 = .ok (.istore_n 1, 1) := by decide +kernel
theorem dX12_inverse_2 : decode cX12_inverse 2 = .ok (.iload_n 1, 1) := by decide +kernel
theorem dX12_inverse_3 : decode cX12_inverse 3 = .ok (.bipush 24, 2) := by decide +kernel
theorem dX12_inverse_5 : decode cX12_inverse 5 = .ok (.if_icmp .ge 53, 3) := by decide +kernel
theorem dX12_inverse_8 : decode cX12_inverse 8 = .ok (.iconst 1, 1) := by decide +kernel
theorem dX12_inverse_9 : decode cX12_inverse 9 = .ok (.istore_n 2, 1) := by decide +kernel
theorem dX12_inverse_10 : decode cX12_inverse 10 = .ok (.iconst 0, 1) := by decide +kernel
theorem dX12_inverse_11 : decode cX12_inverse 11 = .ok (.istore_n 3, 1) := by decide +kernel
theorem dX12_inverse_12 : decode cX12_inverse 12 = .ok (.iload_n 3, 1) := by decide +kernel
theorem dX12_inverse_13 : decode cX12_inverse 13 = .ok (.iconst 4, 1) := by decide +kernel
theorem dX12_inverse_14 : decode cX12_inverse 14 = .ok (.if_icmp .ge 32, 3) := by decide +kernel
theorem dX12_inverse_17 : decode cX12_inverse 17 = .ok (.iload_n 2, 1) := by decide +kernel
theorem dX12_inverse_18 : decode cX12_inverse 18 = .ok (.ifCond .eq 20, 3) := by decide +kernel
theorem dX12_inverse_21 : decode cX12_inverse 21 = .ok (.iload_n 1, 1) := by decide +kernel
theorem dX12_inverse_22 : decode cX12_inverse 22 = .ok (.iload_n 0, 1) := by decide +kernel
theorem dX12_inverse_23 : decode cX12_inverse 23 = .ok (.iload_n 3, 1) := by decide +kernel
theorem dX12_inverse_24 : decode cX12_inverse 24 = .ok (.invokestatic 124, 3) := by decide +kernel
theorem dX12_inverse_27 : decode cX12_inverse 27 = .ok (.invokestatic 124, 3) := by decide +kernel
theorem dX12_inverse_30 : decode cX12_inverse 30 = .ok (.iload_n 3, 1) := by decide +kernel
theorem dX12_inverse_31 : decode cX12_inverse 31 = .ok (.if_icmp .ne 7, 3) := by decide +kernel
theorem dX12_inverse_34 : decode cX12_inverse 34 = .ok (.iconst 1, 1) := by decide +kernel
theorem dX12_inverse_35 : decode cX12_inverse 35 = .ok (.goto 4, 3) := by decide +kernel
theorem dX12_inverse_38 : decode cX12_inverse 38 = .ok (.iconst 0, 1) := by decide +kernel
theorem dX12_inverse_39 : decode cX12_inverse 39 = .ok (.istore_n 2, 1) := by decide +kernel
theorem dX12_inverse_40 : decode cX12_inverse 40 = .ok (.iinc 3 1, 3) := by decide +kernel
theorem dX12_inverse_43 : decode cX12_inverse 43 = .ok (.goto (-31), 3) := by decide +kernel
theorem dX12_inverse_46 : decode cX12_inverse 46 = .ok (.iload_n 2, 1) := by decide +kernel
theorem dX12_inverse_47 : decode cX12_inverse 47 = .ok (.ifCond .eq 5, 3) := by decide +kernel
theorem dX12_inverse_50 : decode cX12_inverse 50 = .ok (.iload_n 1, 1) := by decide +kernel
theorem dX12_inverse_51 : decode cX12_inverse 51 = .ok (.ireturn, 1) := by decide +kernel
theorem dX12_inverse_52 : decode cX12_inverse 52 = .ok (.iinc 1 1, 3) := by decide +kernel
theorem dX12_inverse_55 : decode cX12_inverse 55 = .ok (.goto (-53), 3) := by decide +kernel
theorem dX12_inverse_58 : decode cX12_inverse 58 = .ok (.iconst (-1), 1) := by decide +kernel
theorem dX12_inverse_59 : decode cX12_inverse 59 = .ok (.ireturn, 1) := by decide +kernel
theorem dX12_isEven_0 : decode cX12_isEven 0 = .ok (.iconst 0, 1) := by decide +kernel
theorem dX12_isEven_1 : decode cX12_isEven 1 = .ok (.istore_n 1, 1) := by decide +kernel
theorem dX12_isEven_2 : decode cX12_isEven 2 = .ok (.iconst 0, 1) := by decide +kernel
theorem dX12_isEven_3 : decode cX12_isEven 3 = .ok (.istore_n 2, 1) := by decide +kernel
theorem dX12_isEven_4 : decode cX12_isEven 4 = .ok (.iload_n 2, 1) := by decide +kernel
theorem dX12_isEven_5 : decode cX12_isEven 5 = .ok (.iconst 4, 1) := by decide +kernel
theorem dX12_isEven_6 : decode cX12_isEven 6 = .ok (.if_icmp .ge 45, 3) := by decide +kernel
theorem dX12_isEven_9 : decode cX12_isEven 9 = .ok (.iload_n 2, 1) := by decide +kernel
theorem dX12_isEven_10 : decode cX12_isEven 10 = .ok (.iconst 1, 1) := by decide +kernel
theorem dX12_isEven_11 : decode cX12_isEven 11 = .ok (.iadd, 1) := by decide +kernel
theorem dX12_isEven_12 : decode cX12_isEven 12 = .ok (.istore_n 3, 1) := by decide +kernel
theorem dX12_isEven_13 : decode cX12_isEven 13 = .ok (.iload_n 3, 1) := by decide +kernel
theorem dX12_isEven_14 : decode cX12_isEven 14 = .ok (.iconst 4, 1) := by decide +kernel
theorem dX12_isEven_15 : decode cX12_isEven 15 = .ok (.if_icmp .ge 30, 3) := by decide +kernel
theorem dX12_isEven_18 : decode cX12_isEven 18 = .ok (.iload_n 1, 1) := by decide +kernel
theorem dX12_isEven_19 : decode cX12_isEven 19 = .ok (.iload_n 0, 1) := by decide +kernel
theorem dX12_isEven_20 : decode cX12_isEven 20 = .ok (.iload_n 2, 1) := by decide +kernel
theorem dX12_isEven_21 : decode cX12_isEven 21 = .ok (.invokestatic 124, 3) := by decide +kernel
theorem dX12_isEven_24 : decode cX12_isEven 24 = .ok (.iload_n 0, 1) := by decide +kernel
theorem dX12_isEven_25 : decode cX12_isEven 25 = .ok (.iload_n 3, 1) := by decide +kernel
theorem dX12_isEven_26 : decode cX12_isEven 26 = .ok (.invokestatic 124, 3) := by decide +kernel
theorem dX12_isEven_29 : decode cX12_isEven 29 = .ok (.if_icmp .le 7, 3) := by decide +kernel
theorem dX12_isEven_32 : decode cX12_isEven 32 = .ok (.iconst 1, 1) := by decide +kernel
theorem dX12_isEven_33 : decode cX12_isEven 33 = .ok (.goto 4, 3) := by decide +kernel
theorem dX12_isEven_36 : decode cX12_isEven 36 = .ok (.iconst 0, 1) := by decide +kernel
theorem dX12_isEven_37 : decode cX12_isEven 37 = .ok (.iadd, 1) := by decide +kernel
theorem dX12_isEven_38 : decode cX12_isEven 38 = .ok (.istore_n 1, 1) := by decide +kernel
theorem dX12_isEven_39 : decode cX12_isEven 39 = .ok (.iinc 3 1, 3) := by decide +kernel
theorem dX12_isEven_42 : decode cX12_isEven 42 = .ok (.goto (-29), 3) := by decide +kernel
theorem dX12_isEven_45 : decode cX12_isEven 45 = .ok (.iinc 2 1, 3) := by decide +kernel
theorem dX12_isEven_48 : decode cX12_isEven 48 = .ok (.goto (-44), 3) := by decide +kernel
theorem dX12_isEven_51 : decode cX12_isEven 51 = .ok (.iload_n 1, 1) := by decide +kernel
theorem dX12_isEven_52 : decode cX12_isEven 52 = .ok (.iconst 2, 1) := by decide +kernel
theorem dX12_isEven_53 : decode cX12_isEven 53 = .ok (.irem, 1) := by decide +kernel
theorem dX12_isEven_54 : decode cX12_isEven 54 = .ok (.ifCond .ne 7, 3) := by decide +kernel
theorem dX12_isEven_57 : decode cX12_isEven 57 = .ok (.iconst 1, 1) := by decide +kernel
theorem dX12_isEven_58 : decode cX12_isEven 58 = .ok (.goto 4, 3) := by decide +kernel
theorem dX12_isEven_61 : decode cX12_isEven 61 = .ok (.iconst 0, 1) := by decide +kernel
theorem dX12_isEven_62 : decode cX12_isEven 62 = .ok (.ireturn, 1) := by decide +kernel
theorem dX12_glue_0 : decode cX12_glue 0 = .ok (.aload_n 0, 1) := by decide +kernel
theorem dX12_glue_1 : decode cX12_glue 1 = .ok (.iconst 1, 1) := by decide +kernel
theorem dX12_glue_2 : decode cX12_glue 2 = .ok (.iconst 4, 1) := by decide +kernel
theorem dX12_glue_3 : decode cX12_glue 3 = .ok (.iload_n 1, 1) := by decide +kernel
theorem dX12_glue_4 : decode cX12_glue 4 = .ok (.imul, 1) := by decide +kernel
theorem dX12_glue_5 : decode cX12_glue 5 = .ok (.iadd, 1) := by decide +kernel
theorem dX12_glue_6 : decode cX12_glue 6 = .ok (.iload_n 2, 1) := by decide +kernel
theorem dX12_glue_7 : decode cX12_glue 7 = .ok (.iadd, 1) := by decide +kernel
theorem dX12_glue_8 : decode cX12_glue 8 = .ok (.iaload, 1) := by decide +kernel
theorem dX12_glue_9 : decode cX12_glue 9 = .ok (.ireturn, 1) := by decide +kernel
theorem dX12_put_0 : decode cX12_put 0 = .ok (.aload_n 0, 1) := by decide +kernel
theorem dX12_put_1 : decode cX12_put 1 = .ok (.iconst 1, 1) := by decide +kernel
theorem dX12_put_2 : decode cX12_put 2 = .ok (.iconst 4, 1) := by decide +kernel
theorem dX12_put_3 : decode cX12_put 3 = .ok (.iload_n 1, 1) := by decide +kernel
theorem dX12_put_4 : decode cX12_put 4 = .ok (.imul, 1) := by decide +kernel
theorem dX12_put_5 : decode cX12_put 5 = .ok (.iadd, 1) := by decide +kernel
theorem dX12_put_6 : decode cX12_put 6 = .ok (.iload_n 2, 1) := by decide +kernel
theorem dX12_put_7 : decode cX12_put 7 = .ok (.iadd, 1) := by decide +kernel
theorem dX12_put_8 : decode cX12_put 8 = .ok (.iload_n 3, 1) := by decide +kernel
theorem dX12_put_9 : decode cX12_put 9 = .ok (.iastore, 1) := by decide +kernel
theorem dX12_put_10 : decode cX12_put 10 = .ok (.return_, 1) := by decide +kernel
theorem dX12_join_0 : decode cX12_join 0 = .ok (.aload_n 0, 1) := by decide +kernel
theorem dX12_join_1 : decode cX12_join 1 = .ok (.iload_n 1, 1) := by decide +kernel
theorem dX12_join_2 : decode cX12_join 2 = .ok (.iload_n 2, 1) := by decide +kernel
theorem dX12_join_3 : decode cX12_join 3 = .ok (.bipush 24, 2) := by decide +kernel
theorem dX12_join_5 : decode cX12_join 5 = .ok (.iload_n 3, 1) := by decide +kernel
theorem dX12_join_6 : decode cX12_join 6 = .ok (.imul, 1) := by decide +kernel
theorem dX12_join_7 : decode cX12_join 7 = .ok (.iload 4, 2) := by decide +kernel
theorem dX12_join_9 : decode cX12_join 9 = .ok (.iadd, 1) := by decide +kernel
theorem dX12_join_10 : decode cX12_join 10 = .ok (.invokestatic 138, 3) := by decide +kernel
theorem dX12_join_13 : decode cX12_join 13 = .ok (.aload_n 0, 1) := by decide +kernel
theorem dX12_join_14 : decode cX12_join 14 = .ok (.iload_n 3, 1) := by decide +kernel
theorem dX12_join_15 : decode cX12_join 15 = .ok (.iload 4, 2) := by decide +kernel
theorem dX12_join_17 : decode cX12_join 17 = .ok (.iload_n 2, 1) := by decide +kernel
theorem dX12_join_18 : decode cX12_join 18 = .ok (.invokestatic 124, 3) := by decide +kernel
theorem dX12_join_21 : decode cX12_join 21 = .ok (.bipush 24, 2) := by decide +kernel
theorem dX12_join_23 : decode cX12_join 23 = .ok (.iload_n 1, 1) := by decide +kernel
theorem dX12_join_24 : decode cX12_join 24 = .ok (.imul, 1) := by decide +kernel
theorem dX12_join_25 : decode cX12_join 25 = .ok (.iload 4, 2) := by decide +kernel
theorem dX12_join_27 : decode cX12_join 27 = .ok (.invokestatic 142, 3) := by decide +kernel
theorem dX12_join_30 : decode cX12_join 30 = .ok (.iadd, 1) := by decide +kernel
theorem dX12_join_31 : decode cX12_join 31 = .ok (.invokestatic 138, 3) := by decide +kernel
theorem dX12_join_34 : decode cX12_join 34 = .ok (.return_, 1) := by decide +kernel
theorem dX12_freeMany_0 : decode cX12_freeMany 0 = .ok (.iconst 0, 1) := by decide +kernel
theorem dX12_freeMany_1 : decode cX12_freeMany 1 = .ok (.istore_n 1, 1) := by decide +kernel
theorem dX12_freeMany_2 : decode cX12_freeMany 2 = .ok (.iconst 1, 1) := by decide +kernel
theorem dX12_freeMany_3 : decode cX12_freeMany 3 = .ok (.istore_n 2, 1) := by decide +kernel
theorem dX12_freeMany_4 : decode cX12_freeMany 4 = .ok (.iload_n 2, 1) := by decide +kernel
theorem dX12_freeMany_5 : decode cX12_freeMany 5 = .ok (.iconst 4, 1) := by decide +kernel
theorem dX12_freeMany_6 : decode cX12_freeMany 6 = .ok (.aload_n 0, 1) := by decide +kernel
theorem dX12_freeMany_7 : decode cX12_freeMany 7 = .ok (.iconst 0, 1) := by decide +kernel
theorem dX12_freeMany_8 : decode cX12_freeMany 8 = .ok (.iaload, 1) := by decide +kernel
theorem dX12_freeMany_9 : decode cX12_freeMany 9 = .ok (.imul, 1) := by decide +kernel
theorem dX12_freeMany_10 : decode cX12_freeMany 10 = .ok (.if_icmp .gt 24, 3) := by decide +kernel
theorem dX12_freeMany_13 : decode cX12_freeMany 13 = .ok (.iload_n 1, 1) := by decide +kernel
theorem dX12_freeMany_14 : decode cX12_freeMany 14 = .ok (.aload_n 0, 1) := by decide +kernel
theorem dX12_freeMany_15 : decode cX12_freeMany 15 = .ok (.iload_n 2, 1) := by decide +kernel
theorem dX12_freeMany_16 : decode cX12_freeMany 16 = .ok (.iaload, 1) := by decide +kernel
theorem dX12_freeMany_17 : decode cX12_freeMany 17 = .ok (.iconst (-1), 1) := by decide +kernel
theorem dX12_freeMany_18 : decode cX12_freeMany 18 = .ok (.if_icmp .ne 7, 3) := by decide +kernel
theorem dX12_freeMany_21 : decode cX12_freeMany 21 = .ok (.iconst 1, 1) := by decide +kernel
theorem dX12_freeMany_22 : decode cX12_freeMany 22 = .ok (.goto 4, 3) := by decide +kernel
theorem dX12_freeMany_25 : decode cX12_freeMany 25 = .ok (.iconst 0, 1) := by decide +kernel
theorem dX12_freeMany_26 : decode cX12_freeMany 26 = .ok (.iadd, 1) := by decide +kernel
theorem dX12_freeMany_27 : decode cX12_freeMany 27 = .ok (.istore_n 1, 1) := by decide +kernel
theorem dX12_freeMany_28 : decode cX12_freeMany 28 = .ok (.iinc 2 1, 3) := by decide +kernel
theorem dX12_freeMany_31 : decode cX12_freeMany 31 = .ok (.goto (-27), 3) := by decide +kernel
theorem dX12_freeMany_34 : decode cX12_freeMany 34 = .ok (.iload_n 1, 1) := by decide +kernel
theorem dX12_freeMany_35 : decode cX12_freeMany 35 = .ok (.ireturn, 1) := by decide +kernel
theorem dX12_lay_0 : decode cX12_lay 0 = .ok (.iconst 0, 1) := by decide +kernel
theorem dX12_lay_1 : decode cX12_lay 1 = .ok (.istore_n 2, 1) := by decide +kernel
theorem dX12_lay_2 : decode cX12_lay 2 = .ok (.iload_n 2, 1) := by decide +kernel
theorem dX12_lay_3 : decode cX12_lay 3 = .ok (.bipush 33, 2) := by decide +kernel
theorem dX12_lay_5 : decode cX12_lay 5 = .ok (.if_icmp .ge 15, 3) := by decide +kernel
theorem dX12_lay_8 : decode cX12_lay 8 = .ok (.aload_n 1, 1) := by decide +kernel
theorem dX12_lay_9 : decode cX12_lay 9 = .ok (.iload_n 2, 1) := by decide +kernel
theorem dX12_lay_10 : decode cX12_lay 10 = .ok (.aload_n 0, 1) := by decide +kernel
theorem dX12_lay_11 : decode cX12_lay 11 = .ok (.iload_n 2, 1) := by decide +kernel
theorem dX12_lay_12 : decode cX12_lay 12 = .ok (.iaload, 1) := by decide +kernel
theorem dX12_lay_13 : decode cX12_lay 13 = .ok (.iastore, 1) := by decide +kernel
theorem dX12_lay_14 : decode cX12_lay 14 = .ok (.iinc 2 1, 3) := by decide +kernel
theorem dX12_lay_17 : decode cX12_lay 17 = .ok (.goto (-15), 3) := by decide +kernel
theorem dX12_lay_20 : decode cX12_lay 20 = .ok (.return_, 1) := by decide +kernel
theorem dX12_areAlike_0 : decode cX12_areAlike 0 = .ok (.iconst 0, 1) := by decide +kernel
theorem dX12_areAlike_1 : decode cX12_areAlike 1 = .ok (.istore_n 2, 1) := by decide +kernel
theorem dX12_areAlike_2 : decode cX12_areAlike 2 = .ok (.iload_n 2, 1) := by decide +kernel
theorem dX12_areAlike_3 : decode cX12_areAlike 3 = .ok (.bipush 33, 2) := by decide +kernel
theorem dX12_areAlike_5 : decode cX12_areAlike 5 = .ok (.if_icmp .ge 20, 3) := by decide +kernel
theorem dX12_areAlike_8 : decode cX12_areAlike 8 = .ok (.aload_n 0, 1) := by decide +kernel
theorem dX12_areAlike_9 : decode cX12_areAlike 9 = .ok (.iload_n 2, 1) := by decide +kernel
theorem dX12_areAlike_10 : decode cX12_areAlike 10 = .ok (.iaload, 1) := by decide +kernel
theorem dX12_areAlike_11 : decode cX12_areAlike 11 = .ok (.aload_n 1, 1) := by decide +kernel
theorem dX12_areAlike_12 : decode cX12_areAlike 12 = .ok (.iload_n 2, 1) := by decide +kernel
theorem dX12_areAlike_13 : decode cX12_areAlike 13 = .ok (.iaload, 1) := by decide +kernel
theorem dX12_areAlike_14 : decode cX12_areAlike 14 = .ok (.if_icmp .eq 5, 3) := by decide +kernel
theorem dX12_areAlike_17 : decode cX12_areAlike 17 = .ok (.iconst 0, 1) := by decide +kernel
theorem dX12_areAlike_18 : decode cX12_areAlike 18 = .ok (.ireturn, 1) := by decide +kernel
theorem dX12_areAlike_19 : decode cX12_areAlike 19 = .ok (.iinc 2 1, 3) := by decide +kernel
theorem dX12_areAlike_22 : decode cX12_areAlike 22 = .ok (.goto (-20), 3) := by decide +kernel
theorem dX12_areAlike_25 : decode cX12_areAlike 25 = .ok (.iconst 1, 1) := by decide +kernel
theorem dX12_areAlike_26 : decode cX12_areAlike 26 = .ok (.ireturn, 1) := by decide +kernel
theorem dX12_name_0 : decode cX12_name 0 = .ok (.aload_n 0, 1) := by decide +kernel
theorem dX12_name_1 : decode cX12_name 1 = .ok (.getfield 27, 3) := by decide +kernel
theorem dX12_name_4 : decode cX12_name 4 = .ok (.iconst 4, 1) := by decide +kernel
theorem dX12_name_5 : decode cX12_name 5 = .ok (.iload_n 1, 1) := by decide +kernel
theorem dX12_name_6 : decode cX12_name 6 = .ok (.imul, 1) := by decide +kernel
theorem dX12_name_7 : decode cX12_name 7 = .ok (.iload_n 2, 1) := by decide +kernel
theorem dX12_name_8 : decode cX12_name 8 = .ok (.iadd, 1) := by decide +kernel
theorem dX12_name_9 : decode cX12_name 9 = .ok (.iload_n 3, 1) := by decide +kernel
theorem dX12_name_10 : decode cX12_name 10 = .ok (.iastore, 1) := by decide +kernel
theorem dX12_name_11 : decode cX12_name 11 = .ok (.aload_n 0, 1) := by decide +kernel
theorem dX12_name_12 : decode cX12_name 12 = .ok (.getfield 39, 3) := by decide +kernel
theorem dX12_name_15 : decode cX12_name 15 = .ok (.iconst 4, 1) := by decide +kernel
theorem dX12_name_16 : decode cX12_name 16 = .ok (.iload_n 1, 1) := by decide +kernel
theorem dX12_name_17 : decode cX12_name 17 = .ok (.imul, 1) := by decide +kernel
theorem dX12_name_18 : decode cX12_name 18 = .ok (.iload_n 3, 1) := by decide +kernel
theorem dX12_name_19 : decode cX12_name 19 = .ok (.iadd, 1) := by decide +kernel
theorem dX12_name_20 : decode cX12_name 20 = .ok (.iload_n 2, 1) := by decide +kernel
theorem dX12_name_21 : decode cX12_name 21 = .ok (.iastore, 1) := by decide +kernel
theorem dX12_name_22 : decode cX12_name 22 = .ok (.return_, 1) := by decide +kernel
theorem dX12_layNumbering_0 : decode cX12_layNumbering 0 = .ok (.iconst 0, 1) := by decide +kernel
theorem dX12_layNumbering_1 : decode cX12_layNumbering 1 = .ok (.istore 5, 2) := by decide +kernel
theorem dX12_layNumbering_3 : decode cX12_layNumbering 3 = .ok (.iload 5, 2) := by decide +kernel
theorem dX12_layNumbering_5 : decode cX12_layNumbering 5 = .ok (.bipush 8, 2) := by decide +kernel
theorem dX12_layNumbering_7 : decode cX12_layNumbering 7 = .ok (.if_icmp .ge 17, 3) := by decide +kernel
theorem dX12_layNumbering_10 : decode cX12_layNumbering 10 = .ok (.aload_n 0, 1) := by decide +kernel
theorem dX12_layNumbering_11 : decode cX12_layNumbering 11 = .ok (.getfield 24, 3) := by decide +kernel
theorem dX12_layNumbering_14 : decode cX12_layNumbering 14 = .ok (.iload 5, 2) := by decide +kernel
theorem dX12_layNumbering_16 : decode cX12_layNumbering 16 = .ok (.iconst (-1), 1) := by decide +kernel
theorem dX12_layNumbering_17 : decode cX12_layNumbering 17 = .ok (.iastore, 1) := by decide +kernel
theorem dX12_layNumbering_18 : decode cX12_layNumbering 18 = .ok (.iinc 5 1, 3) := by decide +kernel
theorem dX12_layNumbering_21 : decode cX12_layNumbering 21 = .ok (.goto (-18), 3) := by decide +kernel
theorem dX12_layNumbering_24 : decode cX12_layNumbering 24 = .ok (.iconst 0, 1) := by decide +kernel
theorem dX12_layNumbering_25 : decode cX12_layNumbering 25 = .ok (.istore 5, 2) := by decide +kernel
theorem dX12_layNumbering_27 : decode cX12_layNumbering 27 = .ok (.iload 5, 2) := by decide +kernel
theorem dX12_layNumbering_29 : decode cX12_layNumbering 29 = .ok (.bipush 33, 2) := by decide +kernel
theorem dX12_layNumbering_31 : decode cX12_layNumbering 31 = .ok (.if_icmp .ge 17, 3) := by decide +kernel
theorem dX12_layNumbering_34 : decode cX12_layNumbering 34 = .ok (.aload_n 0, 1) := by decide +kernel
theorem dX12_layNumbering_35 : decode cX12_layNumbering 35 = .ok (.getfield 33, 3) := by decide +kernel
theorem dX12_layNumbering_38 : decode cX12_layNumbering 38 = .ok (.iload 5, 2) := by decide +kernel
theorem dX12_layNumbering_40 : decode cX12_layNumbering 40 = .ok (.iconst (-1), 1) := by decide +kernel
theorem dX12_layNumbering_41 : decode cX12_layNumbering 41 = .ok (.iastore, 1) := by decide +kernel
theorem dX12_layNumbering_42 : decode cX12_layNumbering 42 = .ok (.iinc 5 1, 3) := by decide +kernel
theorem dX12_layNumbering_45 : decode cX12_layNumbering 45 = .ok (.goto (-18), 3) := by decide +kernel
theorem dX12_layNumbering_48 : decode cX12_layNumbering 48 = .ok (.aload_n 0, 1) := by decide +kernel
theorem dX12_layNumbering_49 : decode cX12_layNumbering 49 = .ok (.getfield 33, 3) := by decide +kernel
theorem dX12_layNumbering_52 : decode cX12_layNumbering 52 = .ok (.iconst 0, 1) := by decide +kernel
theorem dX12_layNumbering_53 : decode cX12_layNumbering 53 = .ok (.aload_n 1, 1) := by decide +kernel
theorem dX12_layNumbering_54 : decode cX12_layNumbering 54 = .ok (.iconst 0, 1) := by decide +kernel
theorem dX12_layNumbering_55 : decode cX12_layNumbering 55 = .ok (.iaload, 1) := by decide +kernel
theorem dX12_layNumbering_56 : decode cX12_layNumbering 56 = .ok (.iastore, 1) := by decide +kernel
theorem dX12_layNumbering_57 : decode cX12_layNumbering 57 = .ok (.aload_n 0, 1) := by decide +kernel
theorem dX12_layNumbering_58 : decode cX12_layNumbering 58 = .ok (.getfield 24, 3) := by decide +kernel
theorem dX12_layNumbering_61 : decode cX12_layNumbering 61 = .ok (.iload_n 2, 1) := by decide +kernel
theorem dX12_layNumbering_62 : decode cX12_layNumbering 62 = .ok (.iconst 0, 1) := by decide +kernel
theorem dX12_layNumbering_63 : decode cX12_layNumbering 63 = .ok (.iastore, 1) := by decide +kernel
theorem dX12_layNumbering_64 : decode cX12_layNumbering 64 = .ok (.aload_n 0, 1) := by decide +kernel
theorem dX12_layNumbering_65 : decode cX12_layNumbering 65 = .ok (.getfield 30, 3) := by decide +kernel
theorem dX12_layNumbering_68 : decode cX12_layNumbering 68 = .ok (.iconst 0, 1) := by decide +kernel
theorem dX12_layNumbering_69 : decode cX12_layNumbering 69 = .ok (.iload_n 2, 1) := by decide +kernel
theorem dX12_layNumbering_70 : decode cX12_layNumbering 70 = .ok (.iastore, 1) := by decide +kernel
theorem dX12_layNumbering_71 : decode cX12_layNumbering 71 = .ok (.iconst 0, 1) := by decide +kernel
theorem dX12_layNumbering_72 : decode cX12_layNumbering 72 = .ok (.istore 5, 2) := by decide +kernel
theorem dX12_layNumbering_74 : decode cX12_layNumbering 74 = .ok (.iload 5, 2) := by decide +kernel
theorem dX12_layNumbering_76 : decode cX12_layNumbering 76 = .ok (.iconst 4, 1) := by decide +kernel
theorem dX12_layNumbering_77 : decode cX12_layNumbering 77 = .ok (.if_icmp .ge 22, 3) := by decide +kernel
theorem dX12_layNumbering_80 : decode cX12_layNumbering 80 = .ok (.aload_n 0, 1) := by decide +kernel
theorem dX12_layNumbering_81 : decode cX12_layNumbering 81 = .ok (.iload_n 2, 1) := by decide +kernel
theorem dX12_layNumbering_82 : decode cX12_layNumbering 82 = .ok (.iload 5, 2) := by decide +kernel
theorem dX12_layNumbering_84 : decode cX12_layNumbering 84 = .ok (.iload_n 3, 1) := by decide +kernel
theorem dX12_layNumbering_85 : decode cX12_layNumbering 85 = .ok (.iload 5, 2) := by decide +kernel
theorem dX12_layNumbering_87 : decode cX12_layNumbering 87 = .ok (.invokestatic 124, 3) := by decide +kernel
theorem dX12_layNumbering_90 : decode cX12_layNumbering 90 = .ok (.invokevirtual 146, 3) := by decide +kernel
theorem dX12_layNumbering_93 : decode cX12_layNumbering 93 = .ok (.iinc 5 1, 3) := by decide +kernel
theorem dX12_layNumbering_96 : decode cX12_layNumbering 96 = .ok (.goto (-22), 3) := by decide +kernel
theorem dX12_layNumbering_99 : decode cX12_layNumbering 99 = .ok (.iconst 1, 1) := by decide +kernel
theorem dX12_layNumbering_100 : decode cX12_layNumbering 100 = .ok (.istore 5, 2) := by decide +kernel
theorem dX12_layNumbering_102 : decode cX12_layNumbering 102 = .ok (.iload 4, 2) := by decide +kernel
theorem dX12_layNumbering_104 : decode cX12_layNumbering 104 = .ok (.istore 6, 2) := by decide +kernel
theorem dX12_layNumbering_106 : decode cX12_layNumbering 106 = .ok (.iconst 0, 1) := by decide +kernel
theorem dX12_layNumbering_107 : decode cX12_layNumbering 107 = .ok (.istore 7, 2) := by decide +kernel
theorem dX12_layNumbering_109 : decode cX12_layNumbering 109 = .ok (.iload 7, 2) := by decide +kernel
theorem dX12_layNumbering_111 : decode cX12_layNumbering 111 = .ok (.iload 5, 2) := by decide +kernel
theorem dX12_layNumbering_113 : decode cX12_layNumbering 113 = .ok (.if_icmp .ge 234, 3) := by decide +kernel
theorem dX12_layNumbering_116 : decode cX12_layNumbering 116 = .ok (.aload_n 0, 1) := by decide +kernel
theorem dX12_layNumbering_117 : decode cX12_layNumbering 117 = .ok (.getfield 30, 3) := by decide +kernel
theorem dX12_layNumbering_120 : decode cX12_layNumbering 120 = .ok (.iload 7, 2) := by decide +kernel
theorem dX12_layNumbering_122 : decode cX12_layNumbering 122 = .ok (.iaload, 1) := by decide +kernel
theorem dX12_layNumbering_123 : decode cX12_layNumbering 123 = .ok (.istore 8, 2) := by decide +kernel
theorem dX12_layNumbering_125 : decode cX12_layNumbering 125 = .ok (.iconst 0, 1) := by decide +kernel
theorem dX12_layNumbering_126 : decode cX12_layNumbering 126 = .ok (.istore 9, 2) := by decide +kernel
theorem dX12_layNumbering_128 : decode cX12_layNumbering 128 = .ok (.iload 9, 2) := by decide +kernel
theorem dX12_layNumbering_130 : decode cX12_layNumbering 130 = .ok (.iconst 4, 1) := by decide +kernel
theorem dX12_layNumbering_131 : decode cX12_layNumbering 131 = .ok (.if_icmp .ge 210, 3) := by decide +kernel
theorem dX12_layNumbering_134 : decode cX12_layNumbering 134 = .ok (.aload_n 1, 1) := by decide +kernel
theorem dX12_layNumbering_135 : decode cX12_layNumbering 135 = .ok (.iload 8, 2) := by decide +kernel
theorem dX12_layNumbering_137 : decode cX12_layNumbering 137 = .ok (.aload_n 0, 1) := by decide +kernel
theorem dX12_layNumbering_138 : decode cX12_layNumbering 138 = .ok (.getfield 39, 3) := by decide +kernel
theorem dX12_layNumbering_141 : decode cX12_layNumbering 141 = .ok (.iconst 4, 1) := by decide +kernel
theorem dX12_layNumbering_142 : decode cX12_layNumbering 142 = .ok (.iload 8, 2) := by decide +kernel
theorem dX12_layNumbering_144 : decode cX12_layNumbering 144 = .ok (.imul, 1) := by decide +kernel
theorem dX12_layNumbering_145 : decode cX12_layNumbering 145 = .ok (.iload 9, 2) := by decide +kernel
theorem dX12_layNumbering_147 : decode cX12_layNumbering 147 = .ok (.iadd, 1) := by decide +kernel
theorem dX12_layNumbering_148 : decode cX12_layNumbering 148 = .ok (.iaload, 1) := by decide +kernel
theorem dX12_layNumbering_149 : decode cX12_layNumbering 149 = .ok (.invokestatic 150, 3) := by decide +kernel
theorem dX12_layNumbering_152 : decode cX12_layNumbering 152 = .ok (.istore 10, 2) := by decide +kernel
theorem dX12_layNumbering_154 : decode cX12_layNumbering 154 = .ok (.iconst (-1), 1) := by decide +kernel
theorem dX12_layNumbering_155 : decode cX12_layNumbering 155 = .ok (.istore 11, 2) := by decide +kernel
theorem dX12_layNumbering_157 : decode cX12_layNumbering 157 = .ok (.iload 10, 2) := by decide +kernel
theorem dX12_layNumbering_159 : decode cX12_layNumbering 159 = .ok (.iconst (-1), 1) := by decide +kernel
theorem dX12_layNumbering_160 : decode cX12_layNumbering 160 = .ok (.if_icmp .eq 111, 3) := by decide +kernel
theorem dX12_layNumbering_163 : decode cX12_layNumbering 163 = .ok (.iload 10, 2) := by decide +kernel
theorem dX12_layNumbering_165 : decode cX12_layNumbering 165 = .ok (.bipush 24, 2) := by decide +kernel
theorem dX12_layNumbering_167 : decode cX12_layNumbering 167 = .ok (.idiv, 1) := by decide +kernel
theorem dX12_layNumbering_168 : decode cX12_layNumbering 168 = .ok (.istore 12, 2) := by decide +kernel
theorem dX12_layNumbering_170 : decode cX12_layNumbering 170 = .ok (.aload_n 0, 1) := by decide +kernel
theorem dX12_layNumbering_171 : decode cX12_layNumbering 171 = .ok (.getfield 24, 3) := by decide +kernel
theorem dX12_layNumbering_174 : decode cX12_layNumbering 174 = .ok (.iload 12, 2) := by decide +kernel
theorem dX12_layNumbering_176 : decode cX12_layNumbering 176 = .ok (.iaload, 1) := by decide +kernel
theorem dX12_layNumbering_177 : decode cX12_layNumbering 177 = .ok (.iconst (-1), 1) := by decide +kernel
theorem dX12_layNumbering_178 : decode cX12_layNumbering 178 = .ok (.if_icmp .ne 67, 3) := by decide +kernel
theorem dX12_layNumbering_181 : decode cX12_layNumbering 181 = .ok (.aload_n 0, 1) := by decide +kernel
theorem dX12_layNumbering_182 : decode cX12_layNumbering 182 = .ok (.getfield 24, 3) := by decide +kernel
theorem dX12_layNumbering_185 : decode cX12_layNumbering 185 = .ok (.iload 12, 2) := by decide +kernel
theorem dX12_layNumbering_187 : decode cX12_layNumbering 187 = .ok (.iload 5, 2) := by decide +kernel
theorem dX12_layNumbering_189 : decode cX12_layNumbering 189 = .ok (.iastore, 1) := by decide +kernel
theorem dX12_layNumbering_190 : decode cX12_layNumbering 190 = .ok (.aload_n 0, 1) := by decide +kernel
theorem dX12_layNumbering_191 : decode cX12_layNumbering 191 = .ok (.getfield 30, 3) := by decide +kernel
theorem dX12_layNumbering_194 : decode cX12_layNumbering 194 = .ok (.iload 5, 2) := by decide +kernel
theorem dX12_layNumbering_196 : decode cX12_layNumbering 196 = .ok (.iload 12, 2) := by decide +kernel
theorem dX12_layNumbering_198 : decode cX12_layNumbering 198 = .ok (.iastore, 1) := by decide +kernel
theorem dX12_layNumbering_199 : decode cX12_layNumbering 199 = .ok (.iinc 5 1, 3) := by decide +kernel
theorem dX12_layNumbering_202 : decode cX12_layNumbering 202 = .ok (.iconst 0, 1) := by decide +kernel
theorem dX12_layNumbering_203 : decode cX12_layNumbering 203 = .ok (.istore 13, 2) := by decide +kernel
theorem dX12_layNumbering_205 : decode cX12_layNumbering 205 = .ok (.iload 13, 2) := by decide +kernel
theorem dX12_layNumbering_207 : decode cX12_layNumbering 207 = .ok (.iconst 4, 1) := by decide +kernel
theorem dX12_layNumbering_208 : decode cX12_layNumbering 208 = .ok (.if_icmp .ge 37, 3) := by decide +kernel
theorem dX12_layNumbering_211 : decode cX12_layNumbering 211 = .ok (.aload_n 0, 1) := by decide +kernel
theorem dX12_layNumbering_212 : decode cX12_layNumbering 212 = .ok (.iload 12, 2) := by decide +kernel
theorem dX12_layNumbering_214 : decode cX12_layNumbering 214 = .ok (.iload 10, 2) := by decide +kernel
theorem dX12_layNumbering_216 : decode cX12_layNumbering 216 = .ok (.bipush 24, 2) := by decide +kernel
theorem dX12_layNumbering_218 : decode cX12_layNumbering 218 = .ok (.irem, 1) := by decide +kernel
theorem dX12_layNumbering_219 : decode cX12_layNumbering 219 = .ok (.iload 13, 2) := by decide +kernel
theorem dX12_layNumbering_221 : decode cX12_layNumbering 221 = .ok (.invokestatic 124, 3) := by decide +kernel
theorem dX12_layNumbering_224 : decode cX12_layNumbering 224 = .ok (.aload_n 0, 1) := by decide +kernel
theorem dX12_layNumbering_225 : decode cX12_layNumbering 225 = .ok (.getfield 27, 3) := by decide +kernel
theorem dX12_layNumbering_228 : decode cX12_layNumbering 228 = .ok (.iconst 4, 1) := by decide +kernel
theorem dX12_layNumbering_229 : decode cX12_layNumbering 229 = .ok (.iload 8, 2) := by decide +kernel
theorem dX12_layNumbering_231 : decode cX12_layNumbering 231 = .ok (.imul, 1) := by decide +kernel
theorem dX12_layNumbering_232 : decode cX12_layNumbering 232 = .ok (.iload 13, 2) := by decide +kernel
theorem dX12_layNumbering_234 : decode cX12_layNumbering 234 = .ok (.iadd, 1) := by decide +kernel
theorem dX12_layNumbering_235 : decode cX12_layNumbering 235 = .ok (.iaload, 1) := by decide +kernel
theorem dX12_layNumbering_236 : decode cX12_layNumbering 236 = .ok (.invokevirtual 146, 3) := by decide +kernel
theorem dX12_layNumbering_239 : decode cX12_layNumbering 239 = .ok (.iinc 13 1, 3) := by decide +kernel
theorem dX12_layNumbering_242 : decode cX12_layNumbering 242 = .ok (.goto (-37), 3) := by decide +kernel
theorem dX12_layNumbering_245 : decode cX12_layNumbering 245 = .ok (.bipush 24, 2) := by decide +kernel
theorem dX12_layNumbering_247 : decode cX12_layNumbering 247 = .ok (.aload_n 0, 1) := by decide +kernel
theorem dX12_layNumbering_248 : decode cX12_layNumbering 248 = .ok (.getfield 24, 3) := by decide +kernel
theorem dX12_layNumbering_251 : decode cX12_layNumbering 251 = .ok (.iload 12, 2) := by decide +kernel
theorem dX12_layNumbering_253 : decode cX12_layNumbering 253 = .ok (.iaload, 1) := by decide +kernel
theorem dX12_layNumbering_254 : decode cX12_layNumbering 254 = .ok (.imul, 1) := by decide +kernel
theorem dX12_layNumbering_255 : decode cX12_layNumbering 255 = .ok (.aload_n 0, 1) := by decide +kernel
theorem dX12_layNumbering_256 : decode cX12_layNumbering 256 = .ok (.iload 8, 2) := by decide +kernel
theorem dX12_layNumbering_258 : decode cX12_layNumbering 258 = .ok (.iload 12, 2) := by decide +kernel
theorem dX12_layNumbering_260 : decode cX12_layNumbering 260 = .ok (.iload 10, 2) := by decide +kernel
theorem dX12_layNumbering_262 : decode cX12_layNumbering 262 = .ok (.bipush 24, 2) := by decide +kernel
theorem dX12_layNumbering_264 : decode cX12_layNumbering 264 = .ok (.irem, 1) := by decide +kernel
theorem dX12_layNumbering_265 : decode cX12_layNumbering 265 = .ok (.invokevirtual 154, 3) := by decide +kernel
theorem dX12_layNumbering_268 : decode cX12_layNumbering 268 = .ok (.iadd, 1) := by decide +kernel
theorem dX12_layNumbering_269 : decode cX12_layNumbering 269 = .ok (.istore 11, 2) := by decide +kernel
theorem dX12_layNumbering_271 : decode cX12_layNumbering 271 = .ok (.aload_n 0, 1) := by decide +kernel
theorem dX12_layNumbering_272 : decode cX12_layNumbering 272 = .ok (.getfield 33, 3) := by decide +kernel
theorem dX12_layNumbering_275 : decode cX12_layNumbering 275 = .ok (.iload 7, 2) := by decide +kernel
theorem dX12_layNumbering_277 : decode cX12_layNumbering 277 = .ok (.iload 9, 2) := by decide +kernel
theorem dX12_layNumbering_279 : decode cX12_layNumbering 279 = .ok (.iload 11, 2) := by decide +kernel
theorem dX12_layNumbering_281 : decode cX12_layNumbering 281 = .ok (.invokestatic 138, 3) := by decide +kernel
theorem dX12_layNumbering_284 : decode cX12_layNumbering 284 = .ok (.iload 6, 2) := by decide +kernel
theorem dX12_layNumbering_286 : decode cX12_layNumbering 286 = .ok (.ifCond .eq 21, 3) := by decide +kernel
theorem dX12_layNumbering_289 : decode cX12_layNumbering 289 = .ok (.iload 11, 2) := by decide +kernel
theorem dX12_layNumbering_291 : decode cX12_layNumbering 291 = .ok (.aload_n 0, 1) := by decide +kernel
theorem dX12_layNumbering_292 : decode cX12_layNumbering 292 = .ok (.getfield 36, 3) := by decide +kernel
theorem dX12_layNumbering_295 : decode cX12_layNumbering 295 = .ok (.iload 7, 2) := by decide +kernel
theorem dX12_layNumbering_297 : decode cX12_layNumbering 297 = .ok (.iload 9, 2) := by decide +kernel
theorem dX12_layNumbering_299 : decode cX12_layNumbering 299 = .ok (.invokestatic 150, 3) := by decide +kernel
theorem dX12_layNumbering_302 : decode cX12_layNumbering 302 = .ok (.if_icmp .le 5, 3) := by decide +kernel
theorem dX12_layNumbering_305 : decode cX12_layNumbering 305 = .ok (.iconst 0, 1) := by decide +kernel
theorem dX12_layNumbering_306 : decode cX12_layNumbering 306 = .ok (.ireturn, 1) := by decide +kernel
theorem dX12_layNumbering_307 : decode cX12_layNumbering 307 = .ok (.iload 6, 2) := by decide +kernel
theorem dX12_layNumbering_309 : decode cX12_layNumbering 309 = .ok (.ifCond .eq 23, 3) := by decide +kernel
theorem dX12_layNumbering_312 : decode cX12_layNumbering 312 = .ok (.iload 11, 2) := by decide +kernel
theorem dX12_layNumbering_314 : decode cX12_layNumbering 314 = .ok (.aload_n 0, 1) := by decide +kernel
theorem dX12_layNumbering_315 : decode cX12_layNumbering 315 = .ok (.getfield 36, 3) := by decide +kernel
theorem dX12_layNumbering_318 : decode cX12_layNumbering 318 = .ok (.iload 7, 2) := by decide +kernel
theorem dX12_layNumbering_320 : decode cX12_layNumbering 320 = .ok (.iload 9, 2) := by decide +kernel
theorem dX12_layNumbering_322 : decode cX12_layNumbering 322 = .ok (.invokestatic 150, 3) := by decide +kernel
theorem dX12_layNumbering_325 : decode cX12_layNumbering 325 = .ok (.if_icmp .ne 7, 3) := by decide +kernel
theorem dX12_layNumbering_328 : decode cX12_layNumbering 328 = .ok (.iconst 1, 1) := by decide +kernel
theorem dX12_layNumbering_329 : decode cX12_layNumbering 329 = .ok (.goto 4, 3) := by decide +kernel
theorem dX12_layNumbering_332 : decode cX12_layNumbering 332 = .ok (.iconst 0, 1) := by decide +kernel
theorem dX12_layNumbering_333 : decode cX12_layNumbering 333 = .ok (.istore 6, 2) := by decide +kernel
theorem dX12_layNumbering_335 : decode cX12_layNumbering 335 = .ok (.iinc 9 1, 3) := by decide +kernel
theorem dX12_layNumbering_338 : decode cX12_layNumbering 338 = .ok (.goto (-210), 3) := by decide +kernel
theorem dX12_layNumbering_341 : decode cX12_layNumbering 341 = .ok (.iinc 7 1, 3) := by decide +kernel
theorem dX12_layNumbering_344 : decode cX12_layNumbering 344 = .ok (.goto (-235), 3) := by decide +kernel
theorem dX12_layNumbering_347 : decode cX12_layNumbering 347 = .ok (.iload 5, 2) := by decide +kernel
theorem dX12_layNumbering_349 : decode cX12_layNumbering 349 = .ok (.ireturn, 1) := by decide +kernel
theorem dX12_renamed_0 : decode cX12_renamed 0 = .ok (.aload_n 0, 1) := by decide +kernel
theorem dX12_renamed_1 : decode cX12_renamed 1 = .ok (.getfield 42, 3) := by decide +kernel
theorem dX12_renamed_4 : decode cX12_renamed 4 = .ok (.astore 4, 2) := by decide +kernel
theorem dX12_renamed_6 : decode cX12_renamed 6 = .ok (.iconst 0, 1) := by decide +kernel
theorem dX12_renamed_7 : decode cX12_renamed 7 = .ok (.istore 5, 2) := by decide +kernel
theorem dX12_renamed_9 : decode cX12_renamed 9 = .ok (.iload 5, 2) := by decide +kernel
theorem dX12_renamed_11 : decode cX12_renamed 11 = .ok (.iconst 4, 1) := by decide +kernel
theorem dX12_renamed_12 : decode cX12_renamed 12 = .ok (.if_icmp .ge 38, 3) := by decide +kernel
theorem dX12_renamed_15 : decode cX12_renamed 15 = .ok (.aload 4, 2) := by decide +kernel
theorem dX12_renamed_17 : decode cX12_renamed 17 = .ok (.aload_n 0, 1) := by decide +kernel
theorem dX12_renamed_18 : decode cX12_renamed 18 = .ok (.getfield 27, 3) := by decide +kernel
theorem dX12_renamed_21 : decode cX12_renamed 21 = .ok (.iconst 4, 1) := by decide +kernel
theorem dX12_renamed_22 : decode cX12_renamed 22 = .ok (.iload_n 1, 1) := by decide +kernel
theorem dX12_renamed_23 : decode cX12_renamed 23 = .ok (.imul, 1) := by decide +kernel
theorem dX12_renamed_24 : decode cX12_renamed 24 = .ok (.iload 5, 2) := by decide +kernel
theorem dX12_renamed_26 : decode cX12_renamed 26 = .ok (.iadd, 1) := by decide +kernel
theorem dX12_renamed_27 : decode cX12_renamed 27 = .ok (.iaload, 1) := by decide +kernel
theorem dX12_renamed_28 : decode cX12_renamed 28 = .ok (.aload_n 0, 1) := by decide +kernel
theorem dX12_renamed_29 : decode cX12_renamed 29 = .ok (.getfield 27, 3) := by decide +kernel
theorem dX12_renamed_32 : decode cX12_renamed 32 = .ok (.iconst 4, 1) := by decide +kernel
theorem dX12_renamed_33 : decode cX12_renamed 33 = .ok (.iload_n 2, 1) := by decide +kernel
theorem dX12_renamed_34 : decode cX12_renamed 34 = .ok (.imul, 1) := by decide +kernel
theorem dX12_renamed_35 : decode cX12_renamed 35 = .ok (.iload_n 3, 1) := by decide +kernel
theorem dX12_renamed_36 : decode cX12_renamed 36 = .ok (.iload 5, 2) := by decide +kernel
theorem dX12_renamed_38 : decode cX12_renamed 38 = .ok (.invokestatic 124, 3) := by decide +kernel
theorem dX12_renamed_41 : decode cX12_renamed 41 = .ok (.iadd, 1) := by decide +kernel
theorem dX12_renamed_42 : decode cX12_renamed 42 = .ok (.iaload, 1) := by decide +kernel
theorem dX12_renamed_43 : decode cX12_renamed 43 = .ok (.iastore, 1) := by decide +kernel
theorem dX12_renamed_44 : decode cX12_renamed 44 = .ok (.iinc 5 1, 3) := by decide +kernel
theorem dX12_renamed_47 : decode cX12_renamed 47 = .ok (.goto (-38), 3) := by decide +kernel
theorem dX12_renamed_50 : decode cX12_renamed 50 = .ok (.aload_n 0, 1) := by decide +kernel
theorem dX12_renamed_51 : decode cX12_renamed 51 = .ok (.aload 4, 2) := by decide +kernel
theorem dX12_renamed_53 : decode cX12_renamed 53 = .ok (.iconst 0, 1) := by decide +kernel
theorem dX12_renamed_54 : decode cX12_renamed 54 = .ok (.iaload, 1) := by decide +kernel
theorem dX12_renamed_55 : decode cX12_renamed 55 = .ok (.aload 4, 2) := by decide +kernel
theorem dX12_renamed_57 : decode cX12_renamed 57 = .ok (.iconst 1, 1) := by decide +kernel
theorem dX12_renamed_58 : decode cX12_renamed 58 = .ok (.iaload, 1) := by decide +kernel
theorem dX12_renamed_59 : decode cX12_renamed 59 = .ok (.aload 4, 2) := by decide +kernel
theorem dX12_renamed_61 : decode cX12_renamed 61 = .ok (.iconst 2, 1) := by decide +kernel
theorem dX12_renamed_62 : decode cX12_renamed 62 = .ok (.iaload, 1) := by decide +kernel
theorem dX12_renamed_63 : decode cX12_renamed 63 = .ok (.invokevirtual 158, 3) := by decide +kernel
theorem dX12_renamed_66 : decode cX12_renamed 66 = .ok (.ireturn, 1) := by decide +kernel
theorem dX12_number_0 : decode cX12_number 0 = .ok (.aload_n 0, 1) := by decide +kernel
theorem dX12_number_1 : decode cX12_number 1 = .ok (.iconst 0, 1) := by decide +kernel
theorem dX12_number_2 : decode cX12_number 2 = .ok (.putfield 161, 3) := by decide +kernel
theorem dX12_number_5 : decode cX12_number 5 = .ok (.aload_n 0, 1) := by decide +kernel
theorem dX12_number_6 : decode cX12_number 6 = .ok (.aload_n 1, 1) := by decide +kernel
theorem dX12_number_7 : decode cX12_number 7 = .ok (.iconst 0, 1) := by decide +kernel
theorem dX12_number_8 : decode cX12_number 8 = .ok (.iconst 0, 1) := by decide +kernel
theorem dX12_number_9 : decode cX12_number 9 = .ok (.iconst 0, 1) := by decide +kernel
theorem dX12_number_10 : decode cX12_number 10 = .ok (.invokevirtual 164, 3) := by decide +kernel
theorem dX12_number_13 : decode cX12_number 13 = .ok (.aload_n 1, 1) := by decide +kernel
theorem dX12_number_14 : decode cX12_number 14 = .ok (.iconst 0, 1) := by decide +kernel
theorem dX12_number_15 : decode cX12_number 15 = .ok (.iaload, 1) := by decide +kernel
theorem dX12_number_16 : decode cX12_number 16 = .ok (.if_icmp .ge 5, 3) := by decide +kernel
theorem dX12_number_19 : decode cX12_number 19 = .ok (.iconst 0, 1) := by decide +kernel
theorem dX12_number_20 : decode cX12_number 20 = .ok (.ireturn, 1) := by decide +kernel
theorem dX12_number_21 : decode cX12_number 21 = .ok (.aload_n 0, 1) := by decide +kernel
theorem dX12_number_22 : decode cX12_number 22 = .ok (.getfield 33, 3) := by decide +kernel
theorem dX12_number_25 : decode cX12_number 25 = .ok (.aload_n 0, 1) := by decide +kernel
theorem dX12_number_26 : decode cX12_number 26 = .ok (.getfield 36, 3) := by decide +kernel
theorem dX12_number_29 : decode cX12_number 29 = .ok (.invokestatic 168, 3) := by decide +kernel
theorem dX12_number_32 : decode cX12_number 32 = .ok (.iconst 0, 1) := by decide +kernel
theorem dX12_number_33 : decode cX12_number 33 = .ok (.istore_n 2, 1) := by decide +kernel
theorem dX12_number_34 : decode cX12_number 34 = .ok (.iload_n 2, 1) := by decide +kernel
theorem dX12_number_35 : decode cX12_number 35 = .ok (.aload_n 1, 1) := by decide +kernel
theorem dX12_number_36 : decode cX12_number 36 = .ok (.iconst 0, 1) := by decide +kernel
theorem dX12_number_37 : decode cX12_number 37 = .ok (.iaload, 1) := by decide +kernel
theorem dX12_number_38 : decode cX12_number 38 = .ok (.if_icmp .ge 77, 3) := by decide +kernel
theorem dX12_number_41 : decode cX12_number 41 = .ok (.iconst 0, 1) := by decide +kernel
theorem dX12_number_42 : decode cX12_number 42 = .ok (.istore_n 3, 1) := by decide +kernel
theorem dX12_number_43 : decode cX12_number 43 = .ok (.iload_n 3, 1) := by decide +kernel
theorem dX12_number_44 : decode cX12_number 44 = .ok (.bipush 24, 2) := by decide +kernel
theorem dX12_number_46 : decode cX12_number 46 = .ok (.if_icmp .ge 63, 3) := by decide +kernel
theorem dX12_number_49 : decode cX12_number 49 = .ok (.aload_n 0, 1) := by decide +kernel
theorem dX12_number_50 : decode cX12_number 50 = .ok (.aload_n 1, 1) := by decide +kernel
theorem dX12_number_51 : decode cX12_number 51 = .ok (.iload_n 2, 1) := by decide +kernel
theorem dX12_number_52 : decode cX12_number 52 = .ok (.iload_n 3, 1) := by decide +kernel
theorem dX12_number_53 : decode cX12_number 53 = .ok (.iconst 1, 1) := by decide +kernel
theorem dX12_number_54 : decode cX12_number 54 = .ok (.invokevirtual 164, 3) := by decide +kernel
theorem dX12_number_57 : decode cX12_number 57 = .ok (.ifCond .ne 6, 3) := by decide +kernel
theorem dX12_number_60 : decode cX12_number 60 = .ok (.goto 43, 3) := by decide +kernel
theorem dX12_number_63 : decode cX12_number 63 = .ok (.aload_n 0, 1) := by decide +kernel
theorem dX12_number_64 : decode cX12_number 64 = .ok (.getfield 33, 3) := by decide +kernel
theorem dX12_number_67 : decode cX12_number 67 = .ok (.aload_n 0, 1) := by decide +kernel
theorem dX12_number_68 : decode cX12_number 68 = .ok (.getfield 36, 3) := by decide +kernel
theorem dX12_number_71 : decode cX12_number 71 = .ok (.invokestatic 172, 3) := by decide +kernel
theorem dX12_number_74 : decode cX12_number 74 = .ok (.ifCond .ne 8, 3) := by decide +kernel
theorem dX12_number_77 : decode cX12_number 77 = .ok (.aload_n 0, 1) := by decide +kernel
theorem dX12_number_78 : decode cX12_number 78 = .ok (.iconst 0, 1) := by decide +kernel
theorem dX12_number_79 : decode cX12_number 79 = .ok (.putfield 161, 3) := by decide +kernel
theorem dX12_number_82 : decode cX12_number 82 = .ok (.aload_n 0, 1) := by decide +kernel
theorem dX12_number_83 : decode cX12_number 83 = .ok (.getfield 33, 3) := by decide +kernel
theorem dX12_number_86 : decode cX12_number 86 = .ok (.aload_n 0, 1) := by decide +kernel
theorem dX12_number_87 : decode cX12_number 87 = .ok (.getfield 36, 3) := by decide +kernel
theorem dX12_number_90 : decode cX12_number 90 = .ok (.invokestatic 168, 3) := by decide +kernel
theorem dX12_number_93 : decode cX12_number 93 = .ok (.aload_n 0, 1) := by decide +kernel
theorem dX12_number_94 : decode cX12_number 94 = .ok (.dup, 1) := by decide +kernel
theorem dX12_number_95 : decode cX12_number 95 = .ok (.getfield 161, 3) := by decide +kernel
theorem dX12_number_98 : decode cX12_number 98 = .ok (.iconst 1, 1) := by decide +kernel
theorem dX12_number_99 : decode cX12_number 99 = .ok (.iadd, 1) := by decide +kernel
theorem dX12_number_100 : decode cX12_number 100 = .ok (.putfield 161, 3) := by decide +kernel
theorem dX12_number_103 : decode cX12_number 103 = .ok (.iinc 3 1, 3) := by decide +kernel
theorem dX12_number_106 : decode cX12_number 106 = .ok (.goto (-63), 3) := by decide +kernel
theorem dX12_number_109 : decode cX12_number 109 = .ok (.iinc 2 1, 3) := by decide +kernel
theorem dX12_number_112 : decode cX12_number 112 = .ok (.goto (-78), 3) := by decide +kernel
theorem dX12_number_115 : decode cX12_number 115 = .ok (.aload_n 0, 1) := by decide +kernel
theorem dX12_number_116 : decode cX12_number 116 = .ok (.getfield 36, 3) := by decide +kernel
theorem dX12_number_119 : decode cX12_number 119 = .ok (.aload_n 1, 1) := by decide +kernel
theorem dX12_number_120 : decode cX12_number 120 = .ok (.invokestatic 168, 3) := by decide +kernel
theorem dX12_number_123 : decode cX12_number 123 = .ok (.iconst 1, 1) := by decide +kernel
theorem dX12_number_124 : decode cX12_number 124 = .ok (.ireturn, 1) := by decide +kernel
theorem dX12_sign_0 : decode cX12_sign 0 = .ok (.aload_n 0, 1) := by decide +kernel
theorem dX12_sign_1 : decode cX12_sign 1 = .ok (.iconst 0, 1) := by decide +kernel
theorem dX12_sign_2 : decode cX12_sign 2 = .ok (.putfield 128, 3) := by decide +kernel
theorem dX12_sign_5 : decode cX12_sign 5 = .ok (.aload_n 0, 1) := by decide +kernel
theorem dX12_sign_6 : decode cX12_sign 6 = .ok (.getfield 176, 3) := by decide +kernel
theorem dX12_sign_9 : decode cX12_sign 9 = .ok (.iconst 4, 1) := by decide +kernel
theorem dX12_sign_10 : decode cX12_sign 10 = .ok (.iadd, 1) := by decide +kernel
theorem dX12_sign_11 : decode cX12_sign 11 = .ok (.bipush 80, 2) := by decide +kernel
theorem dX12_sign_13 : decode cX12_sign 13 = .ok (.if_icmp .le 5, 3) := by decide +kernel
theorem dX12_sign_16 : decode cX12_sign 16 = .ok (.iconst (-1), 1) := by decide +kernel
theorem dX12_sign_17 : decode cX12_sign 17 = .ok (.ireturn, 1) := by decide +kernel
theorem dX12_sign_18 : decode cX12_sign 18 = .ok (.iconst 3, 1) := by decide +kernel
theorem dX12_sign_19 : decode cX12_sign 19 = .ok (.istore_n 2, 1) := by decide +kernel
theorem dX12_sign_20 : decode cX12_sign 20 = .ok (.iload_n 2, 1) := by decide +kernel
theorem dX12_sign_21 : decode cX12_sign 21 = .ok (.ifCond .lt 32, 3) := by decide +kernel
theorem dX12_sign_24 : decode cX12_sign 24 = .ok (.aload_n 0, 1) := by decide +kernel
theorem dX12_sign_25 : decode cX12_sign 25 = .ok (.getfield 13, 3) := by decide +kernel
theorem dX12_sign_28 : decode cX12_sign 28 = .ok (.aload_n 0, 1) := by decide +kernel
theorem dX12_sign_29 : decode cX12_sign 29 = .ok (.dup, 1) := by decide +kernel
theorem dX12_sign_30 : decode cX12_sign 30 = .ok (.getfield 176, 3) := by decide +kernel
theorem dX12_sign_33 : decode cX12_sign 33 = .ok (.dup_x1, 1) := by decide +kernel
theorem dX12_sign_34 : decode cX12_sign 34 = .ok (.iconst 1, 1) := by decide +kernel
theorem dX12_sign_35 : decode cX12_sign 35 = .ok (.iadd, 1) := by decide +kernel
theorem dX12_sign_36 : decode cX12_sign 36 = .ok (.putfield 176, 3) := by decide +kernel
theorem dX12_sign_39 : decode cX12_sign 39 = .ok (.iload_n 1, 1) := by decide +kernel
theorem dX12_sign_40 : decode cX12_sign 40 = .ok (.bipush 8, 2) := by decide +kernel
theorem dX12_sign_42 : decode cX12_sign 42 = .ok (.iload_n 2, 1) := by decide +kernel
theorem dX12_sign_43 : decode cX12_sign 43 = .ok (.imul, 1) := by decide +kernel
theorem dX12_sign_44 : decode cX12_sign 44 = .ok (.ishr, 1) := by decide +kernel
theorem dX12_sign_45 : decode cX12_sign 45 = .ok (.i2b, 1) := by decide +kernel
theorem dX12_sign_46 : decode cX12_sign 46 = .ok (.bastore, 1) := by decide +kernel
theorem dX12_sign_47 : decode cX12_sign 47 = .ok (.iinc 2 (-1), 3) := by decide +kernel
theorem dX12_sign_50 : decode cX12_sign 50 = .ok (.goto (-30), 3) := by decide +kernel
theorem dX12_sign_53 : decode cX12_sign 53 = .ok (.aload_n 0, 1) := by decide +kernel
theorem dX12_sign_54 : decode cX12_sign 54 = .ok (.getfield 176, 3) := by decide +kernel
theorem dX12_sign_57 : decode cX12_sign 57 = .ok (.ireturn, 1) := by decide +kernel
theorem dX12_end_0 : decode cX12_end 0 = .ok (.aload_n 0, 1) := by decide +kernel
theorem dX12_end_1 : decode cX12_end 1 = .ok (.iconst 0, 1) := by decide +kernel
theorem dX12_end_2 : decode cX12_end 2 = .ok (.putfield 128, 3) := by decide +kernel
theorem dX12_end_5 : decode cX12_end 5 = .ok (.iload_n 1, 1) := by decide +kernel
theorem dX12_end_6 : decode cX12_end 6 = .ok (.iconst 0, 1) := by decide +kernel
theorem dX12_end_7 : decode cX12_end 7 = .ok (.aload_n 0, 1) := by decide +kernel
theorem dX12_end_8 : decode cX12_end 8 = .ok (.getfield 176, 3) := by decide +kernel
theorem dX12_end_11 : decode cX12_end 11 = .ok (.invokestatic 179, 3) := by decide +kernel
theorem dX12_end_14 : decode cX12_end 14 = .ok (.ifCond .ne 5, 3) := by decide +kernel
theorem dX12_end_17 : decode cX12_end 17 = .ok (.iconst 0, 1) := by decide +kernel
theorem dX12_end_18 : decode cX12_end 18 = .ok (.ireturn, 1) := by decide +kernel
theorem dX12_end_19 : decode cX12_end 19 = .ok (.aload_n 0, 1) := by decide +kernel
theorem dX12_end_20 : decode cX12_end 20 = .ok (.iload_n 1, 1) := by decide +kernel
theorem dX12_end_21 : decode cX12_end 21 = .ok (.putfield 176, 3) := by decide +kernel
theorem dX12_end_24 : decode cX12_end 24 = .ok (.iconst 1, 1) := by decide +kernel
theorem dX12_end_25 : decode cX12_end 25 = .ok (.ireturn, 1) := by decide +kernel
theorem dX12_begin_0 : decode cX12_begin 0 = .ok (.aload_n 0, 1) := by decide +kernel
theorem dX12_begin_1 : decode cX12_begin 1 = .ok (.aload_n 0, 1) := by decide +kernel
theorem dX12_begin_2 : decode cX12_begin 2 = .ok (.getfield 176, 3) := by decide +kernel
theorem dX12_begin_5 : decode cX12_begin 5 = .ok (.putfield 183, 3) := by decide +kernel
theorem dX12_begin_8 : decode cX12_begin 8 = .ok (.aload_n 0, 1) := by decide +kernel
theorem dX12_begin_9 : decode cX12_begin 9 = .ok (.iconst 0, 1) := by decide +kernel
theorem dX12_begin_10 : decode cX12_begin 10 = .ok (.putfield 186, 3) := by decide +kernel
theorem dX12_begin_13 : decode cX12_begin 13 = .ok (.aload_n 0, 1) := by decide +kernel
theorem dX12_begin_14 : decode cX12_begin 14 = .ok (.iconst (-1), 1) := by decide +kernel
theorem dX12_begin_15 : decode cX12_begin 15 = .ok (.putfield 189, 3) := by decide +kernel
theorem dX12_begin_18 : decode cX12_begin 18 = .ok (.aload_n 0, 1) := by decide +kernel
theorem dX12_begin_19 : decode cX12_begin 19 = .ok (.iconst 0, 1) := by decide +kernel
theorem dX12_begin_20 : decode cX12_begin 20 = .ok (.putfield 176, 3) := by decide +kernel
theorem dX12_begin_23 : decode cX12_begin 23 = .ok (.return_, 1) := by decide +kernel
theorem dX12_here_0 : decode cX12_here 0 = .ok (.aload_n 0, 1) := by decide +kernel
theorem dX12_here_1 : decode cX12_here 1 = .ok (.getfield 186, 3) := by decide +kernel
theorem dX12_here_4 : decode cX12_here 4 = .ok (.aload_n 0, 1) := by decide +kernel
theorem dX12_here_5 : decode cX12_here 5 = .ok (.getfield 183, 3) := by decide +kernel
theorem dX12_here_8 : decode cX12_here 8 = .ok (.if_icmp .ge 19, 3) := by decide +kernel
theorem dX12_here_11 : decode cX12_here 11 = .ok (.aload_n 0, 1) := by decide +kernel
theorem dX12_here_12 : decode cX12_here 12 = .ok (.getfield 13, 3) := by decide +kernel
theorem dX12_here_15 : decode cX12_here 15 = .ok (.aload_n 0, 1) := by decide +kernel
theorem dX12_here_16 : decode cX12_here 16 = .ok (.getfield 186, 3) := by decide +kernel
theorem dX12_here_19 : decode cX12_here 19 = .ok (.baload, 1) := by decide +kernel
theorem dX12_here_20 : decode cX12_here 20 = .ok (.sipush 255, 3) := by decide +kernel
theorem dX12_here_23 : decode cX12_here 23 = .ok (.iand, 1) := by decide +kernel
theorem dX12_here_24 : decode cX12_here 24 = .ok (.goto 4, 3) := by decide +kernel
theorem dX12_here_27 : decode cX12_here 27 = .ok (.iconst (-1), 1) := by decide +kernel
theorem dX12_here_28 : decode cX12_here 28 = .ok (.ireturn, 1) := by decide +kernel
theorem dX12_fine_0 : decode cX12_fine 0 = .ok (.aload_n 0, 1) := by decide +kernel
theorem dX12_fine_1 : decode cX12_fine 1 = .ok (.getfield 189, 3) := by decide +kernel
theorem dX12_fine_4 : decode cX12_fine 4 = .ok (.iconst (-1), 1) := by decide +kernel
theorem dX12_fine_5 : decode cX12_fine 5 = .ok (.if_icmp .ne 7, 3) := by decide +kernel
theorem dX12_fine_8 : decode cX12_fine 8 = .ok (.iconst 1, 1) := by decide +kernel
theorem dX12_fine_9 : decode cX12_fine 9 = .ok (.goto 4, 3) := by decide +kernel
theorem dX12_fine_12 : decode cX12_fine 12 = .ok (.iconst 0, 1) := by decide +kernel
theorem dX12_fine_13 : decode cX12_fine 13 = .ok (.ireturn, 1) := by decide +kernel
theorem dX12_fault_0 : decode cX12_fault 0 = .ok (.aload_n 0, 1) := by decide +kernel
theorem dX12_fault_1 : decode cX12_fault 1 = .ok (.invokevirtual 192, 3) := by decide +kernel
theorem dX12_fault_4 : decode cX12_fault 4 = .ok (.ifCond .eq 8, 3) := by decide +kernel
theorem dX12_fault_7 : decode cX12_fault 7 = .ok (.aload_n 0, 1) := by decide +kernel
theorem dX12_fault_8 : decode cX12_fault 8 = .ok (.iload_n 1, 1) := by decide +kernel
theorem dX12_fault_9 : decode cX12_fault 9 = .ok (.putfield 189, 3) := by decide +kernel
theorem dX12_fault_12 : decode cX12_fault 12 = .ok (.return_, 1) := by decide +kernel
theorem dX12_oneOf_0 : decode cX12_oneOf 0 = .ok (.aload_n 0, 1) := by decide +kernel
theorem dX12_oneOf_1 : decode cX12_oneOf 1 = .ok (.invokevirtual 192, 3) := by decide +kernel
theorem dX12_oneOf_4 : decode cX12_oneOf 4 = .ok (.ifCond .ne 5, 3) := by decide +kernel
theorem dX12_oneOf_7 : decode cX12_oneOf 7 = .ok (.iconst 0, 1) := by decide +kernel
theorem dX12_oneOf_8 : decode cX12_oneOf 8 = .ok (.ireturn, 1) := by decide +kernel
theorem dX12_oneOf_9 : decode cX12_oneOf 9 = .ok (.aload_n 0, 1) := by decide +kernel
theorem dX12_oneOf_10 : decode cX12_oneOf 10 = .ok (.invokevirtual 196, 3) := by decide +kernel
theorem dX12_oneOf_13 : decode cX12_oneOf 13 = .ok (.iload_n 1, 1) := by decide +kernel
theorem dX12_oneOf_14 : decode cX12_oneOf 14 = .ok (.iload_n 1, 1) := by decide +kernel
theorem dX12_oneOf_15 : decode cX12_oneOf 15 = .ok (.iload_n 2, 1) := by decide +kernel
theorem dX12_oneOf_16 : decode cX12_oneOf 16 = .ok (.iadd, 1) := by decide +kernel
theorem dX12_oneOf_17 : decode cX12_oneOf 17 = .ok (.iconst 1, 1) := by decide +kernel
theorem dX12_oneOf_18 : decode cX12_oneOf 18 = .ok (.isub, 1) := by decide +kernel
theorem dX12_oneOf_19 : decode cX12_oneOf 19 = .ok (.invokestatic 179, 3) := by decide +kernel
theorem dX12_oneOf_22 : decode cX12_oneOf 22 = .ok (.ifCond .ne 13, 3) := by decide +kernel
theorem dX12_oneOf_25 : decode cX12_oneOf 25 = .ok (.aload_n 0, 1) := by decide +kernel
theorem dX12_oneOf_26 : decode cX12_oneOf 26 = .ok (.aload_n 0, 1) := by decide +kernel
theorem dX12_oneOf_27 : decode cX12_oneOf 27 = .ok (.getfield 186, 3) := by decide +kernel
theorem dX12_oneOf_30 : decode cX12_oneOf 30 = .ok (.invokevirtual 200, 3) := by decide +kernel
theorem dX12_oneOf_33 : decode cX12_oneOf 33 = .ok (.iconst 0, 1) := by decide +kernel
theorem dX12_oneOf_34 : decode cX12_oneOf 34 = .ok (.ireturn, 1) := by decide +kernel
theorem dX12_oneOf_35 : decode cX12_oneOf 35 = .ok (.aload_n 0, 1) := by decide +kernel
theorem dX12_oneOf_36 : decode cX12_oneOf 36 = .ok (.dup, 1) := by decide +kernel
theorem dX12_oneOf_37 : decode cX12_oneOf 37 = .ok (.getfield 186, 3) := by decide +kernel
theorem dX12_oneOf_40 : decode cX12_oneOf 40 = .ok (.iconst 1, 1) := by decide +kernel
theorem dX12_oneOf_41 : decode cX12_oneOf 41 = .ok (.iadd, 1) := by decide +kernel
theorem dX12_oneOf_42 : decode cX12_oneOf 42 = .ok (.putfield 186, 3) := by decide +kernel
theorem dX12_oneOf_45 : decode cX12_oneOf 45 = .ok (.aload_n 0, 1) := by decide +kernel
theorem dX12_oneOf_46 : decode cX12_oneOf 46 = .ok (.getfield 13, 3) := by decide +kernel
theorem dX12_oneOf_49 : decode cX12_oneOf 49 = .ok (.aload_n 0, 1) := by decide +kernel
theorem dX12_oneOf_50 : decode cX12_oneOf 50 = .ok (.getfield 186, 3) := by decide +kernel
theorem dX12_oneOf_53 : decode cX12_oneOf 53 = .ok (.iconst 1, 1) := by decide +kernel
theorem dX12_oneOf_54 : decode cX12_oneOf 54 = .ok (.isub, 1) := by decide +kernel
theorem dX12_oneOf_55 : decode cX12_oneOf 55 = .ok (.baload, 1) := by decide +kernel
theorem dX12_oneOf_56 : decode cX12_oneOf 56 = .ok (.iload_n 1, 1) := by decide +kernel
theorem dX12_oneOf_57 : decode cX12_oneOf 57 = .ok (.isub, 1) := by decide +kernel
theorem dX12_oneOf_58 : decode cX12_oneOf 58 = .ok (.ireturn, 1) := by decide +kernel
theorem dX12_wasRight_0 : decode cX12_wasRight 0 = .ok (.aload_n 0, 1) := by decide +kernel
theorem dX12_wasRight_1 : decode cX12_wasRight 1 = .ok (.getfield 186, 3) := by decide +kernel
theorem dX12_wasRight_4 : decode cX12_wasRight 4 = .ok (.aload_n 0, 1) := by decide +kernel
theorem dX12_wasRight_5 : decode cX12_wasRight 5 = .ok (.getfield 183, 3) := by decide +kernel
theorem dX12_wasRight_8 : decode cX12_wasRight 8 = .ok (.if_icmp .ge 11, 3) := by decide +kernel
theorem dX12_wasRight_11 : decode cX12_wasRight 11 = .ok (.aload_n 0, 1) := by decide +kernel
theorem dX12_wasRight_12 : decode cX12_wasRight 12 = .ok (.aload_n 0, 1) := by decide +kernel
theorem dX12_wasRight_13 : decode cX12_wasRight 13 = .ok (.getfield 186, 3) := by decide +kernel
theorem dX12_wasRight_16 : decode cX12_wasRight 16 = .ok (.invokevirtual 200, 3) := by decide +kernel
theorem dX12_wasRight_19 : decode cX12_wasRight 19 = .ok (.aload_n 0, 1) := by decide +kernel
theorem dX12_wasRight_20 : decode cX12_wasRight 20 = .ok (.invokevirtual 192, 3) := by decide +kernel
theorem dX12_wasRight_23 : decode cX12_wasRight 23 = .ok (.ireturn, 1) := by decide +kernel
theorem dX12_readPair_0 : decode cX12_readPair 0 = .ok (.aload_n 0, 1) := by decide +kernel
theorem dX12_readPair_1 : decode cX12_readPair 1 = .ok (.bipush 48, 2) := by decide +kernel
theorem dX12_readPair_3 : decode cX12_readPair 3 = .ok (.aload_n 0, 1) := by decide +kernel
theorem dX12_readPair_4 : decode cX12_readPair 4 = .ok (.getfield 45, 3) := by decide +kernel
theorem dX12_readPair_7 : decode cX12_readPair 7 = .ok (.iconst 0, 1) := by decide +kernel
theorem dX12_readPair_8 : decode cX12_readPair 8 = .ok (.iaload, 1) := by decide +kernel
theorem dX12_readPair_9 : decode cX12_readPair 9 = .ok (.invokevirtual 204, 3) := by decide +kernel
theorem dX12_readPair_12 : decode cX12_readPair 12 = .ok (.istore_n 1, 1) := by decide +kernel
theorem dX12_readPair_13 : decode cX12_readPair 13 = .ok (.aload_n 0, 1) := by decide +kernel
theorem dX12_readPair_14 : decode cX12_readPair 14 = .ok (.bipush 48, 2) := by decide +kernel
theorem dX12_readPair_16 : decode cX12_readPair 16 = .ok (.iconst 4, 1) := by decide +kernel
theorem dX12_readPair_17 : decode cX12_readPair 17 = .ok (.invokevirtual 204, 3) := by decide +kernel
theorem dX12_readPair_20 : decode cX12_readPair 20 = .ok (.istore_n 2, 1) := by decide +kernel
theorem dX12_readPair_21 : decode cX12_readPair 21 = .ok (.aload_n 0, 1) := by decide +kernel
theorem dX12_readPair_22 : decode cX12_readPair 22 = .ok (.invokevirtual 192, 3) := by decide +kernel
theorem dX12_readPair_25 : decode cX12_readPair 25 = .ok (.ifCond .eq 26, 3) := by decide +kernel
theorem dX12_readPair_28 : decode cX12_readPair 28 = .ok (.aload_n 0, 1) := by decide +kernel
theorem dX12_readPair_29 : decode cX12_readPair 29 = .ok (.getfield 45, 3) := by decide +kernel
theorem dX12_readPair_32 : decode cX12_readPair 32 = .ok (.iload_n 1, 1) := by decide +kernel
theorem dX12_readPair_33 : decode cX12_readPair 33 = .ok (.iload_n 2, 1) := by decide +kernel
theorem dX12_readPair_34 : decode cX12_readPair 34 = .ok (.invokestatic 150, 3) := by decide +kernel
theorem dX12_readPair_37 : decode cX12_readPair 37 = .ok (.iconst (-1), 1) := by decide +kernel
theorem dX12_readPair_38 : decode cX12_readPair 38 = .ok (.if_icmp .eq 13, 3) := by decide +kernel
theorem dX12_readPair_41 : decode cX12_readPair 41 = .ok (.aload_n 0, 1) := by decide +kernel
theorem dX12_readPair_42 : decode cX12_readPair 42 = .ok (.aload_n 0, 1) := by decide +kernel
theorem dX12_readPair_43 : decode cX12_readPair 43 = .ok (.getfield 186, 3) := by decide +kernel
theorem dX12_readPair_46 : decode cX12_readPair 46 = .ok (.iconst 1, 1) := by decide +kernel
theorem dX12_readPair_47 : decode cX12_readPair 47 = .ok (.isub, 1) := by decide +kernel
theorem dX12_readPair_48 : decode cX12_readPair 48 = .ok (.invokevirtual 200, 3) := by decide +kernel
theorem dX12_readPair_51 : decode cX12_readPair 51 = .ok (.aload_n 0, 1) := by decide +kernel
theorem dX12_readPair_52 : decode cX12_readPair 52 = .ok (.bipush 48, 2) := by decide +kernel
theorem dX12_readPair_54 : decode cX12_readPair 54 = .ok (.aload_n 0, 1) := by decide +kernel
theorem dX12_readPair_55 : decode cX12_readPair 55 = .ok (.getfield 45, 3) := by decide +kernel
theorem dX12_readPair_58 : decode cX12_readPair 58 = .ok (.iconst 0, 1) := by decide +kernel
theorem dX12_readPair_59 : decode cX12_readPair 59 = .ok (.iaload, 1) := by decide +kernel
theorem dX12_readPair_60 : decode cX12_readPair 60 = .ok (.invokevirtual 204, 3) := by decide +kernel
theorem dX12_readPair_63 : decode cX12_readPair 63 = .ok (.istore_n 3, 1) := by decide +kernel
theorem dX12_readPair_64 : decode cX12_readPair 64 = .ok (.aload_n 0, 1) := by decide +kernel
theorem dX12_readPair_65 : decode cX12_readPair 65 = .ok (.bipush 97, 2) := by decide +kernel
theorem dX12_readPair_67 : decode cX12_readPair 67 = .ok (.bipush 24, 2) := by decide +kernel
theorem dX12_readPair_69 : decode cX12_readPair 69 = .ok (.invokevirtual 204, 3) := by decide +kernel
theorem dX12_readPair_72 : decode cX12_readPair 72 = .ok (.istore 4, 2) := by decide +kernel
theorem dX12_readPair_74 : decode cX12_readPair 74 = .ok (.aload_n 0, 1) := by decide +kernel
theorem dX12_readPair_75 : decode cX12_readPair 75 = .ok (.invokevirtual 192, 3) := by decide +kernel
theorem dX12_readPair_78 : decode cX12_readPair 78 = .ok (.ifCond .ne 4, 3) := by decide +kernel
theorem dX12_readPair_81 : decode cX12_readPair 81 = .ok (.return_, 1) := by decide +kernel
theorem dX12_readPair_82 : decode cX12_readPair 82 = .ok (.aload_n 0, 1) := by decide +kernel
theorem dX12_readPair_83 : decode cX12_readPair 83 = .ok (.getfield 45, 3) := by decide +kernel
theorem dX12_readPair_86 : decode cX12_readPair 86 = .ok (.iload_n 3, 1) := by decide +kernel
theorem dX12_readPair_87 : decode cX12_readPair 87 = .ok (.iload 4, 2) := by decide +kernel
theorem dX12_readPair_89 : decode cX12_readPair 89 = .ok (.iload_n 2, 1) := by decide +kernel
theorem dX12_readPair_90 : decode cX12_readPair 90 = .ok (.invokestatic 124, 3) := by decide +kernel
theorem dX12_readPair_93 : decode cX12_readPair 93 = .ok (.invokestatic 150, 3) := by decide +kernel
theorem dX12_readPair_96 : decode cX12_readPair 96 = .ok (.iconst (-1), 1) := by decide +kernel
theorem dX12_readPair_97 : decode cX12_readPair 97 = .ok (.if_icmp .ne 18, 3) := by decide +kernel
theorem dX12_readPair_100 : decode cX12_readPair 100 = .ok (.iload_n 3, 1) := by decide +kernel
theorem dX12_readPair_101 : decode cX12_readPair 101 = .ok (.iload_n 1, 1) := by decide +kernel
theorem dX12_readPair_102 : decode cX12_readPair 102 = .ok (.if_icmp .ne 26, 3) := by decide +kernel
theorem dX12_readPair_105 : decode cX12_readPair 105 = .ok (.iload 4, 2) := by decide +kernel
theorem dX12_readPair_107 : decode cX12_readPair 107 = .ok (.iload_n 2, 1) := by decide +kernel
theorem dX12_readPair_108 : decode cX12_readPair 108 = .ok (.invokestatic 124, 3) := by decide +kernel
theorem dX12_readPair_111 : decode cX12_readPair 111 = .ok (.iload_n 2, 1) := by decide +kernel
theorem dX12_readPair_112 : decode cX12_readPair 112 = .ok (.if_icmp .ne 16, 3) := by decide +kernel
theorem dX12_readPair_115 : decode cX12_readPair 115 = .ok (.aload_n 0, 1) := by decide +kernel
theorem dX12_readPair_116 : decode cX12_readPair 116 = .ok (.aload_n 0, 1) := by decide +kernel
theorem dX12_readPair_117 : decode cX12_readPair 117 = .ok (.getfield 186, 3) := by decide +kernel
theorem dX12_readPair_120 : decode cX12_readPair 120 = .ok (.iconst 1, 1) := by decide +kernel
theorem dX12_readPair_121 : decode cX12_readPair 121 = .ok (.isub, 1) := by decide +kernel
theorem dX12_readPair_122 : decode cX12_readPair 122 = .ok (.invokevirtual 200, 3) := by decide +kernel
theorem dX12_readPair_125 : decode cX12_readPair 125 = .ok (.goto 15, 3) := by decide +kernel
theorem dX12_readPair_128 : decode cX12_readPair 128 = .ok (.aload_n 0, 1) := by decide +kernel
theorem dX12_readPair_129 : decode cX12_readPair 129 = .ok (.getfield 45, 3) := by decide +kernel
theorem dX12_readPair_132 : decode cX12_readPair 132 = .ok (.iload_n 1, 1) := by decide +kernel
theorem dX12_readPair_133 : decode cX12_readPair 133 = .ok (.iload_n 2, 1) := by decide +kernel
theorem dX12_readPair_134 : decode cX12_readPair 134 = .ok (.iload_n 3, 1) := by decide +kernel
theorem dX12_readPair_135 : decode cX12_readPair 135 = .ok (.iload 4, 2) := by decide +kernel
theorem dX12_readPair_137 : decode cX12_readPair 137 = .ok (.invokestatic 208, 3) := by decide +kernel
theorem dX12_readPair_140 : decode cX12_readPair 140 = .ok (.return_, 1) := by decide +kernel
theorem dX12_solid_0 : decode cX12_solid 0 = .ok (.aload_n 0, 1) := by decide +kernel
theorem dX12_solid_1 : decode cX12_solid 1 = .ok (.iconst 0, 1) := by decide +kernel
theorem dX12_solid_2 : decode cX12_solid 2 = .ok (.putfield 128, 3) := by decide +kernel
theorem dX12_solid_5 : decode cX12_solid 5 = .ok (.aload_n 0, 1) := by decide +kernel
theorem dX12_solid_6 : decode cX12_solid 6 = .ok (.invokevirtual 212, 3) := by decide +kernel
theorem dX12_solid_9 : decode cX12_solid 9 = .ok (.iconst 0, 1) := by decide +kernel
theorem dX12_solid_10 : decode cX12_solid 10 = .ok (.istore_n 1, 1) := by decide +kernel
theorem dX12_solid_11 : decode cX12_solid 11 = .ok (.iload_n 1, 1) := by decide +kernel
theorem dX12_solid_12 : decode cX12_solid 12 = .ok (.bipush 33, 2) := by decide +kernel
theorem dX12_solid_14 : decode cX12_solid 14 = .ok (.if_icmp .ge 16, 3) := by decide +kernel
theorem dX12_solid_17 : decode cX12_solid 17 = .ok (.aload_n 0, 1) := by decide +kernel
theorem dX12_solid_18 : decode cX12_solid 18 = .ok (.getfield 45, 3) := by decide +kernel
theorem dX12_solid_21 : decode cX12_solid 21 = .ok (.iload_n 1, 1) := by decide +kernel
theorem dX12_solid_22 : decode cX12_solid 22 = .ok (.iconst (-1), 1) := by decide +kernel
theorem dX12_solid_23 : decode cX12_solid 23 = .ok (.iastore, 1) := by decide +kernel
theorem dX12_solid_24 : decode cX12_solid 24 = .ok (.iinc 1 1, 3) := by decide +kernel
theorem dX12_solid_27 : decode cX12_solid 27 = .ok (.goto (-16), 3) := by decide +kernel
theorem dX12_solid_30 : decode cX12_solid 30 = .ok (.aload_n 0, 1) := by decide +kernel
theorem dX12_solid_31 : decode cX12_solid 31 = .ok (.getfield 45, 3) := by decide +kernel
theorem dX12_solid_34 : decode cX12_solid 34 = .ok (.iconst 0, 1) := by decide +kernel
theorem dX12_solid_35 : decode cX12_solid 35 = .ok (.aload_n 0, 1) := by decide +kernel
theorem dX12_solid_36 : decode cX12_solid 36 = .ok (.bipush 49, 2) := by decide +kernel
theorem dX12_solid_38 : decode cX12_solid 38 = .ok (.bipush 8, 2) := by decide +kernel
theorem dX12_solid_40 : decode cX12_solid 40 = .ok (.invokevirtual 204, 3) := by decide +kernel
theorem dX12_solid_43 : decode cX12_solid 43 = .ok (.iconst 1, 1) := by decide +kernel
theorem dX12_solid_44 : decode cX12_solid 44 = .ok (.iadd, 1) := by decide +kernel
theorem dX12_solid_45 : decode cX12_solid 45 = .ok (.iastore, 1) := by decide +kernel
theorem dX12_solid_46 : decode cX12_solid 46 = .ok (.aload_n 0, 1) := by decide +kernel
theorem dX12_solid_47 : decode cX12_solid 47 = .ok (.invokevirtual 192, 3) := by decide +kernel
theorem dX12_solid_50 : decode cX12_solid 50 = .ok (.ifCond .eq 21, 3) := by decide +kernel
theorem dX12_solid_53 : decode cX12_solid 53 = .ok (.aload_n 0, 1) := by decide +kernel
theorem dX12_solid_54 : decode cX12_solid 54 = .ok (.getfield 186, 3) := by decide +kernel
theorem dX12_solid_57 : decode cX12_solid 57 = .ok (.aload_n 0, 1) := by decide +kernel
theorem dX12_solid_58 : decode cX12_solid 58 = .ok (.getfield 183, 3) := by decide +kernel
theorem dX12_solid_61 : decode cX12_solid 61 = .ok (.if_icmp .ge 10, 3) := by decide +kernel
theorem dX12_solid_64 : decode cX12_solid 64 = .ok (.aload_n 0, 1) := by decide +kernel
theorem dX12_solid_65 : decode cX12_solid 65 = .ok (.invokevirtual 215, 3) := by decide +kernel
theorem dX12_solid_68 : decode cX12_solid 68 = .ok (.goto (-22), 3) := by decide +kernel
theorem dX12_solid_71 : decode cX12_solid 71 = .ok (.aload_n 0, 1) := by decide +kernel
theorem dX12_solid_72 : decode cX12_solid 72 = .ok (.invokevirtual 218, 3) := by decide +kernel
theorem dX12_solid_75 : decode cX12_solid 75 = .ok (.ifCond .ne 10, 3) := by decide +kernel
theorem dX12_solid_78 : decode cX12_solid 78 = .ok (.iconst (-1), 1) := by decide +kernel
theorem dX12_solid_79 : decode cX12_solid 79 = .ok (.aload_n 0, 1) := by decide +kernel
theorem dX12_solid_80 : decode cX12_solid 80 = .ok (.getfield 189, 3) := by decide +kernel
theorem dX12_solid_83 : decode cX12_solid 83 = .ok (.isub, 1) := by decide +kernel
theorem dX12_solid_84 : decode cX12_solid 84 = .ok (.ireturn, 1) := by decide +kernel
theorem dX12_solid_85 : decode cX12_solid 85 = .ok (.aload_n 0, 1) := by decide +kernel
theorem dX12_solid_86 : decode cX12_solid 86 = .ok (.aload_n 0, 1) := by decide +kernel
theorem dX12_solid_87 : decode cX12_solid 87 = .ok (.getfield 45, 3) := by decide +kernel
theorem dX12_solid_90 : decode cX12_solid 90 = .ok (.invokevirtual 221, 3) := by decide +kernel
theorem dX12_solid_93 : decode cX12_solid 93 = .ok (.ifCond .ne 7, 3) := by decide +kernel
theorem dX12_solid_96 : decode cX12_solid 96 = .ok (.sipush (-200), 3) := by decide +kernel
theorem dX12_solid_99 : decode cX12_solid 99 = .ok (.ireturn, 1) := by decide +kernel
theorem dX12_solid_100 : decode cX12_solid 100 = .ok (.aload_n 0, 1) := by decide +kernel
theorem dX12_solid_101 : decode cX12_solid 101 = .ok (.aload_n 0, 1) := by decide +kernel
theorem dX12_solid_102 : decode cX12_solid 102 = .ok (.getfield 45, 3) := by decide +kernel
theorem dX12_solid_105 : decode cX12_solid 105 = .ok (.invokevirtual 224, 3) := by decide +kernel
theorem dX12_solid_108 : decode cX12_solid 108 = .ok (.aload_n 0, 1) := by decide +kernel
theorem dX12_solid_109 : decode cX12_solid 109 = .ok (.getfield 9, 3) := by decide +kernel
theorem dX12_solid_112 : decode cX12_solid 112 = .ok (.iconst 0, 1) := by decide +kernel
theorem dX12_solid_113 : decode cX12_solid 113 = .ok (.iaload, 1) := by decide +kernel
theorem dX12_solid_114 : decode cX12_solid 114 = .ok (.ireturn, 1) := by decide +kernel
theorem dX12_glued_0 : decode cX12_glued 0 = .ok (.aload_n 0, 1) := by decide +kernel
theorem dX12_glued_1 : decode cX12_glued 1 = .ok (.iconst 0, 1) := by decide +kernel
theorem dX12_glued_2 : decode cX12_glued 2 = .ok (.putfield 128, 3) := by decide +kernel
theorem dX12_glued_5 : decode cX12_glued 5 = .ok (.iload_n 1, 1) := by decide +kernel
theorem dX12_glued_6 : decode cX12_glued 6 = .ok (.iconst 0, 1) := by decide +kernel
theorem dX12_glued_7 : decode cX12_glued 7 = .ok (.aload_n 0, 1) := by decide +kernel
theorem dX12_glued_8 : decode cX12_glued 8 = .ok (.getfield 9, 3) := by decide +kernel
theorem dX12_glued_11 : decode cX12_glued 11 = .ok (.iconst 0, 1) := by decide +kernel
theorem dX12_glued_12 : decode cX12_glued 12 = .ok (.iaload, 1) := by decide +kernel
theorem dX12_glued_13 : decode cX12_glued 13 = .ok (.iconst 1, 1) := by decide +kernel
theorem dX12_glued_14 : decode cX12_glued 14 = .ok (.isub, 1) := by decide +kernel
theorem dX12_glued_15 : decode cX12_glued 15 = .ok (.invokestatic 179, 3) := by decide +kernel
theorem dX12_glued_18 : decode cX12_glued 18 = .ok (.ifCond .eq 21, 3) := by decide +kernel
theorem dX12_glued_21 : decode cX12_glued 21 = .ok (.iload_n 2, 1) := by decide +kernel
theorem dX12_glued_22 : decode cX12_glued 22 = .ok (.iconst 0, 1) := by decide +kernel
theorem dX12_glued_23 : decode cX12_glued 23 = .ok (.iconst 3, 1) := by decide +kernel
theorem dX12_glued_24 : decode cX12_glued 24 = .ok (.invokestatic 179, 3) := by decide +kernel
theorem dX12_glued_27 : decode cX12_glued 27 = .ok (.ifCond .eq 12, 3) := by decide +kernel
theorem dX12_glued_30 : decode cX12_glued 30 = .ok (.iload_n 3, 1) := by decide +kernel
theorem dX12_glued_31 : decode cX12_glued 31 = .ok (.iconst 0, 1) := by decide +kernel
theorem dX12_glued_32 : decode cX12_glued 32 = .ok (.iconst 2, 1) := by decide +kernel
theorem dX12_glued_33 : decode cX12_glued 33 = .ok (.invokestatic 179, 3) := by decide +kernel
theorem dX12_glued_36 : decode cX12_glued 36 = .ok (.ifCond .ne 8, 3) := by decide +kernel
theorem dX12_glued_39 : decode cX12_glued 39 = .ok (.aload_n 0, 1) := by decide +kernel
theorem dX12_glued_40 : decode cX12_glued 40 = .ok (.invokevirtual 228, 3) := by decide +kernel
theorem dX12_glued_43 : decode cX12_glued 43 = .ok (.ireturn, 1) := by decide +kernel
theorem dX12_glued_44 : decode cX12_glued 44 = .ok (.aload_n 0, 1) := by decide +kernel
theorem dX12_glued_45 : decode cX12_glued 45 = .ok (.getfield 9, 3) := by decide +kernel
theorem dX12_glued_48 : decode cX12_glued 48 = .ok (.iload_n 1, 1) := by decide +kernel
theorem dX12_glued_49 : decode cX12_glued 49 = .ok (.iload_n 2, 1) := by decide +kernel
theorem dX12_glued_50 : decode cX12_glued 50 = .ok (.invokestatic 150, 3) := by decide +kernel
theorem dX12_glued_53 : decode cX12_glued 53 = .ok (.istore 4, 2) := by decide +kernel
theorem dX12_glued_55 : decode cX12_glued 55 = .ok (.iload 4, 2) := by decide +kernel
theorem dX12_glued_57 : decode cX12_glued 57 = .ok (.iconst (-1), 1) := by decide +kernel
theorem dX12_glued_58 : decode cX12_glued 58 = .ok (.if_icmp .ne 5, 3) := by decide +kernel
theorem dX12_glued_61 : decode cX12_glued 61 = .ok (.iconst (-1), 1) := by decide +kernel
theorem dX12_glued_62 : decode cX12_glued 62 = .ok (.ireturn, 1) := by decide +kernel
theorem dX12_glued_63 : decode cX12_glued 63 = .ok (.iload_n 3, 1) := by decide +kernel
theorem dX12_glued_64 : decode cX12_glued 64 = .ok (.ifCond .ne 11, 3) := by decide +kernel
theorem dX12_glued_67 : decode cX12_glued 67 = .ok (.iload 4, 2) := by decide +kernel
theorem dX12_glued_69 : decode cX12_glued 69 = .ok (.bipush 24, 2) := by decide +kernel
theorem dX12_glued_71 : decode cX12_glued 71 = .ok (.idiv, 1) := by decide +kernel
theorem dX12_glued_72 : decode cX12_glued 72 = .ok (.goto 25, 3) := by decide +kernel
theorem dX12_glued_75 : decode cX12_glued 75 = .ok (.iload_n 3, 1) := by decide +kernel
theorem dX12_glued_76 : decode cX12_glued 76 = .ok (.iconst 1, 1) := by decide +kernel
theorem dX12_glued_77 : decode cX12_glued 77 = .ok (.if_icmp .ne 11, 3) := by decide +kernel
theorem dX12_glued_80 : decode cX12_glued 80 = .ok (.iload 4, 2) := by decide +kernel
theorem dX12_glued_82 : decode cX12_glued 82 = .ok (.bipush 24, 2) := by decide +kernel
theorem dX12_glued_84 : decode cX12_glued 84 = .ok (.irem, 1) := by decide +kernel
theorem dX12_glued_85 : decode cX12_glued 85 = .ok (.goto 12, 3) := by decide +kernel
theorem dX12_glued_88 : decode cX12_glued 88 = .ok (.iload 4, 2) := by decide +kernel
theorem dX12_glued_90 : decode cX12_glued 90 = .ok (.bipush 24, 2) := by decide +kernel
theorem dX12_glued_92 : decode cX12_glued 92 = .ok (.irem, 1) := by decide +kernel
theorem dX12_glued_93 : decode cX12_glued 93 = .ok (.iload_n 2, 1) := by decide +kernel
theorem dX12_glued_94 : decode cX12_glued 94 = .ok (.invokestatic 124, 3) := by decide +kernel
theorem dX12_glued_97 : decode cX12_glued 97 = .ok (.ireturn, 1) := by decide +kernel
theorem dX12_shows_0 : decode cX12_shows 0 = .ok (.aload_n 0, 1) := by decide +kernel
theorem dX12_shows_1 : decode cX12_shows 1 = .ok (.iconst 0, 1) := by decide +kernel
theorem dX12_shows_2 : decode cX12_shows 2 = .ok (.putfield 128, 3) := by decide +kernel
theorem dX12_shows_5 : decode cX12_shows 5 = .ok (.aload_n 0, 1) := by decide +kernel
theorem dX12_shows_6 : decode cX12_shows 6 = .ok (.iconst 0, 1) := by decide +kernel
theorem dX12_shows_7 : decode cX12_shows 7 = .ok (.putfield 132, 3) := by decide +kernel
theorem dX12_shows_10 : decode cX12_shows 10 = .ok (.aload_n 0, 1) := by decide +kernel
theorem dX12_shows_11 : decode cX12_shows 11 = .ok (.bipush 48, 2) := by decide +kernel
theorem dX12_shows_13 : decode cX12_shows 13 = .ok (.aload_n 0, 1) := by decide +kernel
theorem dX12_shows_14 : decode cX12_shows 14 = .ok (.getfield 9, 3) := by decide +kernel
theorem dX12_shows_17 : decode cX12_shows 17 = .ok (.iconst 0, 1) := by decide +kernel
theorem dX12_shows_18 : decode cX12_shows 18 = .ok (.iaload, 1) := by decide +kernel
theorem dX12_shows_19 : decode cX12_shows 19 = .ok (.iadd, 1) := by decide +kernel
theorem dX12_shows_20 : decode cX12_shows 20 = .ok (.i2l, 1) := by decide +kernel
theorem dX12_shows_21 : decode cX12_shows 21 = .ok (.invokevirtual 231, 3) := by decide +kernel
theorem dX12_shows_24 : decode cX12_shows 24 = .ok (.iconst 0, 1) := by decide +kernel
theorem dX12_shows_25 : decode cX12_shows 25 = .ok (.istore_n 1, 1) := by decide +kernel
theorem dX12_shows_26 : decode cX12_shows 26 = .ok (.iload_n 1, 1) := by decide +kernel
theorem dX12_shows_27 : decode cX12_shows 27 = .ok (.aload_n 0, 1) := by decide +kernel
theorem dX12_shows_28 : decode cX12_shows 28 = .ok (.getfield 9, 3) := by decide +kernel
theorem dX12_shows_31 : decode cX12_shows 31 = .ok (.iconst 0, 1) := by decide +kernel
theorem dX12_shows_32 : decode cX12_shows 32 = .ok (.iaload, 1) := by decide +kernel
theorem dX12_shows_33 : decode cX12_shows 33 = .ok (.if_icmp .ge 105, 3) := by decide +kernel
theorem dX12_shows_36 : decode cX12_shows 36 = .ok (.iconst 0, 1) := by decide +kernel
theorem dX12_shows_37 : decode cX12_shows 37 = .ok (.istore_n 2, 1) := by decide +kernel
theorem dX12_shows_38 : decode cX12_shows 38 = .ok (.iload_n 2, 1) := by decide +kernel
theorem dX12_shows_39 : decode cX12_shows 39 = .ok (.iconst 4, 1) := by decide +kernel
theorem dX12_shows_40 : decode cX12_shows 40 = .ok (.if_icmp .ge 92, 3) := by decide +kernel
theorem dX12_shows_43 : decode cX12_shows 43 = .ok (.aload_n 0, 1) := by decide +kernel
theorem dX12_shows_44 : decode cX12_shows 44 = .ok (.getfield 9, 3) := by decide +kernel
theorem dX12_shows_47 : decode cX12_shows 47 = .ok (.iload_n 1, 1) := by decide +kernel
theorem dX12_shows_48 : decode cX12_shows 48 = .ok (.iload_n 2, 1) := by decide +kernel
theorem dX12_shows_49 : decode cX12_shows 49 = .ok (.invokestatic 150, 3) := by decide +kernel
theorem dX12_shows_52 : decode cX12_shows 52 = .ok (.istore_n 3, 1) := by decide +kernel
theorem dX12_shows_53 : decode cX12_shows 53 = .ok (.iload_n 3, 1) := by decide +kernel
theorem dX12_shows_54 : decode cX12_shows 54 = .ok (.iconst (-1), 1) := by decide +kernel
theorem dX12_shows_55 : decode cX12_shows 55 = .ok (.if_icmp .eq 71, 3) := by decide +kernel
theorem dX12_shows_58 : decode cX12_shows 58 = .ok (.iconst 4, 1) := by decide +kernel
theorem dX12_shows_59 : decode cX12_shows 59 = .ok (.iload_n 3, 1) := by decide +kernel
theorem dX12_shows_60 : decode cX12_shows 60 = .ok (.bipush 24, 2) := by decide +kernel
theorem dX12_shows_62 : decode cX12_shows 62 = .ok (.idiv, 1) := by decide +kernel
theorem dX12_shows_63 : decode cX12_shows 63 = .ok (.imul, 1) := by decide +kernel
theorem dX12_shows_64 : decode cX12_shows 64 = .ok (.iload_n 3, 1) := by decide +kernel
theorem dX12_shows_65 : decode cX12_shows 65 = .ok (.bipush 24, 2) := by decide +kernel
theorem dX12_shows_67 : decode cX12_shows 67 = .ok (.irem, 1) := by decide +kernel
theorem dX12_shows_68 : decode cX12_shows 68 = .ok (.iload_n 2, 1) := by decide +kernel
theorem dX12_shows_69 : decode cX12_shows 69 = .ok (.invokestatic 124, 3) := by decide +kernel
theorem dX12_shows_72 : decode cX12_shows 72 = .ok (.iadd, 1) := by decide +kernel
theorem dX12_shows_73 : decode cX12_shows 73 = .ok (.iconst 4, 1) := by decide +kernel
theorem dX12_shows_74 : decode cX12_shows 74 = .ok (.iload_n 1, 1) := by decide +kernel
theorem dX12_shows_75 : decode cX12_shows 75 = .ok (.imul, 1) := by decide +kernel
theorem dX12_shows_76 : decode cX12_shows 76 = .ok (.iload_n 2, 1) := by decide +kernel
theorem dX12_shows_77 : decode cX12_shows 77 = .ok (.iadd, 1) := by decide +kernel
theorem dX12_shows_78 : decode cX12_shows 78 = .ok (.if_icmp .ge 6, 3) := by decide +kernel
theorem dX12_shows_81 : decode cX12_shows 81 = .ok (.goto 45, 3) := by decide +kernel
theorem dX12_shows_84 : decode cX12_shows 84 = .ok (.aload_n 0, 1) := by decide +kernel
theorem dX12_shows_85 : decode cX12_shows 85 = .ok (.bipush 48, 2) := by decide +kernel
theorem dX12_shows_87 : decode cX12_shows 87 = .ok (.iload_n 1, 1) := by decide +kernel
theorem dX12_shows_88 : decode cX12_shows 88 = .ok (.iadd, 1) := by decide +kernel
theorem dX12_shows_89 : decode cX12_shows 89 = .ok (.i2l, 1) := by decide +kernel
theorem dX12_shows_90 : decode cX12_shows 90 = .ok (.invokevirtual 231, 3) := by decide +kernel
theorem dX12_shows_93 : decode cX12_shows 93 = .ok (.aload_n 0, 1) := by decide +kernel
theorem dX12_shows_94 : decode cX12_shows 94 = .ok (.bipush 48, 2) := by decide +kernel
theorem dX12_shows_96 : decode cX12_shows 96 = .ok (.iload_n 2, 1) := by decide +kernel
theorem dX12_shows_97 : decode cX12_shows 97 = .ok (.iadd, 1) := by decide +kernel
theorem dX12_shows_98 : decode cX12_shows 98 = .ok (.i2l, 1) := by decide +kernel
theorem dX12_shows_99 : decode cX12_shows 99 = .ok (.invokevirtual 231, 3) := by decide +kernel
theorem dX12_shows_102 : decode cX12_shows 102 = .ok (.aload_n 0, 1) := by decide +kernel
theorem dX12_shows_103 : decode cX12_shows 103 = .ok (.bipush 48, 2) := by decide +kernel
theorem dX12_shows_105 : decode cX12_shows 105 = .ok (.iload_n 3, 1) := by decide +kernel
theorem dX12_shows_106 : decode cX12_shows 106 = .ok (.bipush 24, 2) := by decide +kernel
theorem dX12_shows_108 : decode cX12_shows 108 = .ok (.idiv, 1) := by decide +kernel
theorem dX12_shows_109 : decode cX12_shows 109 = .ok (.iadd, 1) := by decide +kernel
theorem dX12_shows_110 : decode cX12_shows 110 = .ok (.i2l, 1) := by decide +kernel
theorem dX12_shows_111 : decode cX12_shows 111 = .ok (.invokevirtual 231, 3) := by decide +kernel
theorem dX12_shows_114 : decode cX12_shows 114 = .ok (.aload_n 0, 1) := by decide +kernel
theorem dX12_shows_115 : decode cX12_shows 115 = .ok (.bipush 97, 2) := by decide +kernel
theorem dX12_shows_117 : decode cX12_shows 117 = .ok (.iload_n 3, 1) := by decide +kernel
theorem dX12_shows_118 : decode cX12_shows 118 = .ok (.bipush 24, 2) := by decide +kernel
theorem dX12_shows_120 : decode cX12_shows 120 = .ok (.irem, 1) := by decide +kernel
theorem dX12_shows_121 : decode cX12_shows 121 = .ok (.iadd, 1) := by decide +kernel
theorem dX12_shows_122 : decode cX12_shows 122 = .ok (.i2l, 1) := by decide +kernel
theorem dX12_shows_123 : decode cX12_shows 123 = .ok (.invokevirtual 231, 3) := by decide +kernel
theorem dX12_shows_126 : decode cX12_shows 126 = .ok (.iinc 2 1, 3) := by decide +kernel
theorem dX12_shows_129 : decode cX12_shows 129 = .ok (.goto (-91), 3) := by decide +kernel
theorem dX12_shows_132 : decode cX12_shows 132 = .ok (.iinc 1 1, 3) := by decide +kernel
theorem dX12_shows_135 : decode cX12_shows 135 = .ok (.goto (-109), 3) := by decide +kernel
theorem dX12_shows_138 : decode cX12_shows 138 = .ok (.aload_n 0, 1) := by decide +kernel
theorem dX12_shows_139 : decode cX12_shows 139 = .ok (.getfield 132, 3) := by decide +kernel
theorem dX12_shows_142 : decode cX12_shows 142 = .ok (.ireturn, 1) := by decide +kernel
theorem dX12_sheet_0 : decode cX12_sheet 0 = .ok (.aload_n 0, 1) := by decide +kernel
theorem dX12_sheet_1 : decode cX12_sheet 1 = .ok (.iconst 0, 1) := by decide +kernel
theorem dX12_sheet_2 : decode cX12_sheet 2 = .ok (.putfield 128, 3) := by decide +kernel
theorem dX12_sheet_5 : decode cX12_sheet 5 = .ok (.iload_n 1, 1) := by decide +kernel
theorem dX12_sheet_6 : decode cX12_sheet 6 = .ok (.iconst 0, 1) := by decide +kernel
theorem dX12_sheet_7 : decode cX12_sheet 7 = .ok (.iconst 3, 1) := by decide +kernel
theorem dX12_sheet_8 : decode cX12_sheet 8 = .ok (.invokestatic 179, 3) := by decide +kernel
theorem dX12_sheet_11 : decode cX12_sheet 11 = .ok (.ifCond .eq 9, 3) := by decide +kernel
theorem dX12_sheet_14 : decode cX12_sheet 14 = .ok (.iload_n 2, 1) := by decide +kernel
theorem dX12_sheet_15 : decode cX12_sheet 15 = .ok (.bipush 32, 2) := by decide +kernel
theorem dX12_sheet_17 : decode cX12_sheet 17 = .ok (.if_icmp .le 5, 3) := by decide +kernel
theorem dX12_sheet_20 : decode cX12_sheet 20 = .ok (.iconst (-1), 1) := by decide +kernel
theorem dX12_sheet_21 : decode cX12_sheet 21 = .ok (.ireturn, 1) := by decide +kernel
theorem dX12_sheet_22 : decode cX12_sheet 22 = .ok (.iload_n 1, 1) := by decide +kernel
theorem dX12_sheet_23 : decode cX12_sheet 23 = .ok (.iconst 3, 1) := by decide +kernel
theorem dX12_sheet_24 : decode cX12_sheet 24 = .ok (.if_icmp .ge 10, 3) := by decide +kernel
theorem dX12_sheet_27 : decode cX12_sheet 27 = .ok (.iload_n 2, 1) := by decide +kernel
theorem dX12_sheet_28 : decode cX12_sheet 28 = .ok (.ifCond .ge 6, 3) := by decide +kernel
theorem dX12_sheet_31 : decode cX12_sheet 31 = .ok (.bipush (-2), 2) := by decide +kernel
theorem dX12_sheet_33 : decode cX12_sheet 33 = .ok (.ireturn, 1) := by decide +kernel
theorem dX12_sheet_34 : decode cX12_sheet 34 = .ok (.iload_n 1, 1) := by decide +kernel
theorem dX12_sheet_35 : decode cX12_sheet 35 = .ok (.iconst 3, 1) := by decide +kernel
theorem dX12_sheet_36 : decode cX12_sheet 36 = .ok (.if_icmp .ne 6, 3) := by decide +kernel
theorem dX12_sheet_39 : decode cX12_sheet 39 = .ok (.bipush (-3), 2) := by decide +kernel
theorem dX12_sheet_41 : decode cX12_sheet 41 = .ok (.ireturn, 1) := by decide +kernel
theorem dX12_sheet_42 : decode cX12_sheet 42 = .ok (.aload_n 0, 1) := by decide +kernel
theorem dX12_sheet_43 : decode cX12_sheet 43 = .ok (.getfield 9, 3) := by decide +kernel
theorem dX12_sheet_46 : decode cX12_sheet 46 = .ok (.aload_n 0, 1) := by decide +kernel
theorem dX12_sheet_47 : decode cX12_sheet 47 = .ok (.getfield 45, 3) := by decide +kernel
theorem dX12_sheet_50 : decode cX12_sheet 50 = .ok (.invokestatic 168, 3) := by decide +kernel
theorem dX12_sheet_53 : decode cX12_sheet 53 = .ok (.iload_n 3, 1) := by decide +kernel
theorem dX12_sheet_54 : decode cX12_sheet 54 = .ok (.istore 5, 2) := by decide +kernel
theorem dX12_sheet_56 : decode cX12_sheet 56 = .ok (.iconst 0, 1) := by decide +kernel
theorem dX12_sheet_57 : decode cX12_sheet 57 = .ok (.istore 6, 2) := by decide +kernel
theorem dX12_sheet_59 : decode cX12_sheet 59 = .ok (.iload 6, 2) := by decide +kernel
theorem dX12_sheet_61 : decode cX12_sheet 61 = .ok (.iconst 4, 1) := by decide +kernel
theorem dX12_sheet_62 : decode cX12_sheet 62 = .ok (.aload_n 0, 1) := by decide +kernel
theorem dX12_sheet_63 : decode cX12_sheet 63 = .ok (.getfield 9, 3) := by decide +kernel
theorem dX12_sheet_66 : decode cX12_sheet 66 = .ok (.iconst 0, 1) := by decide +kernel
theorem dX12_sheet_67 : decode cX12_sheet 67 = .ok (.iaload, 1) := by decide +kernel
theorem dX12_sheet_68 : decode cX12_sheet 68 = .ok (.imul, 1) := by decide +kernel
theorem dX12_sheet_69 : decode cX12_sheet 69 = .ok (.if_icmp .ge 118, 3) := by decide +kernel
theorem dX12_sheet_72 : decode cX12_sheet 72 = .ok (.iload_n 1, 1) := by decide +kernel
theorem dX12_sheet_73 : decode cX12_sheet 73 = .ok (.ifCond .ne 9, 3) := by decide +kernel
theorem dX12_sheet_76 : decode cX12_sheet 76 = .ok (.iload 5, 2) := by decide +kernel
theorem dX12_sheet_78 : decode cX12_sheet 78 = .ok (.i2b, 1) := by decide +kernel
theorem dX12_sheet_79 : decode cX12_sheet 79 = .ok (.goto 16, 3) := by decide +kernel
theorem dX12_sheet_82 : decode cX12_sheet 82 = .ok (.iload_n 1, 1) := by decide +kernel
theorem dX12_sheet_83 : decode cX12_sheet 83 = .ok (.iconst 1, 1) := by decide +kernel
theorem dX12_sheet_84 : decode cX12_sheet 84 = .ok (.if_icmp .ne 9, 3) := by decide +kernel
theorem dX12_sheet_87 : decode cX12_sheet 87 = .ok (.iload 5, 2) := by decide +kernel
theorem dX12_sheet_89 : decode cX12_sheet 89 = .ok (.i2s, 1) := by decide +kernel
theorem dX12_sheet_90 : decode cX12_sheet 90 = .ok (.goto 5, 3) := by decide +kernel
theorem dX12_sheet_93 : decode cX12_sheet 93 = .ok (.iload 5, 2) := by decide +kernel
theorem dX12_sheet_95 : decode cX12_sheet 95 = .ok (.istore 7, 2) := by decide +kernel
theorem dX12_sheet_97 : decode cX12_sheet 97 = .ok (.iload 6, 2) := by decide +kernel
theorem dX12_sheet_99 : decode cX12_sheet 99 = .ok (.iconst 4, 1) := by decide +kernel
theorem dX12_sheet_100 : decode cX12_sheet 100 = .ok (.idiv, 1) := by decide +kernel
theorem dX12_sheet_101 : decode cX12_sheet 101 = .ok (.istore 8, 2) := by decide +kernel
theorem dX12_sheet_103 : decode cX12_sheet 103 = .ok (.aload_n 0, 1) := by decide +kernel
theorem dX12_sheet_104 : decode cX12_sheet 104 = .ok (.getfield 45, 3) := by decide +kernel
theorem dX12_sheet_107 : decode cX12_sheet 107 = .ok (.iload 8, 2) := by decide +kernel
theorem dX12_sheet_109 : decode cX12_sheet 109 = .ok (.iload 6, 2) := by decide +kernel
theorem dX12_sheet_111 : decode cX12_sheet 111 = .ok (.iconst 4, 1) := by decide +kernel
theorem dX12_sheet_112 : decode cX12_sheet 112 = .ok (.irem, 1) := by decide +kernel
theorem dX12_sheet_113 : decode cX12_sheet 113 = .ok (.invokestatic 150, 3) := by decide +kernel
theorem dX12_sheet_116 : decode cX12_sheet 116 = .ok (.istore 9, 2) := by decide +kernel
theorem dX12_sheet_118 : decode cX12_sheet 118 = .ok (.iload 6, 2) := by decide +kernel
theorem dX12_sheet_120 : decode cX12_sheet 120 = .ok (.iload_n 2, 1) := by decide +kernel
theorem dX12_sheet_121 : decode cX12_sheet 121 = .ok (.if_icmp .ge 8, 3) := by decide +kernel
theorem dX12_sheet_124 : decode cX12_sheet 124 = .ok (.iload 7, 2) := by decide +kernel
theorem dX12_sheet_126 : decode cX12_sheet 126 = .ok (.ifCond .ge 48, 3) := by decide +kernel
theorem dX12_sheet_129 : decode cX12_sheet 129 = .ok (.iload 9, 2) := by decide +kernel
theorem dX12_sheet_131 : decode cX12_sheet 131 = .ok (.iconst (-1), 1) := by decide +kernel
theorem dX12_sheet_132 : decode cX12_sheet 132 = .ok (.if_icmp .eq 42, 3) := by decide +kernel
theorem dX12_sheet_135 : decode cX12_sheet 135 = .ok (.aload_n 0, 1) := by decide +kernel
theorem dX12_sheet_136 : decode cX12_sheet 136 = .ok (.getfield 45, 3) := by decide +kernel
theorem dX12_sheet_139 : decode cX12_sheet 139 = .ok (.iload 9, 2) := by decide +kernel
theorem dX12_sheet_141 : decode cX12_sheet 141 = .ok (.bipush 24, 2) := by decide +kernel
theorem dX12_sheet_143 : decode cX12_sheet 143 = .ok (.idiv, 1) := by decide +kernel
theorem dX12_sheet_144 : decode cX12_sheet 144 = .ok (.iload 9, 2) := by decide +kernel
theorem dX12_sheet_146 : decode cX12_sheet 146 = .ok (.bipush 24, 2) := by decide +kernel
theorem dX12_sheet_148 : decode cX12_sheet 148 = .ok (.irem, 1) := by decide +kernel
theorem dX12_sheet_149 : decode cX12_sheet 149 = .ok (.iload 6, 2) := by decide +kernel
theorem dX12_sheet_151 : decode cX12_sheet 151 = .ok (.iconst 4, 1) := by decide +kernel
theorem dX12_sheet_152 : decode cX12_sheet 152 = .ok (.irem, 1) := by decide +kernel
theorem dX12_sheet_153 : decode cX12_sheet 153 = .ok (.invokestatic 124, 3) := by decide +kernel
theorem dX12_sheet_156 : decode cX12_sheet 156 = .ok (.iconst (-1), 1) := by decide +kernel
theorem dX12_sheet_157 : decode cX12_sheet 157 = .ok (.invokestatic 138, 3) := by decide +kernel
theorem dX12_sheet_160 : decode cX12_sheet 160 = .ok (.aload_n 0, 1) := by decide +kernel
theorem dX12_sheet_161 : decode cX12_sheet 161 = .ok (.getfield 45, 3) := by decide +kernel
theorem dX12_sheet_164 : decode cX12_sheet 164 = .ok (.iload 8, 2) := by decide +kernel
theorem dX12_sheet_166 : decode cX12_sheet 166 = .ok (.iload 6, 2) := by decide +kernel
theorem dX12_sheet_168 : decode cX12_sheet 168 = .ok (.iconst 4, 1) := by decide +kernel
theorem dX12_sheet_169 : decode cX12_sheet 169 = .ok (.irem, 1) := by decide +kernel
theorem dX12_sheet_170 : decode cX12_sheet 170 = .ok (.iconst (-1), 1) := by decide +kernel
theorem dX12_sheet_171 : decode cX12_sheet 171 = .ok (.invokestatic 138, 3) := by decide +kernel
theorem dX12_sheet_174 : decode cX12_sheet 174 = .ok (.iload 5, 2) := by decide +kernel
theorem dX12_sheet_176 : decode cX12_sheet 176 = .ok (.iload 4, 2) := by decide +kernel
theorem dX12_sheet_178 : decode cX12_sheet 178 = .ok (.iadd, 1) := by decide +kernel
theorem dX12_sheet_179 : decode cX12_sheet 179 = .ok (.istore 5, 2) := by decide +kernel
theorem dX12_sheet_181 : decode cX12_sheet 181 = .ok (.iinc 6 1, 3) := by decide +kernel
theorem dX12_sheet_184 : decode cX12_sheet 184 = .ok (.goto (-125), 3) := by decide +kernel
theorem dX12_sheet_187 : decode cX12_sheet 187 = .ok (.aload_n 0, 1) := by decide +kernel
theorem dX12_sheet_188 : decode cX12_sheet 188 = .ok (.aload_n 0, 1) := by decide +kernel
theorem dX12_sheet_189 : decode cX12_sheet 189 = .ok (.getfield 45, 3) := by decide +kernel
theorem dX12_sheet_192 : decode cX12_sheet 192 = .ok (.invokevirtual 221, 3) := by decide +kernel
theorem dX12_sheet_195 : decode cX12_sheet 195 = .ok (.ifCond .ne 6, 3) := by decide +kernel
theorem dX12_sheet_198 : decode cX12_sheet 198 = .ok (.bipush (-4), 2) := by decide +kernel
theorem dX12_sheet_200 : decode cX12_sheet 200 = .ok (.ireturn, 1) := by decide +kernel
theorem dX12_sheet_201 : decode cX12_sheet 201 = .ok (.aload_n 0, 1) := by decide +kernel
theorem dX12_sheet_202 : decode cX12_sheet 202 = .ok (.getfield 45, 3) := by decide +kernel
theorem dX12_sheet_205 : decode cX12_sheet 205 = .ok (.aload_n 0, 1) := by decide +kernel
theorem dX12_sheet_206 : decode cX12_sheet 206 = .ok (.getfield 9, 3) := by decide +kernel
theorem dX12_sheet_209 : decode cX12_sheet 209 = .ok (.invokestatic 168, 3) := by decide +kernel
theorem dX12_sheet_212 : decode cX12_sheet 212 = .ok (.aload_n 0, 1) := by decide +kernel
theorem dX12_sheet_213 : decode cX12_sheet 213 = .ok (.getfield 9, 3) := by decide +kernel
theorem dX12_sheet_216 : decode cX12_sheet 216 = .ok (.invokestatic 235, 3) := by decide +kernel
theorem dX12_sheet_219 : decode cX12_sheet 219 = .ok (.ireturn, 1) := by decide +kernel
theorem dX12_endAt_0 : decode cX12_endAt 0 = .ok (.bipush 16, 2) := by decide +kernel
theorem dX12_endAt_2 : decode cX12_endAt 2 = .ok (.iload_n 0, 1) := by decide +kernel
theorem dX12_endAt_3 : decode cX12_endAt 3 = .ok (.imul, 1) := by decide +kernel
theorem dX12_endAt_4 : decode cX12_endAt 4 = .ok (.iconst 4, 1) := by decide +kernel
theorem dX12_endAt_5 : decode cX12_endAt 5 = .ok (.iload_n 1, 1) := by decide +kernel
theorem dX12_endAt_6 : decode cX12_endAt 6 = .ok (.imul, 1) := by decide +kernel
theorem dX12_endAt_7 : decode cX12_endAt 7 = .ok (.iadd, 1) := by decide +kernel
theorem dX12_endAt_8 : decode cX12_endAt 8 = .ok (.iload_n 2, 1) := by decide +kernel
theorem dX12_endAt_9 : decode cX12_endAt 9 = .ok (.iadd, 1) := by decide +kernel
theorem dX12_endAt_10 : decode cX12_endAt 10 = .ok (.ireturn, 1) := by decide +kernel
theorem dX12_root_0 : decode cX12_root 0 = .ok (.iload_n 1, 1) := by decide +kernel
theorem dX12_root_1 : decode cX12_root 1 = .ok (.istore_n 2, 1) := by decide +kernel
theorem dX12_root_2 : decode cX12_root 2 = .ok (.aload_n 0, 1) := by decide +kernel
theorem dX12_root_3 : decode cX12_root 3 = .ok (.iload_n 2, 1) := by decide +kernel
theorem dX12_root_4 : decode cX12_root 4 = .ok (.iaload, 1) := by decide +kernel
theorem dX12_root_5 : decode cX12_root 5 = .ok (.iload_n 2, 1) := by decide +kernel
theorem dX12_root_6 : decode cX12_root 6 = .ok (.if_icmp .eq 10, 3) := by decide +kernel
theorem dX12_root_9 : decode cX12_root 9 = .ok (.aload_n 0, 1) := by decide +kernel
theorem dX12_root_10 : decode cX12_root 10 = .ok (.iload_n 2, 1) := by decide +kernel
theorem dX12_root_11 : decode cX12_root 11 = .ok (.iaload, 1) := by decide +kernel
theorem dX12_root_12 : decode cX12_root 12 = .ok (.istore_n 2, 1) := by decide +kernel
theorem dX12_root_13 : decode cX12_root 13 = .ok (.goto (-11), 3) := by decide +kernel
theorem dX12_root_16 : decode cX12_root 16 = .ok (.iload_n 2, 1) := by decide +kernel
theorem dX12_root_17 : decode cX12_root 17 = .ok (.ireturn, 1) := by decide +kernel
theorem dX12_unite_0 : decode cX12_unite 0 = .ok (.aload_n 0, 1) := by decide +kernel
theorem dX12_unite_1 : decode cX12_unite 1 = .ok (.iload_n 1, 1) := by decide +kernel
theorem dX12_unite_2 : decode cX12_unite 2 = .ok (.invokestatic 239, 3) := by decide +kernel
theorem dX12_unite_5 : decode cX12_unite 5 = .ok (.istore_n 3, 1) := by decide +kernel
theorem dX12_unite_6 : decode cX12_unite 6 = .ok (.aload_n 0, 1) := by decide +kernel
theorem dX12_unite_7 : decode cX12_unite 7 = .ok (.iload_n 2, 1) := by decide +kernel
theorem dX12_unite_8 : decode cX12_unite 8 = .ok (.invokestatic 239, 3) := by decide +kernel
theorem dX12_unite_11 : decode cX12_unite 11 = .ok (.istore 4, 2) := by decide +kernel
theorem dX12_unite_13 : decode cX12_unite 13 = .ok (.aload_n 0, 1) := by decide +kernel
theorem dX12_unite_14 : decode cX12_unite 14 = .ok (.iload_n 3, 1) := by decide +kernel
theorem dX12_unite_15 : decode cX12_unite 15 = .ok (.iload 4, 2) := by decide +kernel
theorem dX12_unite_17 : decode cX12_unite 17 = .ok (.invokestatic 243, 3) := by decide +kernel
theorem dX12_unite_20 : decode cX12_unite 20 = .ok (.iload_n 3, 1) := by decide +kernel
theorem dX12_unite_21 : decode cX12_unite 21 = .ok (.iload 4, 2) := by decide +kernel
theorem dX12_unite_23 : decode cX12_unite 23 = .ok (.invokestatic 248, 3) := by decide +kernel
theorem dX12_unite_26 : decode cX12_unite 26 = .ok (.iastore, 1) := by decide +kernel
theorem dX12_unite_27 : decode cX12_unite 27 = .ok (.return_, 1) := by decide +kernel
theorem dX12_layJoined_0 : decode cX12_layJoined 0 = .ok (.iconst 0, 1) := by decide +kernel
theorem dX12_layJoined_1 : decode cX12_layJoined 1 = .ok (.istore_n 2, 1) := by decide +kernel
theorem dX12_layJoined_2 : decode cX12_layJoined 2 = .ok (.iload_n 2, 1) := by decide +kernel
theorem dX12_layJoined_3 : decode cX12_layJoined 3 = .ok (.sipush 128, 3) := by decide +kernel
theorem dX12_layJoined_6 : decode cX12_layJoined 6 = .ok (.if_icmp .ge 16, 3) := by decide +kernel
theorem dX12_layJoined_9 : decode cX12_layJoined 9 = .ok (.aload_n 0, 1) := by decide +kernel
theorem dX12_layJoined_10 : decode cX12_layJoined 10 = .ok (.getfield 48, 3) := by decide +kernel
theorem dX12_layJoined_13 : decode cX12_layJoined 13 = .ok (.iload_n 2, 1) := by decide +kernel
theorem dX12_layJoined_14 : decode cX12_layJoined 14 = .ok (.iload_n 2, 1) := by decide +kernel
theorem dX12_layJoined_15 : decode cX12_layJoined 15 = .ok (.iastore, 1) := by decide +kernel
theorem dX12_layJoined_16 : decode cX12_layJoined 16 = .ok (.iinc 2 1, 3) := by decide +kernel
theorem dX12_layJoined_19 : decode cX12_layJoined 19 = .ok (.goto (-17), 3) := by decide +kernel
theorem dX12_layJoined_22 : decode cX12_layJoined 22 = .ok (.iconst 0, 1) := by decide +kernel
theorem dX12_layJoined_23 : decode cX12_layJoined 23 = .ok (.istore_n 2, 1) := by decide +kernel
theorem dX12_layJoined_24 : decode cX12_layJoined 24 = .ok (.iload_n 2, 1) := by decide +kernel
theorem dX12_layJoined_25 : decode cX12_layJoined 25 = .ok (.bipush 32, 2) := by decide +kernel
theorem dX12_layJoined_27 : decode cX12_layJoined 27 = .ok (.if_icmp .ge 16, 3) := by decide +kernel
theorem dX12_layJoined_30 : decode cX12_layJoined 30 = .ok (.aload_n 0, 1) := by decide +kernel
theorem dX12_layJoined_31 : decode cX12_layJoined 31 = .ok (.getfield 51, 3) := by decide +kernel
theorem dX12_layJoined_34 : decode cX12_layJoined 34 = .ok (.iload_n 2, 1) := by decide +kernel
theorem dX12_layJoined_35 : decode cX12_layJoined 35 = .ok (.iload_n 2, 1) := by decide +kernel
theorem dX12_layJoined_36 : decode cX12_layJoined 36 = .ok (.iastore, 1) := by decide +kernel
theorem dX12_layJoined_37 : decode cX12_layJoined 37 = .ok (.iinc 2 1, 3) := by decide +kernel
theorem dX12_layJoined_40 : decode cX12_layJoined 40 = .ok (.goto (-16), 3) := by decide +kernel
theorem dX12_layJoined_43 : decode cX12_layJoined 43 = .ok (.iconst 0, 1) := by decide +kernel
theorem dX12_layJoined_44 : decode cX12_layJoined 44 = .ok (.istore_n 2, 1) := by decide +kernel
theorem dX12_layJoined_45 : decode cX12_layJoined 45 = .ok (.iload_n 2, 1) := by decide +kernel
theorem dX12_layJoined_46 : decode cX12_layJoined 46 = .ok (.aload_n 1, 1) := by decide +kernel
theorem dX12_layJoined_47 : decode cX12_layJoined 47 = .ok (.iconst 0, 1) := by decide +kernel
theorem dX12_layJoined_48 : decode cX12_layJoined 48 = .ok (.iaload, 1) := by decide +kernel
theorem dX12_layJoined_49 : decode cX12_layJoined 49 = .ok (.if_icmp .ge 164, 3) := by decide +kernel
theorem dX12_layJoined_52 : decode cX12_layJoined 52 = .ok (.iconst 0, 1) := by decide +kernel
theorem dX12_layJoined_53 : decode cX12_layJoined 53 = .ok (.istore_n 3, 1) := by decide +kernel
theorem dX12_layJoined_54 : decode cX12_layJoined 54 = .ok (.iload_n 3, 1) := by decide +kernel
theorem dX12_layJoined_55 : decode cX12_layJoined 55 = .ok (.iconst 4, 1) := by decide +kernel
theorem dX12_layJoined_56 : decode cX12_layJoined 56 = .ok (.if_icmp .ge 151, 3) := by decide +kernel
theorem dX12_layJoined_59 : decode cX12_layJoined 59 = .ok (.aload_n 1, 1) := by decide +kernel
theorem dX12_layJoined_60 : decode cX12_layJoined 60 = .ok (.iload_n 2, 1) := by decide +kernel
theorem dX12_layJoined_61 : decode cX12_layJoined 61 = .ok (.iload_n 3, 1) := by decide +kernel
theorem dX12_layJoined_62 : decode cX12_layJoined 62 = .ok (.invokestatic 150, 3) := by decide +kernel
theorem dX12_layJoined_65 : decode cX12_layJoined 65 = .ok (.istore 4, 2) := by decide +kernel
theorem dX12_layJoined_67 : decode cX12_layJoined 67 = .ok (.iload 4, 2) := by decide +kernel
theorem dX12_layJoined_69 : decode cX12_layJoined 69 = .ok (.iconst (-1), 1) := by decide +kernel
theorem dX12_layJoined_70 : decode cX12_layJoined 70 = .ok (.if_icmp .ne 6, 3) := by decide +kernel
theorem dX12_layJoined_73 : decode cX12_layJoined 73 = .ok (.goto 128, 3) := by decide +kernel
theorem dX12_layJoined_76 : decode cX12_layJoined 76 = .ok (.iload 4, 2) := by decide +kernel
theorem dX12_layJoined_78 : decode cX12_layJoined 78 = .ok (.bipush 24, 2) := by decide +kernel
theorem dX12_layJoined_80 : decode cX12_layJoined 80 = .ok (.idiv, 1) := by decide +kernel
theorem dX12_layJoined_81 : decode cX12_layJoined 81 = .ok (.istore 5, 2) := by decide +kernel
theorem dX12_layJoined_83 : decode cX12_layJoined 83 = .ok (.iload 4, 2) := by decide +kernel
theorem dX12_layJoined_85 : decode cX12_layJoined 85 = .ok (.bipush 24, 2) := by decide +kernel
theorem dX12_layJoined_87 : decode cX12_layJoined 87 = .ok (.irem, 1) := by decide +kernel
theorem dX12_layJoined_88 : decode cX12_layJoined 88 = .ok (.istore 6, 2) := by decide +kernel
theorem dX12_layJoined_90 : decode cX12_layJoined 90 = .ok (.iconst 0, 1) := by decide +kernel
theorem dX12_layJoined_91 : decode cX12_layJoined 91 = .ok (.istore 7, 2) := by decide +kernel
theorem dX12_layJoined_93 : decode cX12_layJoined 93 = .ok (.iload 7, 2) := by decide +kernel
theorem dX12_layJoined_95 : decode cX12_layJoined 95 = .ok (.iconst 4, 1) := by decide +kernel
theorem dX12_layJoined_96 : decode cX12_layJoined 96 = .ok (.if_icmp .ge 105, 3) := by decide +kernel
theorem dX12_layJoined_99 : decode cX12_layJoined 99 = .ok (.iload 7, 2) := by decide +kernel
theorem dX12_layJoined_101 : decode cX12_layJoined 101 = .ok (.iload_n 3, 1) := by decide +kernel
theorem dX12_layJoined_102 : decode cX12_layJoined 102 = .ok (.if_icmp .ne 6, 3) := by decide +kernel
theorem dX12_layJoined_105 : decode cX12_layJoined 105 = .ok (.goto 90, 3) := by decide +kernel
theorem dX12_layJoined_108 : decode cX12_layJoined 108 = .ok (.aload_n 0, 1) := by decide +kernel
theorem dX12_layJoined_109 : decode cX12_layJoined 109 = .ok (.getfield 51, 3) := by decide +kernel
theorem dX12_layJoined_112 : decode cX12_layJoined 112 = .ok (.iconst 4, 1) := by decide +kernel
theorem dX12_layJoined_113 : decode cX12_layJoined 113 = .ok (.iload_n 2, 1) := by decide +kernel
theorem dX12_layJoined_114 : decode cX12_layJoined 114 = .ok (.imul, 1) := by decide +kernel
theorem dX12_layJoined_115 : decode cX12_layJoined 115 = .ok (.iload 7, 2) := by decide +kernel
theorem dX12_layJoined_117 : decode cX12_layJoined 117 = .ok (.iadd, 1) := by decide +kernel
theorem dX12_layJoined_118 : decode cX12_layJoined 118 = .ok (.iconst 4, 1) := by decide +kernel
theorem dX12_layJoined_119 : decode cX12_layJoined 119 = .ok (.iload 5, 2) := by decide +kernel
theorem dX12_layJoined_121 : decode cX12_layJoined 121 = .ok (.imul, 1) := by decide +kernel
theorem dX12_layJoined_122 : decode cX12_layJoined 122 = .ok (.iload 6, 2) := by decide +kernel
theorem dX12_layJoined_124 : decode cX12_layJoined 124 = .ok (.iload 7, 2) := by decide +kernel
theorem dX12_layJoined_126 : decode cX12_layJoined 126 = .ok (.invokestatic 124, 3) := by decide +kernel
theorem dX12_layJoined_129 : decode cX12_layJoined 129 = .ok (.iadd, 1) := by decide +kernel
theorem dX12_layJoined_130 : decode cX12_layJoined 130 = .ok (.invokestatic 251, 3) := by decide +kernel
theorem dX12_layJoined_133 : decode cX12_layJoined 133 = .ok (.iconst 0, 1) := by decide +kernel
theorem dX12_layJoined_134 : decode cX12_layJoined 134 = .ok (.istore 8, 2) := by decide +kernel
theorem dX12_layJoined_136 : decode cX12_layJoined 136 = .ok (.iload 8, 2) := by decide +kernel
theorem dX12_layJoined_138 : decode cX12_layJoined 138 = .ok (.iconst 4, 1) := by decide +kernel
theorem dX12_layJoined_139 : decode cX12_layJoined 139 = .ok (.if_icmp .ge 56, 3) := by decide +kernel
theorem dX12_layJoined_142 : decode cX12_layJoined 142 = .ok (.iload 8, 2) := by decide +kernel
theorem dX12_layJoined_144 : decode cX12_layJoined 144 = .ok (.iload 7, 2) := by decide +kernel
theorem dX12_layJoined_146 : decode cX12_layJoined 146 = .ok (.if_icmp .eq 43, 3) := by decide +kernel
theorem dX12_layJoined_149 : decode cX12_layJoined 149 = .ok (.iload 8, 2) := by decide +kernel
theorem dX12_layJoined_151 : decode cX12_layJoined 151 = .ok (.iload_n 3, 1) := by decide +kernel
theorem dX12_layJoined_152 : decode cX12_layJoined 152 = .ok (.if_icmp .eq 37, 3) := by decide +kernel
theorem dX12_layJoined_155 : decode cX12_layJoined 155 = .ok (.aload_n 0, 1) := by decide +kernel
theorem dX12_layJoined_156 : decode cX12_layJoined 156 = .ok (.getfield 48, 3) := by decide +kernel
theorem dX12_layJoined_159 : decode cX12_layJoined 159 = .ok (.iload_n 2, 1) := by decide +kernel
theorem dX12_layJoined_160 : decode cX12_layJoined 160 = .ok (.iload 7, 2) := by decide +kernel
theorem dX12_layJoined_162 : decode cX12_layJoined 162 = .ok (.iload 8, 2) := by decide +kernel
theorem dX12_layJoined_164 : decode cX12_layJoined 164 = .ok (.invokestatic 255, 3) := by decide +kernel
theorem dX12_layJoined_167 : decode cX12_layJoined 167 = .ok (.iload 5, 2) := by decide +kernel
theorem dX12_layJoined_169 : decode cX12_layJoined 169 = .ok (.iload 6, 2) := by decide +kernel
theorem dX12_layJoined_171 : decode cX12_layJoined 171 = .ok (.iload 7, 2) := by decide +kernel
theorem dX12_layJoined_173 : decode cX12_layJoined 173 = .ok (.invokestatic 124, 3) := by decide +kernel
theorem dX12_layJoined_176 : decode cX12_layJoined 176 = .ok (.iload 6, 2) := by decide +kernel
theorem dX12_layJoined_178 : decode cX12_layJoined 178 = .ok (.iload 8, 2) := by decide +kernel
theorem dX12_layJoined_180 : decode cX12_layJoined 180 = .ok (.invokestatic 124, 3) := by decide +kernel
theorem dX12_layJoined_183 : decode cX12_layJoined 183 = .ok (.invokestatic 255, 3) := by decide +kernel
theorem dX12_layJoined_186 : decode cX12_layJoined 186 = .ok (.invokestatic 251, 3) := by decide +kernel
theorem dX12_layJoined_189 : decode cX12_layJoined 189 = .ok (.iinc 8 1, 3) := by decide +kernel
theorem dX12_layJoined_192 : decode cX12_layJoined 192 = .ok (.goto (-56), 3) := by decide +kernel
theorem dX12_layJoined_195 : decode cX12_layJoined 195 = .ok (.iinc 7 1, 3) := by decide +kernel
theorem dX12_layJoined_198 : decode cX12_layJoined 198 = .ok (.goto (-105), 3) := by decide +kernel
theorem dX12_layJoined_201 : decode cX12_layJoined 201 = .ok (.iinc 3 1, 3) := by decide +kernel
theorem dX12_layJoined_204 : decode cX12_layJoined 204 = .ok (.goto (-150), 3) := by decide +kernel
theorem dX12_layJoined_207 : decode cX12_layJoined 207 = .ok (.iinc 2 1, 3) := by decide +kernel
theorem dX12_layJoined_210 : decode cX12_layJoined 210 = .ok (.goto (-165), 3) := by decide +kernel
theorem dX12_layJoined_213 : decode cX12_layJoined 213 = .ok (.iconst 0, 1) := by decide +kernel
theorem dX12_layJoined_214 : decode cX12_layJoined 214 = .ok (.istore_n 2, 1) := by decide +kernel
theorem dX12_layJoined_215 : decode cX12_layJoined 215 = .ok (.iload_n 2, 1) := by decide +kernel
theorem dX12_layJoined_216 : decode cX12_layJoined 216 = .ok (.sipush 128, 3) := by decide +kernel
theorem dX12_layJoined_219 : decode cX12_layJoined 219 = .ok (.if_icmp .ge 23, 3) := by decide +kernel
theorem dX12_layJoined_222 : decode cX12_layJoined 222 = .ok (.aload_n 0, 1) := by decide +kernel
theorem dX12_layJoined_223 : decode cX12_layJoined 223 = .ok (.getfield 48, 3) := by decide +kernel
theorem dX12_layJoined_226 : decode cX12_layJoined 226 = .ok (.iload_n 2, 1) := by decide +kernel
theorem dX12_layJoined_227 : decode cX12_layJoined 227 = .ok (.aload_n 0, 1) := by decide +kernel
theorem dX12_layJoined_228 : decode cX12_layJoined 228 = .ok (.getfield 48, 3) := by decide +kernel
theorem dX12_layJoined_231 : decode cX12_layJoined 231 = .ok (.iload_n 2, 1) := by decide +kernel
theorem dX12_layJoined_232 : decode cX12_layJoined 232 = .ok (.invokestatic 239, 3) := by decide +kernel
theorem dX12_layJoined_235 : decode cX12_layJoined 235 = .ok (.iastore, 1) := by decide +kernel
theorem dX12_layJoined_236 : decode cX12_layJoined 236 = .ok (.iinc 2 1, 3) := by decide +kernel
theorem dX12_layJoined_239 : decode cX12_layJoined 239 = .ok (.goto (-24), 3) := by decide +kernel
theorem dX12_layJoined_242 : decode cX12_layJoined 242 = .ok (.iconst 0, 1) := by decide +kernel
theorem dX12_layJoined_243 : decode cX12_layJoined 243 = .ok (.istore_n 2, 1) := by decide +kernel
theorem dX12_layJoined_244 : decode cX12_layJoined 244 = .ok (.iload_n 2, 1) := by decide +kernel
theorem dX12_layJoined_245 : decode cX12_layJoined 245 = .ok (.bipush 32, 2) := by decide +kernel
theorem dX12_layJoined_247 : decode cX12_layJoined 247 = .ok (.if_icmp .ge 23, 3) := by decide +kernel
theorem dX12_layJoined_250 : decode cX12_layJoined 250 = .ok (.aload_n 0, 1) := by decide +kernel
theorem dX12_layJoined_251 : decode cX12_layJoined 251 = .ok (.getfield 51, 3) := by decide +kernel
theorem dX12_layJoined_254 : decode cX12_layJoined 254 = .ok (.iload_n 2, 1) := by decide +kernel
theorem dX12_layJoined_255 : decode cX12_layJoined 255 = .ok (.aload_n 0, 1) := by decide +kernel
theorem dX12_layJoined_256 : decode cX12_layJoined 256 = .ok (.getfield 51, 3) := by decide +kernel
theorem dX12_layJoined_259 : decode cX12_layJoined 259 = .ok (.iload_n 2, 1) := by decide +kernel
theorem dX12_layJoined_260 : decode cX12_layJoined 260 = .ok (.invokestatic 239, 3) := by decide +kernel
theorem dX12_layJoined_263 : decode cX12_layJoined 263 = .ok (.iastore, 1) := by decide +kernel
theorem dX12_layJoined_264 : decode cX12_layJoined 264 = .ok (.iinc 2 1, 3) := by decide +kernel
theorem dX12_layJoined_267 : decode cX12_layJoined 267 = .ok (.goto (-23), 3) := by decide +kernel
theorem dX12_layJoined_270 : decode cX12_layJoined 270 = .ok (.return_, 1) := by decide +kernel
theorem dX12_edgeOf_0 : decode cX12_edgeOf 0 = .ok (.aload_n 0, 1) := by decide +kernel
theorem dX12_edgeOf_1 : decode cX12_edgeOf 1 = .ok (.getfield 48, 3) := by decide +kernel
theorem dX12_edgeOf_4 : decode cX12_edgeOf 4 = .ok (.iload_n 1, 1) := by decide +kernel
theorem dX12_edgeOf_5 : decode cX12_edgeOf 5 = .ok (.iload_n 2, 1) := by decide +kernel
theorem dX12_edgeOf_6 : decode cX12_edgeOf 6 = .ok (.iload_n 3, 1) := by decide +kernel
theorem dX12_edgeOf_7 : decode cX12_edgeOf 7 = .ok (.invokestatic 255, 3) := by decide +kernel
theorem dX12_edgeOf_10 : decode cX12_edgeOf 10 = .ok (.iaload, 1) := by decide +kernel
theorem dX12_edgeOf_11 : decode cX12_edgeOf 11 = .ok (.aload_n 0, 1) := by decide +kernel
theorem dX12_edgeOf_12 : decode cX12_edgeOf 12 = .ok (.getfield 48, 3) := by decide +kernel
theorem dX12_edgeOf_15 : decode cX12_edgeOf 15 = .ok (.iload_n 1, 1) := by decide +kernel
theorem dX12_edgeOf_16 : decode cX12_edgeOf 16 = .ok (.iload_n 3, 1) := by decide +kernel
theorem dX12_edgeOf_17 : decode cX12_edgeOf 17 = .ok (.iload_n 2, 1) := by decide +kernel
theorem dX12_edgeOf_18 : decode cX12_edgeOf 18 = .ok (.invokestatic 255, 3) := by decide +kernel
theorem dX12_edgeOf_21 : decode cX12_edgeOf 21 = .ok (.iaload, 1) := by decide +kernel
theorem dX12_edgeOf_22 : decode cX12_edgeOf 22 = .ok (.invokestatic 248, 3) := by decide +kernel
theorem dX12_edgeOf_25 : decode cX12_edgeOf 25 = .ok (.ireturn, 1) := by decide +kernel
theorem dX12_isReversed_0 : decode cX12_isReversed 0 = .ok (.aload_n 0, 1) := by decide +kernel
theorem dX12_isReversed_1 : decode cX12_isReversed 1 = .ok (.getfield 48, 3) := by decide +kernel
theorem dX12_isReversed_4 : decode cX12_isReversed 4 = .ok (.iload_n 1, 1) := by decide +kernel
theorem dX12_isReversed_5 : decode cX12_isReversed 5 = .ok (.iload_n 2, 1) := by decide +kernel
theorem dX12_isReversed_6 : decode cX12_isReversed 6 = .ok (.iload_n 3, 1) := by decide +kernel
theorem dX12_isReversed_7 : decode cX12_isReversed 7 = .ok (.invokestatic 255, 3) := by decide +kernel
theorem dX12_isReversed_10 : decode cX12_isReversed 10 = .ok (.iaload, 1) := by decide +kernel
theorem dX12_isReversed_11 : decode cX12_isReversed 11 = .ok (.aload_n 0, 1) := by decide +kernel
theorem dX12_isReversed_12 : decode cX12_isReversed 12 = .ok (.getfield 48, 3) := by decide +kernel
theorem dX12_isReversed_15 : decode cX12_isReversed 15 = .ok (.iload_n 1, 1) := by decide +kernel
theorem dX12_isReversed_16 : decode cX12_isReversed 16 = .ok (.iload_n 3, 1) := by decide +kernel
theorem dX12_isReversed_17 : decode cX12_isReversed 17 = .ok (.iload_n 2, 1) := by decide +kernel
theorem dX12_isReversed_18 : decode cX12_isReversed 18 = .ok (.invokestatic 255, 3) := by decide +kernel
theorem dX12_isReversed_21 : decode cX12_isReversed 21 = .ok (.iaload, 1) := by decide +kernel
theorem dX12_isReversed_22 : decode cX12_isReversed 22 = .ok (.if_icmp .ne 7, 3) := by decide +kernel
theorem dX12_isReversed_25 : decode cX12_isReversed 25 = .ok (.iconst 1, 1) := by decide +kernel
theorem dX12_isReversed_26 : decode cX12_isReversed 26 = .ok (.goto 4, 3) := by decide +kernel
theorem dX12_isReversed_29 : decode cX12_isReversed 29 = .ok (.iconst 0, 1) := by decide +kernel
theorem dX12_isReversed_30 : decode cX12_isReversed 30 = .ok (.ireturn, 1) := by decide +kernel
theorem dX12_degreeOf_0 : decode cX12_degreeOf 0 = .ok (.iconst 0, 1) := by decide +kernel
theorem dX12_degreeOf_1 : decode cX12_degreeOf 1 = .ok (.istore_n 3, 1) := by decide +kernel
theorem dX12_degreeOf_2 : decode cX12_degreeOf 2 = .ok (.iconst 0, 1) := by decide +kernel
theorem dX12_degreeOf_3 : decode cX12_degreeOf 3 = .ok (.istore 4, 2) := by decide +kernel
theorem dX12_degreeOf_5 : decode cX12_degreeOf 5 = .ok (.iload 4, 2) := by decide +kernel
theorem dX12_degreeOf_7 : decode cX12_degreeOf 7 = .ok (.aload_n 1, 1) := by decide +kernel
theorem dX12_degreeOf_8 : decode cX12_degreeOf 8 = .ok (.iconst 0, 1) := by decide +kernel
theorem dX12_degreeOf_9 : decode cX12_degreeOf 9 = .ok (.iaload, 1) := by decide +kernel
theorem dX12_degreeOf_10 : decode cX12_degreeOf 10 = .ok (.if_icmp .ge 64, 3) := by decide +kernel
theorem dX12_degreeOf_13 : decode cX12_degreeOf 13 = .ok (.iconst 0, 1) := by decide +kernel
theorem dX12_degreeOf_14 : decode cX12_degreeOf 14 = .ok (.istore 5, 2) := by decide +kernel
theorem dX12_degreeOf_16 : decode cX12_degreeOf 16 = .ok (.iload 5, 2) := by decide +kernel
theorem dX12_degreeOf_18 : decode cX12_degreeOf 18 = .ok (.iconst 4, 1) := by decide +kernel
theorem dX12_degreeOf_19 : decode cX12_degreeOf 19 = .ok (.if_icmp .ge 49, 3) := by decide +kernel
theorem dX12_degreeOf_22 : decode cX12_degreeOf 22 = .ok (.iload 5, 2) := by decide +kernel
theorem dX12_degreeOf_24 : decode cX12_degreeOf 24 = .ok (.iconst 1, 1) := by decide +kernel
theorem dX12_degreeOf_25 : decode cX12_degreeOf 25 = .ok (.iadd, 1) := by decide +kernel
theorem dX12_degreeOf_26 : decode cX12_degreeOf 26 = .ok (.istore 6, 2) := by decide +kernel
theorem dX12_degreeOf_28 : decode cX12_degreeOf 28 = .ok (.iload 6, 2) := by decide +kernel
theorem dX12_degreeOf_30 : decode cX12_degreeOf 30 = .ok (.iconst 4, 1) := by decide +kernel
theorem dX12_degreeOf_31 : decode cX12_degreeOf 31 = .ok (.if_icmp .ge 31, 3) := by decide +kernel
theorem dX12_degreeOf_34 : decode cX12_degreeOf 34 = .ok (.iload_n 3, 1) := by decide +kernel
theorem dX12_degreeOf_35 : decode cX12_degreeOf 35 = .ok (.aload_n 0, 1) := by decide +kernel
theorem dX12_degreeOf_36 : decode cX12_degreeOf 36 = .ok (.iload 4, 2) := by decide +kernel
theorem dX12_degreeOf_38 : decode cX12_degreeOf 38 = .ok (.iload 5, 2) := by decide +kernel
theorem dX12_degreeOf_40 : decode cX12_degreeOf 40 = .ok (.iload 6, 2) := by decide +kernel
theorem dX12_degreeOf_42 : decode cX12_degreeOf 42 = .ok (.invokevirtual 258, 3) := by decide +kernel
theorem dX12_degreeOf_45 : decode cX12_degreeOf 45 = .ok (.iload_n 2, 1) := by decide +kernel
theorem dX12_degreeOf_46 : decode cX12_degreeOf 46 = .ok (.if_icmp .ne 7, 3) := by decide +kernel
theorem dX12_degreeOf_49 : decode cX12_degreeOf 49 = .ok (.iconst 1, 1) := by decide +kernel
theorem dX12_degreeOf_50 : decode cX12_degreeOf 50 = .ok (.goto 4, 3) := by decide +kernel
theorem dX12_degreeOf_53 : decode cX12_degreeOf 53 = .ok (.iconst 0, 1) := by decide +kernel
theorem dX12_degreeOf_54 : decode cX12_degreeOf 54 = .ok (.iadd, 1) := by decide +kernel
theorem dX12_degreeOf_55 : decode cX12_degreeOf 55 = .ok (.istore_n 3, 1) := by decide +kernel
theorem dX12_degreeOf_56 : decode cX12_degreeOf 56 = .ok (.iinc 6 1, 3) := by decide +kernel
theorem dX12_degreeOf_59 : decode cX12_degreeOf 59 = .ok (.goto (-31), 3) := by decide +kernel
theorem dX12_degreeOf_62 : decode cX12_degreeOf 62 = .ok (.iinc 5 1, 3) := by decide +kernel
theorem dX12_degreeOf_65 : decode cX12_degreeOf 65 = .ok (.goto (-49), 3) := by decide +kernel
theorem dX12_degreeOf_68 : decode cX12_degreeOf 68 = .ok (.iinc 4 1, 3) := by decide +kernel
theorem dX12_degreeOf_71 : decode cX12_degreeOf 71 = .ok (.goto (-66), 3) := by decide +kernel
theorem dX12_degreeOf_74 : decode cX12_degreeOf 74 = .ok (.iload_n 3, 1) := by decide +kernel
theorem dX12_degreeOf_75 : decode cX12_degreeOf 75 = .ok (.ireturn, 1) := by decide +kernel
theorem dX12_isFree_0 : decode cX12_isFree 0 = .ok (.iconst 0, 1) := by decide +kernel
theorem dX12_isFree_1 : decode cX12_isFree 1 = .ok (.istore_n 3, 1) := by decide +kernel
theorem dX12_isFree_2 : decode cX12_isFree 2 = .ok (.iload_n 3, 1) := by decide +kernel
theorem dX12_isFree_3 : decode cX12_isFree 3 = .ok (.aload_n 1, 1) := by decide +kernel
theorem dX12_isFree_4 : decode cX12_isFree 4 = .ok (.iconst 0, 1) := by decide +kernel
theorem dX12_isFree_5 : decode cX12_isFree 5 = .ok (.iaload, 1) := by decide +kernel
theorem dX12_isFree_6 : decode cX12_isFree 6 = .ok (.if_icmp .ge 104, 3) := by decide +kernel
theorem dX12_isFree_9 : decode cX12_isFree 9 = .ok (.iconst 0, 1) := by decide +kernel
theorem dX12_isFree_10 : decode cX12_isFree 10 = .ok (.istore 4, 2) := by decide +kernel
theorem dX12_isFree_12 : decode cX12_isFree 12 = .ok (.iload 4, 2) := by decide +kernel
theorem dX12_isFree_14 : decode cX12_isFree 14 = .ok (.iconst 4, 1) := by decide +kernel
theorem dX12_isFree_15 : decode cX12_isFree 15 = .ok (.if_icmp .ge 89, 3) := by decide +kernel
theorem dX12_isFree_18 : decode cX12_isFree 18 = .ok (.aload_n 1, 1) := by decide +kernel
theorem dX12_isFree_19 : decode cX12_isFree 19 = .ok (.iload_n 3, 1) := by decide +kernel
theorem dX12_isFree_20 : decode cX12_isFree 20 = .ok (.iload 4, 2) := by decide +kernel
theorem dX12_isFree_22 : decode cX12_isFree 22 = .ok (.invokestatic 150, 3) := by decide +kernel
theorem dX12_isFree_25 : decode cX12_isFree 25 = .ok (.iconst (-1), 1) := by decide +kernel
theorem dX12_isFree_26 : decode cX12_isFree 26 = .ok (.if_icmp .eq 6, 3) := by decide +kernel
theorem dX12_isFree_29 : decode cX12_isFree 29 = .ok (.goto 69, 3) := by decide +kernel
theorem dX12_isFree_32 : decode cX12_isFree 32 = .ok (.iconst 0, 1) := by decide +kernel
theorem dX12_isFree_33 : decode cX12_isFree 33 = .ok (.istore 5, 2) := by decide +kernel
theorem dX12_isFree_35 : decode cX12_isFree 35 = .ok (.iload 5, 2) := by decide +kernel
theorem dX12_isFree_37 : decode cX12_isFree 37 = .ok (.iconst 4, 1) := by decide +kernel
theorem dX12_isFree_38 : decode cX12_isFree 38 = .ok (.if_icmp .ge 60, 3) := by decide +kernel
theorem dX12_isFree_41 : decode cX12_isFree 41 = .ok (.iconst 0, 1) := by decide +kernel
theorem dX12_isFree_42 : decode cX12_isFree 42 = .ok (.istore 6, 2) := by decide +kernel
theorem dX12_isFree_44 : decode cX12_isFree 44 = .ok (.iload 6, 2) := by decide +kernel
theorem dX12_isFree_46 : decode cX12_isFree 46 = .ok (.iconst 4, 1) := by decide +kernel
theorem dX12_isFree_47 : decode cX12_isFree 47 = .ok (.if_icmp .ge 45, 3) := by decide +kernel
theorem dX12_isFree_50 : decode cX12_isFree 50 = .ok (.iload 5, 2) := by decide +kernel
theorem dX12_isFree_52 : decode cX12_isFree 52 = .ok (.iload 6, 2) := by decide +kernel
theorem dX12_isFree_54 : decode cX12_isFree 54 = .ok (.if_icmp .eq 32, 3) := by decide +kernel
theorem dX12_isFree_57 : decode cX12_isFree 57 = .ok (.iload 5, 2) := by decide +kernel
theorem dX12_isFree_59 : decode cX12_isFree 59 = .ok (.iload 4, 2) := by decide +kernel
theorem dX12_isFree_61 : decode cX12_isFree 61 = .ok (.if_icmp .eq 25, 3) := by decide +kernel
theorem dX12_isFree_64 : decode cX12_isFree 64 = .ok (.iload 6, 2) := by decide +kernel
theorem dX12_isFree_66 : decode cX12_isFree 66 = .ok (.iload 4, 2) := by decide +kernel
theorem dX12_isFree_68 : decode cX12_isFree 68 = .ok (.if_icmp .eq 18, 3) := by decide +kernel
theorem dX12_isFree_71 : decode cX12_isFree 71 = .ok (.aload_n 0, 1) := by decide +kernel
theorem dX12_isFree_72 : decode cX12_isFree 72 = .ok (.iload_n 3, 1) := by decide +kernel
theorem dX12_isFree_73 : decode cX12_isFree 73 = .ok (.iload 5, 2) := by decide +kernel
theorem dX12_isFree_75 : decode cX12_isFree 75 = .ok (.iload 6, 2) := by decide +kernel
theorem dX12_isFree_77 : decode cX12_isFree 77 = .ok (.invokevirtual 258, 3) := by decide +kernel
theorem dX12_isFree_80 : decode cX12_isFree 80 = .ok (.iload_n 2, 1) := by decide +kernel
theorem dX12_isFree_81 : decode cX12_isFree 81 = .ok (.if_icmp .ne 5, 3) := by decide +kernel
theorem dX12_isFree_84 : decode cX12_isFree 84 = .ok (.iconst 1, 1) := by decide +kernel
theorem dX12_isFree_85 : decode cX12_isFree 85 = .ok (.ireturn, 1) := by decide +kernel
theorem dX12_isFree_86 : decode cX12_isFree 86 = .ok (.iinc 6 1, 3) := by decide +kernel
theorem dX12_isFree_89 : decode cX12_isFree 89 = .ok (.goto (-45), 3) := by decide +kernel
theorem dX12_isFree_92 : decode cX12_isFree 92 = .ok (.iinc 5 1, 3) := by decide +kernel
theorem dX12_isFree_95 : decode cX12_isFree 95 = .ok (.goto (-60), 3) := by decide +kernel
theorem dX12_isFree_98 : decode cX12_isFree 98 = .ok (.iinc 4 1, 3) := by decide +kernel
theorem dX12_isFree_101 : decode cX12_isFree 101 = .ok (.goto (-89), 3) := by decide +kernel
theorem dX12_isFree_104 : decode cX12_isFree 104 = .ok (.iinc 3 1, 3) := by decide +kernel
theorem dX12_isFree_107 : decode cX12_isFree 107 = .ok (.goto (-105), 3) := by decide +kernel
theorem dX12_isFree_110 : decode cX12_isFree 110 = .ok (.iconst 0, 1) := by decide +kernel
theorem dX12_isFree_111 : decode cX12_isFree 111 = .ok (.ireturn, 1) := by decide +kernel
theorem dX12_arePair_0 : decode cX12_arePair 0 = .ok (.iload_n 0, 1) := by decide +kernel
theorem dX12_arePair_1 : decode cX12_arePair 1 = .ok (.iconst 0, 1) := by decide +kernel
theorem dX12_arePair_2 : decode cX12_arePair 2 = .ok (.iconst 3, 1) := by decide +kernel
theorem dX12_arePair_3 : decode cX12_arePair 3 = .ok (.invokestatic 179, 3) := by decide +kernel
theorem dX12_arePair_6 : decode cX12_arePair 6 = .ok (.ifCond .eq 21, 3) := by decide +kernel
theorem dX12_arePair_9 : decode cX12_arePair 9 = .ok (.iload_n 1, 1) := by decide +kernel
theorem dX12_arePair_10 : decode cX12_arePair 10 = .ok (.iconst 0, 1) := by decide +kernel
theorem dX12_arePair_11 : decode cX12_arePair 11 = .ok (.iconst 3, 1) := by decide +kernel
theorem dX12_arePair_12 : decode cX12_arePair 12 = .ok (.invokestatic 179, 3) := by decide +kernel
theorem dX12_arePair_15 : decode cX12_arePair 15 = .ok (.ifCond .eq 12, 3) := by decide +kernel
theorem dX12_arePair_18 : decode cX12_arePair 18 = .ok (.iload_n 0, 1) := by decide +kernel
theorem dX12_arePair_19 : decode cX12_arePair 19 = .ok (.iload_n 1, 1) := by decide +kernel
theorem dX12_arePair_20 : decode cX12_arePair 20 = .ok (.if_icmp .eq 7, 3) := by decide +kernel
theorem dX12_arePair_23 : decode cX12_arePair 23 = .ok (.iconst 1, 1) := by decide +kernel
theorem dX12_arePair_24 : decode cX12_arePair 24 = .ok (.goto 4, 3) := by decide +kernel
theorem dX12_arePair_27 : decode cX12_arePair 27 = .ok (.iconst 0, 1) := by decide +kernel
theorem dX12_arePair_28 : decode cX12_arePair 28 = .ok (.ireturn, 1) := by decide +kernel
theorem dX12_isTet_0 : decode cX12_isTet 0 = .ok (.iload_n 1, 1) := by decide +kernel
theorem dX12_isTet_1 : decode cX12_isTet 1 = .ok (.iconst 0, 1) := by decide +kernel
theorem dX12_isTet_2 : decode cX12_isTet 2 = .ok (.aload_n 0, 1) := by decide +kernel
theorem dX12_isTet_3 : decode cX12_isTet 3 = .ok (.getfield 9, 3) := by decide +kernel
theorem dX12_isTet_6 : decode cX12_isTet 6 = .ok (.iconst 0, 1) := by decide +kernel
theorem dX12_isTet_7 : decode cX12_isTet 7 = .ok (.iaload, 1) := by decide +kernel
theorem dX12_isTet_8 : decode cX12_isTet 8 = .ok (.iconst 1, 1) := by decide +kernel
theorem dX12_isTet_9 : decode cX12_isTet 9 = .ok (.isub, 1) := by decide +kernel
theorem dX12_isTet_10 : decode cX12_isTet 10 = .ok (.invokestatic 179, 3) := by decide +kernel
theorem dX12_isTet_13 : decode cX12_isTet 13 = .ok (.ireturn, 1) := by decide +kernel
theorem dX12_degree_0 : decode cX12_degree 0 = .ok (.aload_n 0, 1) := by decide +kernel
theorem dX12_degree_1 : decode cX12_degree 1 = .ok (.iconst 0, 1) := by decide +kernel
theorem dX12_degree_2 : decode cX12_degree 2 = .ok (.putfield 128, 3) := by decide +kernel
theorem dX12_degree_5 : decode cX12_degree 5 = .ok (.aload_n 0, 1) := by decide +kernel
theorem dX12_degree_6 : decode cX12_degree 6 = .ok (.iload_n 1, 1) := by decide +kernel
theorem dX12_degree_7 : decode cX12_degree 7 = .ok (.invokevirtual 261, 3) := by decide +kernel
theorem dX12_degree_10 : decode cX12_degree 10 = .ok (.ifCond .eq 11, 3) := by decide +kernel
theorem dX12_degree_13 : decode cX12_degree 13 = .ok (.iload_n 2, 1) := by decide +kernel
theorem dX12_degree_14 : decode cX12_degree 14 = .ok (.iload_n 3, 1) := by decide +kernel
theorem dX12_degree_15 : decode cX12_degree 15 = .ok (.invokestatic 265, 3) := by decide +kernel
theorem dX12_degree_18 : decode cX12_degree 18 = .ok (.ifCond .ne 5, 3) := by decide +kernel
theorem dX12_degree_21 : decode cX12_degree 21 = .ok (.iconst (-1), 1) := by decide +kernel
theorem dX12_degree_22 : decode cX12_degree 22 = .ok (.ireturn, 1) := by decide +kernel
theorem dX12_degree_23 : decode cX12_degree 23 = .ok (.aload_n 0, 1) := by decide +kernel
theorem dX12_degree_24 : decode cX12_degree 24 = .ok (.aload_n 0, 1) := by decide +kernel
theorem dX12_degree_25 : decode cX12_degree 25 = .ok (.getfield 9, 3) := by decide +kernel
theorem dX12_degree_28 : decode cX12_degree 28 = .ok (.invokevirtual 269, 3) := by decide +kernel
theorem dX12_degree_31 : decode cX12_degree 31 = .ok (.aload_n 0, 1) := by decide +kernel
theorem dX12_degree_32 : decode cX12_degree 32 = .ok (.iconst 0, 1) := by decide +kernel
theorem dX12_degree_33 : decode cX12_degree 33 = .ok (.putfield 132, 3) := by decide +kernel
theorem dX12_degree_36 : decode cX12_degree 36 = .ok (.aload_n 0, 1) := by decide +kernel
theorem dX12_degree_37 : decode cX12_degree 37 = .ok (.aload_n 0, 1) := by decide +kernel
theorem dX12_degree_38 : decode cX12_degree 38 = .ok (.aload_n 0, 1) := by decide +kernel
theorem dX12_degree_39 : decode cX12_degree 39 = .ok (.getfield 9, 3) := by decide +kernel
theorem dX12_degree_42 : decode cX12_degree 42 = .ok (.aload_n 0, 1) := by decide +kernel
theorem dX12_degree_43 : decode cX12_degree 43 = .ok (.iload_n 1, 1) := by decide +kernel
theorem dX12_degree_44 : decode cX12_degree 44 = .ok (.iload_n 2, 1) := by decide +kernel
theorem dX12_degree_45 : decode cX12_degree 45 = .ok (.iload_n 3, 1) := by decide +kernel
theorem dX12_degree_46 : decode cX12_degree 46 = .ok (.invokevirtual 258, 3) := by decide +kernel
theorem dX12_degree_49 : decode cX12_degree 49 = .ok (.invokevirtual 272, 3) := by decide +kernel
theorem dX12_degree_52 : decode cX12_degree 52 = .ok (.ifCond .eq 7, 3) := by decide +kernel
theorem dX12_degree_55 : decode cX12_degree 55 = .ok (.lconst 1, 1) := by decide +kernel
theorem dX12_degree_56 : decode cX12_degree 56 = .ok (.goto 4, 3) := by decide +kernel
theorem dX12_degree_59 : decode cX12_degree 59 = .ok (.lconst 0, 1) := by decide +kernel
theorem dX12_degree_60 : decode cX12_degree 60 = .ok (.invokevirtual 231, 3) := by decide +kernel
theorem dX12_degree_63 : decode cX12_degree 63 = .ok (.aload_n 0, 1) := by decide +kernel
theorem dX12_degree_64 : decode cX12_degree 64 = .ok (.aload_n 0, 1) := by decide +kernel
theorem dX12_degree_65 : decode cX12_degree 65 = .ok (.iload_n 1, 1) := by decide +kernel
theorem dX12_degree_66 : decode cX12_degree 66 = .ok (.iload_n 2, 1) := by decide +kernel
theorem dX12_degree_67 : decode cX12_degree 67 = .ok (.iload_n 3, 1) := by decide +kernel
theorem dX12_degree_68 : decode cX12_degree 68 = .ok (.invokevirtual 276, 3) := by decide +kernel
theorem dX12_degree_71 : decode cX12_degree 71 = .ok (.ifCond .eq 7, 3) := by decide +kernel
theorem dX12_degree_74 : decode cX12_degree 74 = .ok (.lconst 1, 1) := by decide +kernel
theorem dX12_degree_75 : decode cX12_degree 75 = .ok (.goto 4, 3) := by decide +kernel
theorem dX12_degree_78 : decode cX12_degree 78 = .ok (.lconst 0, 1) := by decide +kernel
theorem dX12_degree_79 : decode cX12_degree 79 = .ok (.invokevirtual 231, 3) := by decide +kernel
theorem dX12_degree_82 : decode cX12_degree 82 = .ok (.aload_n 0, 1) := by decide +kernel
theorem dX12_degree_83 : decode cX12_degree 83 = .ok (.aload_n 0, 1) := by decide +kernel
theorem dX12_degree_84 : decode cX12_degree 84 = .ok (.getfield 9, 3) := by decide +kernel
theorem dX12_degree_87 : decode cX12_degree 87 = .ok (.aload_n 0, 1) := by decide +kernel
theorem dX12_degree_88 : decode cX12_degree 88 = .ok (.iload_n 1, 1) := by decide +kernel
theorem dX12_degree_89 : decode cX12_degree 89 = .ok (.iload_n 2, 1) := by decide +kernel
theorem dX12_degree_90 : decode cX12_degree 90 = .ok (.iload_n 3, 1) := by decide +kernel
theorem dX12_degree_91 : decode cX12_degree 91 = .ok (.invokevirtual 258, 3) := by decide +kernel
theorem dX12_degree_94 : decode cX12_degree 94 = .ok (.invokevirtual 279, 3) := by decide +kernel
theorem dX12_degree_97 : decode cX12_degree 97 = .ok (.ireturn, 1) := by decide +kernel
theorem dX12_sizeOf_0 : decode cX12_sizeOf 0 = .ok (.iconst 0, 1) := by decide +kernel
theorem dX12_sizeOf_1 : decode cX12_sizeOf 1 = .ok (.istore_n 3, 1) := by decide +kernel
theorem dX12_sizeOf_2 : decode cX12_sizeOf 2 = .ok (.iconst 0, 1) := by decide +kernel
theorem dX12_sizeOf_3 : decode cX12_sizeOf 3 = .ok (.istore 4, 2) := by decide +kernel
theorem dX12_sizeOf_5 : decode cX12_sizeOf 5 = .ok (.iload 4, 2) := by decide +kernel
theorem dX12_sizeOf_7 : decode cX12_sizeOf 7 = .ok (.iconst 4, 1) := by decide +kernel
theorem dX12_sizeOf_8 : decode cX12_sizeOf 8 = .ok (.aload_n 1, 1) := by decide +kernel
theorem dX12_sizeOf_9 : decode cX12_sizeOf 9 = .ok (.iconst 0, 1) := by decide +kernel
theorem dX12_sizeOf_10 : decode cX12_sizeOf 10 = .ok (.iaload, 1) := by decide +kernel
theorem dX12_sizeOf_11 : decode cX12_sizeOf 11 = .ok (.imul, 1) := by decide +kernel
theorem dX12_sizeOf_12 : decode cX12_sizeOf 12 = .ok (.if_icmp .ge 28, 3) := by decide +kernel
theorem dX12_sizeOf_15 : decode cX12_sizeOf 15 = .ok (.iload_n 3, 1) := by decide +kernel
theorem dX12_sizeOf_16 : decode cX12_sizeOf 16 = .ok (.aload_n 0, 1) := by decide +kernel
theorem dX12_sizeOf_17 : decode cX12_sizeOf 17 = .ok (.getfield 51, 3) := by decide +kernel
theorem dX12_sizeOf_20 : decode cX12_sizeOf 20 = .ok (.iload 4, 2) := by decide +kernel
theorem dX12_sizeOf_22 : decode cX12_sizeOf 22 = .ok (.iaload, 1) := by decide +kernel
theorem dX12_sizeOf_23 : decode cX12_sizeOf 23 = .ok (.iload_n 2, 1) := by decide +kernel
theorem dX12_sizeOf_24 : decode cX12_sizeOf 24 = .ok (.if_icmp .ne 7, 3) := by decide +kernel
theorem dX12_sizeOf_27 : decode cX12_sizeOf 27 = .ok (.iconst 1, 1) := by decide +kernel
theorem dX12_sizeOf_28 : decode cX12_sizeOf 28 = .ok (.goto 4, 3) := by decide +kernel
theorem dX12_sizeOf_31 : decode cX12_sizeOf 31 = .ok (.iconst 0, 1) := by decide +kernel
theorem dX12_sizeOf_32 : decode cX12_sizeOf 32 = .ok (.iadd, 1) := by decide +kernel
theorem dX12_sizeOf_33 : decode cX12_sizeOf 33 = .ok (.istore_n 3, 1) := by decide +kernel
theorem dX12_sizeOf_34 : decode cX12_sizeOf 34 = .ok (.iinc 4 1, 3) := by decide +kernel
theorem dX12_sizeOf_37 : decode cX12_sizeOf 37 = .ok (.goto (-32), 3) := by decide +kernel
theorem dX12_sizeOf_40 : decode cX12_sizeOf 40 = .ok (.iload_n 3, 1) := by decide +kernel
theorem dX12_sizeOf_41 : decode cX12_sizeOf 41 = .ok (.ireturn, 1) := by decide +kernel
theorem dX12_endsOf_0 : decode cX12_endsOf 0 = .ok (.iconst 0, 1) := by decide +kernel
theorem dX12_endsOf_1 : decode cX12_endsOf 1 = .ok (.istore_n 3, 1) := by decide +kernel
theorem dX12_endsOf_2 : decode cX12_endsOf 2 = .ok (.iconst 0, 1) := by decide +kernel
theorem dX12_endsOf_3 : decode cX12_endsOf 3 = .ok (.istore 4, 2) := by decide +kernel
theorem dX12_endsOf_5 : decode cX12_endsOf 5 = .ok (.iload 4, 2) := by decide +kernel
theorem dX12_endsOf_7 : decode cX12_endsOf 7 = .ok (.aload_n 1, 1) := by decide +kernel
theorem dX12_endsOf_8 : decode cX12_endsOf 8 = .ok (.iconst 0, 1) := by decide +kernel
theorem dX12_endsOf_9 : decode cX12_endsOf 9 = .ok (.iaload, 1) := by decide +kernel
theorem dX12_endsOf_10 : decode cX12_endsOf 10 = .ok (.if_icmp .ge 91, 3) := by decide +kernel
theorem dX12_endsOf_13 : decode cX12_endsOf 13 = .ok (.iconst 0, 1) := by decide +kernel
theorem dX12_endsOf_14 : decode cX12_endsOf 14 = .ok (.istore 5, 2) := by decide +kernel
theorem dX12_endsOf_16 : decode cX12_endsOf 16 = .ok (.iload 5, 2) := by decide +kernel
theorem dX12_endsOf_18 : decode cX12_endsOf 18 = .ok (.iconst 4, 1) := by decide +kernel
theorem dX12_endsOf_19 : decode cX12_endsOf 19 = .ok (.if_icmp .ge 76, 3) := by decide +kernel
theorem dX12_endsOf_22 : decode cX12_endsOf 22 = .ok (.iconst 0, 1) := by decide +kernel
theorem dX12_endsOf_23 : decode cX12_endsOf 23 = .ok (.istore 6, 2) := by decide +kernel
theorem dX12_endsOf_25 : decode cX12_endsOf 25 = .ok (.iload 6, 2) := by decide +kernel
theorem dX12_endsOf_27 : decode cX12_endsOf 27 = .ok (.iconst 4, 1) := by decide +kernel
theorem dX12_endsOf_28 : decode cX12_endsOf 28 = .ok (.if_icmp .ge 61, 3) := by decide +kernel
theorem dX12_endsOf_31 : decode cX12_endsOf 31 = .ok (.iload 5, 2) := by decide +kernel
theorem dX12_endsOf_33 : decode cX12_endsOf 33 = .ok (.iload 6, 2) := by decide +kernel
theorem dX12_endsOf_35 : decode cX12_endsOf 35 = .ok (.if_icmp .eq 48, 3) := by decide +kernel
theorem dX12_endsOf_38 : decode cX12_endsOf 38 = .ok (.aload_n 0, 1) := by decide +kernel
theorem dX12_endsOf_39 : decode cX12_endsOf 39 = .ok (.getfield 48, 3) := by decide +kernel
theorem dX12_endsOf_42 : decode cX12_endsOf 42 = .ok (.iload 4, 2) := by decide +kernel
theorem dX12_endsOf_44 : decode cX12_endsOf 44 = .ok (.iload 5, 2) := by decide +kernel
theorem dX12_endsOf_46 : decode cX12_endsOf 46 = .ok (.iload 6, 2) := by decide +kernel
theorem dX12_endsOf_48 : decode cX12_endsOf 48 = .ok (.invokestatic 255, 3) := by decide +kernel
theorem dX12_endsOf_51 : decode cX12_endsOf 51 = .ok (.iaload, 1) := by decide +kernel
theorem dX12_endsOf_52 : decode cX12_endsOf 52 = .ok (.iload 4, 2) := by decide +kernel
theorem dX12_endsOf_54 : decode cX12_endsOf 54 = .ok (.iload 5, 2) := by decide +kernel
theorem dX12_endsOf_56 : decode cX12_endsOf 56 = .ok (.iload 6, 2) := by decide +kernel
theorem dX12_endsOf_58 : decode cX12_endsOf 58 = .ok (.invokestatic 255, 3) := by decide +kernel
theorem dX12_endsOf_61 : decode cX12_endsOf 61 = .ok (.if_icmp .ne 22, 3) := by decide +kernel
theorem dX12_endsOf_64 : decode cX12_endsOf 64 = .ok (.aload_n 0, 1) := by decide +kernel
theorem dX12_endsOf_65 : decode cX12_endsOf 65 = .ok (.getfield 51, 3) := by decide +kernel
theorem dX12_endsOf_68 : decode cX12_endsOf 68 = .ok (.iconst 4, 1) := by decide +kernel
theorem dX12_endsOf_69 : decode cX12_endsOf 69 = .ok (.iload 4, 2) := by decide +kernel
theorem dX12_endsOf_71 : decode cX12_endsOf 71 = .ok (.imul, 1) := by decide +kernel
theorem dX12_endsOf_72 : decode cX12_endsOf 72 = .ok (.iload 5, 2) := by decide +kernel
theorem dX12_endsOf_74 : decode cX12_endsOf 74 = .ok (.iadd, 1) := by decide +kernel
theorem dX12_endsOf_75 : decode cX12_endsOf 75 = .ok (.iaload, 1) := by decide +kernel
theorem dX12_endsOf_76 : decode cX12_endsOf 76 = .ok (.iload_n 2, 1) := by decide +kernel
theorem dX12_endsOf_77 : decode cX12_endsOf 77 = .ok (.if_icmp .ne 6, 3) := by decide +kernel
theorem dX12_endsOf_80 : decode cX12_endsOf 80 = .ok (.iinc 3 1, 3) := by decide +kernel
theorem dX12_endsOf_83 : decode cX12_endsOf 83 = .ok (.iinc 6 1, 3) := by decide +kernel
theorem dX12_endsOf_86 : decode cX12_endsOf 86 = .ok (.goto (-61), 3) := by decide +kernel
theorem dX12_endsOf_89 : decode cX12_endsOf 89 = .ok (.iinc 5 1, 3) := by decide +kernel
theorem dX12_endsOf_92 : decode cX12_endsOf 92 = .ok (.goto (-76), 3) := by decide +kernel
theorem dX12_endsOf_95 : decode cX12_endsOf 95 = .ok (.iinc 4 1, 3) := by decide +kernel
theorem dX12_endsOf_98 : decode cX12_endsOf 98 = .ok (.goto (-93), 3) := by decide +kernel
theorem dX12_endsOf_101 : decode cX12_endsOf 101 = .ok (.iload_n 3, 1) := by decide +kernel
theorem dX12_endsOf_102 : decode cX12_endsOf 102 = .ok (.ireturn, 1) := by decide +kernel
theorem dX12_sidesTwice_0 : decode cX12_sidesTwice 0 = .ok (.iconst 0, 1) := by decide +kernel
theorem dX12_sidesTwice_1 : decode cX12_sidesTwice 1 = .ok (.istore_n 3, 1) := by decide +kernel
theorem dX12_sidesTwice_2 : decode cX12_sidesTwice 2 = .ok (.iconst 0, 1) := by decide +kernel
theorem dX12_sidesTwice_3 : decode cX12_sidesTwice 3 = .ok (.istore 4, 2) := by decide +kernel
theorem dX12_sidesTwice_5 : decode cX12_sidesTwice 5 = .ok (.iload 4, 2) := by decide +kernel
theorem dX12_sidesTwice_7 : decode cX12_sidesTwice 7 = .ok (.aload_n 1, 1) := by decide +kernel
theorem dX12_sidesTwice_8 : decode cX12_sidesTwice 8 = .ok (.iconst 0, 1) := by decide +kernel
theorem dX12_sidesTwice_9 : decode cX12_sidesTwice 9 = .ok (.iaload, 1) := by decide +kernel
theorem dX12_sidesTwice_10 : decode cX12_sidesTwice 10 = .ok (.if_icmp .ge 82, 3) := by decide +kernel
theorem dX12_sidesTwice_13 : decode cX12_sidesTwice 13 = .ok (.iconst 0, 1) := by decide +kernel
theorem dX12_sidesTwice_14 : decode cX12_sidesTwice 14 = .ok (.istore 5, 2) := by decide +kernel
theorem dX12_sidesTwice_16 : decode cX12_sidesTwice 16 = .ok (.iload 5, 2) := by decide +kernel
theorem dX12_sidesTwice_18 : decode cX12_sidesTwice 18 = .ok (.iconst 4, 1) := by decide +kernel
theorem dX12_sidesTwice_19 : decode cX12_sidesTwice 19 = .ok (.if_icmp .ge 67, 3) := by decide +kernel
theorem dX12_sidesTwice_22 : decode cX12_sidesTwice 22 = .ok (.iconst 0, 1) := by decide +kernel
theorem dX12_sidesTwice_23 : decode cX12_sidesTwice 23 = .ok (.istore 6, 2) := by decide +kernel
theorem dX12_sidesTwice_25 : decode cX12_sidesTwice 25 = .ok (.iload 6, 2) := by decide +kernel
theorem dX12_sidesTwice_27 : decode cX12_sidesTwice 27 = .ok (.iconst 4, 1) := by decide +kernel
theorem dX12_sidesTwice_28 : decode cX12_sidesTwice 28 = .ok (.if_icmp .ge 52, 3) := by decide +kernel
theorem dX12_sidesTwice_31 : decode cX12_sidesTwice 31 = .ok (.iload 6, 2) := by decide +kernel
theorem dX12_sidesTwice_33 : decode cX12_sidesTwice 33 = .ok (.iload 5, 2) := by decide +kernel
theorem dX12_sidesTwice_35 : decode cX12_sidesTwice 35 = .ok (.if_icmp .eq 39, 3) := by decide +kernel
theorem dX12_sidesTwice_38 : decode cX12_sidesTwice 38 = .ok (.aload_n 0, 1) := by decide +kernel
theorem dX12_sidesTwice_39 : decode cX12_sidesTwice 39 = .ok (.getfield 51, 3) := by decide +kernel
theorem dX12_sidesTwice_42 : decode cX12_sidesTwice 42 = .ok (.iconst 4, 1) := by decide +kernel
theorem dX12_sidesTwice_43 : decode cX12_sidesTwice 43 = .ok (.iload 4, 2) := by decide +kernel
theorem dX12_sidesTwice_45 : decode cX12_sidesTwice 45 = .ok (.imul, 1) := by decide +kernel
theorem dX12_sidesTwice_46 : decode cX12_sidesTwice 46 = .ok (.iload 5, 2) := by decide +kernel
theorem dX12_sidesTwice_48 : decode cX12_sidesTwice 48 = .ok (.iadd, 1) := by decide +kernel
theorem dX12_sidesTwice_49 : decode cX12_sidesTwice 49 = .ok (.iaload, 1) := by decide +kernel
theorem dX12_sidesTwice_50 : decode cX12_sidesTwice 50 = .ok (.iload_n 2, 1) := by decide +kernel
theorem dX12_sidesTwice_51 : decode cX12_sidesTwice 51 = .ok (.if_icmp .ne 23, 3) := by decide +kernel
theorem dX12_sidesTwice_54 : decode cX12_sidesTwice 54 = .ok (.iload_n 3, 1) := by decide +kernel
theorem dX12_sidesTwice_55 : decode cX12_sidesTwice 55 = .ok (.aload_n 1, 1) := by decide +kernel
theorem dX12_sidesTwice_56 : decode cX12_sidesTwice 56 = .ok (.iload 4, 2) := by decide +kernel
theorem dX12_sidesTwice_58 : decode cX12_sidesTwice 58 = .ok (.iload 6, 2) := by decide +kernel
theorem dX12_sidesTwice_60 : decode cX12_sidesTwice 60 = .ok (.invokestatic 150, 3) := by decide +kernel
theorem dX12_sidesTwice_63 : decode cX12_sidesTwice 63 = .ok (.iconst (-1), 1) := by decide +kernel
theorem dX12_sidesTwice_64 : decode cX12_sidesTwice 64 = .ok (.if_icmp .ne 7, 3) := by decide +kernel
theorem dX12_sidesTwice_67 : decode cX12_sidesTwice 67 = .ok (.iconst 2, 1) := by decide +kernel
theorem dX12_sidesTwice_68 : decode cX12_sidesTwice 68 = .ok (.goto 4, 3) := by decide +kernel
theorem dX12_sidesTwice_71 : decode cX12_sidesTwice 71 = .ok (.iconst 1, 1) := by decide +kernel
theorem dX12_sidesTwice_72 : decode cX12_sidesTwice 72 = .ok (.iadd, 1) := by decide +kernel
theorem dX12_sidesTwice_73 : decode cX12_sidesTwice 73 = .ok (.istore_n 3, 1) := by decide +kernel
theorem dX12_sidesTwice_74 : decode cX12_sidesTwice 74 = .ok (.iinc 6 1, 3) := by decide +kernel
theorem dX12_sidesTwice_77 : decode cX12_sidesTwice 77 = .ok (.goto (-52), 3) := by decide +kernel
theorem dX12_sidesTwice_80 : decode cX12_sidesTwice 80 = .ok (.iinc 5 1, 3) := by decide +kernel
theorem dX12_sidesTwice_83 : decode cX12_sidesTwice 83 = .ok (.goto (-67), 3) := by decide +kernel
theorem dX12_sidesTwice_86 : decode cX12_sidesTwice 86 = .ok (.iinc 4 1, 3) := by decide +kernel
theorem dX12_sidesTwice_89 : decode cX12_sidesTwice 89 = .ok (.goto (-84), 3) := by decide +kernel
theorem dX12_sidesTwice_92 : decode cX12_sidesTwice 92 = .ok (.iload_n 3, 1) := by decide +kernel
theorem dX12_sidesTwice_93 : decode cX12_sidesTwice 93 = .ok (.ireturn, 1) := by decide +kernel
theorem dX12_hasFree_0 : decode cX12_hasFree 0 = .ok (.iconst 0, 1) := by decide +kernel
theorem dX12_hasFree_1 : decode cX12_hasFree 1 = .ok (.istore_n 3, 1) := by decide +kernel
theorem dX12_hasFree_2 : decode cX12_hasFree 2 = .ok (.iload_n 3, 1) := by decide +kernel
theorem dX12_hasFree_3 : decode cX12_hasFree 3 = .ok (.aload_n 1, 1) := by decide +kernel
theorem dX12_hasFree_4 : decode cX12_hasFree 4 = .ok (.iconst 0, 1) := by decide +kernel
theorem dX12_hasFree_5 : decode cX12_hasFree 5 = .ok (.iaload, 1) := by decide +kernel
theorem dX12_hasFree_6 : decode cX12_hasFree 6 = .ok (.if_icmp .ge 74, 3) := by decide +kernel
theorem dX12_hasFree_9 : decode cX12_hasFree 9 = .ok (.iconst 0, 1) := by decide +kernel
theorem dX12_hasFree_10 : decode cX12_hasFree 10 = .ok (.istore 4, 2) := by decide +kernel
theorem dX12_hasFree_12 : decode cX12_hasFree 12 = .ok (.iload 4, 2) := by decide +kernel
theorem dX12_hasFree_14 : decode cX12_hasFree 14 = .ok (.iconst 4, 1) := by decide +kernel
theorem dX12_hasFree_15 : decode cX12_hasFree 15 = .ok (.if_icmp .ge 59, 3) := by decide +kernel
theorem dX12_hasFree_18 : decode cX12_hasFree 18 = .ok (.iconst 0, 1) := by decide +kernel
theorem dX12_hasFree_19 : decode cX12_hasFree 19 = .ok (.istore 5, 2) := by decide +kernel
theorem dX12_hasFree_21 : decode cX12_hasFree 21 = .ok (.iload 5, 2) := by decide +kernel
theorem dX12_hasFree_23 : decode cX12_hasFree 23 = .ok (.iconst 4, 1) := by decide +kernel
theorem dX12_hasFree_24 : decode cX12_hasFree 24 = .ok (.if_icmp .ge 44, 3) := by decide +kernel
theorem dX12_hasFree_27 : decode cX12_hasFree 27 = .ok (.iload 5, 2) := by decide +kernel
theorem dX12_hasFree_29 : decode cX12_hasFree 29 = .ok (.iload 4, 2) := by decide +kernel
theorem dX12_hasFree_31 : decode cX12_hasFree 31 = .ok (.if_icmp .eq 31, 3) := by decide +kernel
theorem dX12_hasFree_34 : decode cX12_hasFree 34 = .ok (.aload_n 0, 1) := by decide +kernel
theorem dX12_hasFree_35 : decode cX12_hasFree 35 = .ok (.getfield 51, 3) := by decide +kernel
theorem dX12_hasFree_38 : decode cX12_hasFree 38 = .ok (.iconst 4, 1) := by decide +kernel
theorem dX12_hasFree_39 : decode cX12_hasFree 39 = .ok (.iload_n 3, 1) := by decide +kernel
theorem dX12_hasFree_40 : decode cX12_hasFree 40 = .ok (.imul, 1) := by decide +kernel
theorem dX12_hasFree_41 : decode cX12_hasFree 41 = .ok (.iload 4, 2) := by decide +kernel
theorem dX12_hasFree_43 : decode cX12_hasFree 43 = .ok (.iadd, 1) := by decide +kernel
theorem dX12_hasFree_44 : decode cX12_hasFree 44 = .ok (.iaload, 1) := by decide +kernel
theorem dX12_hasFree_45 : decode cX12_hasFree 45 = .ok (.iload_n 2, 1) := by decide +kernel
theorem dX12_hasFree_46 : decode cX12_hasFree 46 = .ok (.if_icmp .ne 16, 3) := by decide +kernel
theorem dX12_hasFree_49 : decode cX12_hasFree 49 = .ok (.aload_n 1, 1) := by decide +kernel
theorem dX12_hasFree_50 : decode cX12_hasFree 50 = .ok (.iload_n 3, 1) := by decide +kernel
theorem dX12_hasFree_51 : decode cX12_hasFree 51 = .ok (.iload 5, 2) := by decide +kernel
theorem dX12_hasFree_53 : decode cX12_hasFree 53 = .ok (.invokestatic 150, 3) := by decide +kernel
theorem dX12_hasFree_56 : decode cX12_hasFree 56 = .ok (.iconst (-1), 1) := by decide +kernel
theorem dX12_hasFree_57 : decode cX12_hasFree 57 = .ok (.if_icmp .ne 5, 3) := by decide +kernel
theorem dX12_hasFree_60 : decode cX12_hasFree 60 = .ok (.iconst 1, 1) := by decide +kernel
theorem dX12_hasFree_61 : decode cX12_hasFree 61 = .ok (.ireturn, 1) := by decide +kernel
theorem dX12_hasFree_62 : decode cX12_hasFree 62 = .ok (.iinc 5 1, 3) := by decide +kernel
theorem dX12_hasFree_65 : decode cX12_hasFree 65 = .ok (.goto (-44), 3) := by decide +kernel
theorem dX12_hasFree_68 : decode cX12_hasFree 68 = .ok (.iinc 4 1, 3) := by decide +kernel
theorem dX12_hasFree_71 : decode cX12_hasFree 71 = .ok (.goto (-59), 3) := by decide +kernel
theorem dX12_hasFree_74 : decode cX12_hasFree 74 = .ok (.iinc 3 1, 3) := by decide +kernel
theorem dX12_hasFree_77 : decode cX12_hasFree 77 = .ok (.goto (-75), 3) := by decide +kernel
theorem dX12_hasFree_80 : decode cX12_hasFree 80 = .ok (.iconst 0, 1) := by decide +kernel
theorem dX12_hasFree_81 : decode cX12_hasFree 81 = .ok (.ireturn, 1) := by decide +kernel
theorem dX12_chiOf_0 : decode cX12_chiOf 0 = .ok (.aload_n 0, 1) := by decide +kernel
theorem dX12_chiOf_1 : decode cX12_chiOf 1 = .ok (.aload_n 1, 1) := by decide +kernel
theorem dX12_chiOf_2 : decode cX12_chiOf 2 = .ok (.iload_n 2, 1) := by decide +kernel
theorem dX12_chiOf_3 : decode cX12_chiOf 3 = .ok (.invokevirtual 282, 3) := by decide +kernel
theorem dX12_chiOf_6 : decode cX12_chiOf 6 = .ok (.aload_n 0, 1) := by decide +kernel
theorem dX12_chiOf_7 : decode cX12_chiOf 7 = .ok (.aload_n 1, 1) := by decide +kernel
theorem dX12_chiOf_8 : decode cX12_chiOf 8 = .ok (.iload_n 2, 1) := by decide +kernel
theorem dX12_chiOf_9 : decode cX12_chiOf 9 = .ok (.invokevirtual 285, 3) := by decide +kernel
theorem dX12_chiOf_12 : decode cX12_chiOf 12 = .ok (.iconst 2, 1) := by decide +kernel
theorem dX12_chiOf_13 : decode cX12_chiOf 13 = .ok (.idiv, 1) := by decide +kernel
theorem dX12_chiOf_14 : decode cX12_chiOf 14 = .ok (.isub, 1) := by decide +kernel
theorem dX12_chiOf_15 : decode cX12_chiOf 15 = .ok (.aload_n 0, 1) := by decide +kernel
theorem dX12_chiOf_16 : decode cX12_chiOf 16 = .ok (.aload_n 1, 1) := by decide +kernel
theorem dX12_chiOf_17 : decode cX12_chiOf 17 = .ok (.iload_n 2, 1) := by decide +kernel
theorem dX12_chiOf_18 : decode cX12_chiOf 18 = .ok (.invokevirtual 288, 3) := by decide +kernel
theorem dX12_chiOf_21 : decode cX12_chiOf 21 = .ok (.iadd, 1) := by decide +kernel
theorem dX12_chiOf_22 : decode cX12_chiOf 22 = .ok (.ireturn, 1) := by decide +kernel
theorem dX12_isRound_0 : decode cX12_isRound 0 = .ok (.aload_n 0, 1) := by decide +kernel
theorem dX12_isRound_1 : decode cX12_isRound 1 = .ok (.aload_n 1, 1) := by decide +kernel
theorem dX12_isRound_2 : decode cX12_isRound 2 = .ok (.iload_n 2, 1) := by decide +kernel
theorem dX12_isRound_3 : decode cX12_isRound 3 = .ok (.invokevirtual 291, 3) := by decide +kernel
theorem dX12_isRound_6 : decode cX12_isRound 6 = .ok (.iconst 2, 1) := by decide +kernel
