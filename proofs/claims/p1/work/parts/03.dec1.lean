theorem dX7_floodEnds_25 : decode cX7_floodEnds 25 = .ok (.iload 4, 2) := by decide +kernel
theorem dX7_floodEnds_27 : decode cX7_floodEnds 27 = .ok (.sipush 128, 3) := by decide +kernel
theorem dX7_floodEnds_30 : decode cX7_floodEnds 30 = .ok (.if_icmp .ge 164, 3) := by decide +kernel
theorem dX7_floodEnds_33 : decode cX7_floodEnds 33 = .ok (.aload_n 0, 1) := by decide +kernel
theorem dX7_floodEnds_34 : decode cX7_floodEnds 34 = .ok (.getfield 37, 3) := by decide +kernel
theorem dX7_floodEnds_37 : decode cX7_floodEnds 37 = .ok (.iload 4, 2) := by decide +kernel
theorem dX7_floodEnds_39 : decode cX7_floodEnds 39 = .ok (.iaload, 1) := by decide +kernel
theorem dX7_floodEnds_40 : decode cX7_floodEnds 40 = .ok (.iconst 4, 1) := by decide +kernel
theorem dX7_floodEnds_41 : decode cX7_floodEnds 41 = .ok (.ishr, 1) := by decide +kernel
theorem dX7_floodEnds_42 : decode cX7_floodEnds 42 = .ok (.istore 5, 2) := by decide +kernel
theorem dX7_floodEnds_44 : decode cX7_floodEnds 44 = .ok (.aload_n 0, 1) := by decide +kernel
theorem dX7_floodEnds_45 : decode cX7_floodEnds 45 = .ok (.getfield 37, 3) := by decide +kernel
theorem dX7_floodEnds_48 : decode cX7_floodEnds 48 = .ok (.iload 4, 2) := by decide +kernel
theorem dX7_floodEnds_50 : decode cX7_floodEnds 50 = .ok (.iaload, 1) := by decide +kernel
theorem dX7_floodEnds_51 : decode cX7_floodEnds 51 = .ok (.iconst 2, 1) := by decide +kernel
theorem dX7_floodEnds_52 : decode cX7_floodEnds 52 = .ok (.ishr, 1) := by decide +kernel
theorem dX7_floodEnds_53 : decode cX7_floodEnds 53 = .ok (.iconst 3, 1) := by decide +kernel
theorem dX7_floodEnds_54 : decode cX7_floodEnds 54 = .ok (.iand, 1) := by decide +kernel
theorem dX7_floodEnds_55 : decode cX7_floodEnds 55 = .ok (.istore 6, 2) := by decide +kernel
theorem dX7_floodEnds_57 : decode cX7_floodEnds 57 = .ok (.aload_n 0, 1) := by decide +kernel
theorem dX7_floodEnds_58 : decode cX7_floodEnds 58 = .ok (.getfield 37, 3) := by decide +kernel
theorem dX7_floodEnds_61 : decode cX7_floodEnds 61 = .ok (.iload 4, 2) := by decide +kernel
theorem dX7_floodEnds_63 : decode cX7_floodEnds 63 = .ok (.iaload, 1) := by decide +kernel
theorem dX7_floodEnds_64 : decode cX7_floodEnds 64 = .ok (.iconst 3, 1) := by decide +kernel
theorem dX7_floodEnds_65 : decode cX7_floodEnds 65 = .ok (.iand, 1) := by decide +kernel
theorem dX7_floodEnds_66 : decode cX7_floodEnds 66 = .ok (.istore 7, 2) := by decide +kernel
theorem dX7_floodEnds_68 : decode cX7_floodEnds 68 = .ok (.iconst 0, 1) := by decide +kernel
theorem dX7_floodEnds_69 : decode cX7_floodEnds 69 = .ok (.istore 8, 2) := by decide +kernel
theorem dX7_floodEnds_71 : decode cX7_floodEnds 71 = .ok (.iload 8, 2) := by decide +kernel
theorem dX7_floodEnds_73 : decode cX7_floodEnds 73 = .ok (.iconst 4, 1) := by decide +kernel
theorem dX7_floodEnds_74 : decode cX7_floodEnds 74 = .ok (.if_icmp .ge 114, 3) := by decide +kernel
theorem dX7_floodEnds_77 : decode cX7_floodEnds 77 = .ok (.aload_n 1, 1) := by decide +kernel
theorem dX7_floodEnds_78 : decode cX7_floodEnds 78 = .ok (.getfield 75, 3) := by decide +kernel
theorem dX7_floodEnds_81 : decode cX7_floodEnds 81 = .ok (.iconst 4, 1) := by decide +kernel
theorem dX7_floodEnds_82 : decode cX7_floodEnds 82 = .ok (.iload 5, 2) := by decide +kernel
theorem dX7_floodEnds_84 : decode cX7_floodEnds 84 = .ok (.imul, 1) := by decide +kernel
theorem dX7_floodEnds_85 : decode cX7_floodEnds 85 = .ok (.iload 8, 2) := by decide +kernel
theorem dX7_floodEnds_87 : decode cX7_floodEnds 87 = .ok (.iadd, 1) := by decide +kernel
theorem dX7_floodEnds_88 : decode cX7_floodEnds 88 = .ok (.iaload, 1) := by decide +kernel
theorem dX7_floodEnds_89 : decode cX7_floodEnds 89 = .ok (.istore 9, 2) := by decide +kernel
theorem dX7_floodEnds_91 : decode cX7_floodEnds 91 = .ok (.iload 8, 2) := by decide +kernel
theorem dX7_floodEnds_93 : decode cX7_floodEnds 93 = .ok (.iload 6, 2) := by decide +kernel
theorem dX7_floodEnds_95 : decode cX7_floodEnds 95 = .ok (.if_icmp .eq 87, 3) := by decide +kernel
theorem dX7_floodEnds_98 : decode cX7_floodEnds 98 = .ok (.iload 8, 2) := by decide +kernel
theorem dX7_floodEnds_100 : decode cX7_floodEnds 100 = .ok (.iload 7, 2) := by decide +kernel
theorem dX7_floodEnds_102 : decode cX7_floodEnds 102 = .ok (.if_icmp .eq 80, 3) := by decide +kernel
theorem dX7_floodEnds_105 : decode cX7_floodEnds 105 = .ok (.iload 9, 2) := by decide +kernel
theorem dX7_floodEnds_107 : decode cX7_floodEnds 107 = .ok (.ifCond .ge 6, 3) := by decide +kernel
theorem dX7_floodEnds_110 : decode cX7_floodEnds 110 = .ok (.goto 72, 3) := by decide +kernel
theorem dX7_floodEnds_113 : decode cX7_floodEnds 113 = .ok (.iconst 4, 1) := by decide +kernel
theorem dX7_floodEnds_114 : decode cX7_floodEnds 114 = .ok (.iload 9, 2) := by decide +kernel
theorem dX7_floodEnds_116 : decode cX7_floodEnds 116 = .ok (.bipush 31, 2) := by decide +kernel
theorem dX7_floodEnds_118 : decode cX7_floodEnds 118 = .ok (.iand, 1) := by decide +kernel
theorem dX7_floodEnds_119 : decode cX7_floodEnds 119 = .ok (.imul, 1) := by decide +kernel
theorem dX7_floodEnds_120 : decode cX7_floodEnds 120 = .ok (.istore 10, 2) := by decide +kernel
theorem dX7_floodEnds_122 : decode cX7_floodEnds 122 = .ok (.bipush 16, 2) := by decide +kernel
theorem dX7_floodEnds_124 : decode cX7_floodEnds 124 = .ok (.iload 9, 2) := by decide +kernel
theorem dX7_floodEnds_126 : decode cX7_floodEnds 126 = .ok (.iconst 5, 1) := by decide +kernel
theorem dX7_floodEnds_127 : decode cX7_floodEnds 127 = .ok (.ishr, 1) := by decide +kernel
theorem dX7_floodEnds_128 : decode cX7_floodEnds 128 = .ok (.imul, 1) := by decide +kernel
theorem dX7_floodEnds_129 : decode cX7_floodEnds 129 = .ok (.iconst 4, 1) := by decide +kernel
theorem dX7_floodEnds_130 : decode cX7_floodEnds 130 = .ok (.getstatic 78, 3) := by decide +kernel
theorem dX7_floodEnds_133 : decode cX7_floodEnds 133 = .ok (.iload 10, 2) := by decide +kernel
theorem dX7_floodEnds_135 : decode cX7_floodEnds 135 = .ok (.iload 6, 2) := by decide +kernel
theorem dX7_floodEnds_137 : decode cX7_floodEnds 137 = .ok (.iadd, 1) := by decide +kernel
theorem dX7_floodEnds_138 : decode cX7_floodEnds 138 = .ok (.iaload, 1) := by decide +kernel
theorem dX7_floodEnds_139 : decode cX7_floodEnds 139 = .ok (.imul, 1) := by decide +kernel
theorem dX7_floodEnds_140 : decode cX7_floodEnds 140 = .ok (.iadd, 1) := by decide +kernel
theorem dX7_floodEnds_141 : decode cX7_floodEnds 141 = .ok (.getstatic 78, 3) := by decide +kernel
theorem dX7_floodEnds_144 : decode cX7_floodEnds 144 = .ok (.iload 10, 2) := by decide +kernel
theorem dX7_floodEnds_146 : decode cX7_floodEnds 146 = .ok (.iload 7, 2) := by decide +kernel
theorem dX7_floodEnds_148 : decode cX7_floodEnds 148 = .ok (.iadd, 1) := by decide +kernel
theorem dX7_floodEnds_149 : decode cX7_floodEnds 149 = .ok (.iaload, 1) := by decide +kernel
theorem dX7_floodEnds_150 : decode cX7_floodEnds 150 = .ok (.iadd, 1) := by decide +kernel
theorem dX7_floodEnds_151 : decode cX7_floodEnds 151 = .ok (.istore 11, 2) := by decide +kernel
theorem dX7_floodEnds_153 : decode cX7_floodEnds 153 = .ok (.aload_n 0, 1) := by decide +kernel
theorem dX7_floodEnds_154 : decode cX7_floodEnds 154 = .ok (.getfield 11, 3) := by decide +kernel
theorem dX7_floodEnds_157 : decode cX7_floodEnds 157 = .ok (.iload 11, 2) := by decide +kernel
theorem dX7_floodEnds_159 : decode cX7_floodEnds 159 = .ok (.iaload, 1) := by decide +kernel
theorem dX7_floodEnds_160 : decode cX7_floodEnds 160 = .ok (.ifCond .ge 22, 3) := by decide +kernel
theorem dX7_floodEnds_163 : decode cX7_floodEnds 163 = .ok (.aload_n 0, 1) := by decide +kernel
theorem dX7_floodEnds_164 : decode cX7_floodEnds 164 = .ok (.getfield 11, 3) := by decide +kernel
theorem dX7_floodEnds_167 : decode cX7_floodEnds 167 = .ok (.iload 11, 2) := by decide +kernel
theorem dX7_floodEnds_169 : decode cX7_floodEnds 169 = .ok (.iload_n 2, 1) := by decide +kernel
theorem dX7_floodEnds_170 : decode cX7_floodEnds 170 = .ok (.iastore, 1) := by decide +kernel
theorem dX7_floodEnds_171 : decode cX7_floodEnds 171 = .ok (.aload_n 0, 1) := by decide +kernel
theorem dX7_floodEnds_172 : decode cX7_floodEnds 172 = .ok (.getfield 37, 3) := by decide +kernel
theorem dX7_floodEnds_175 : decode cX7_floodEnds 175 = .ok (.iload_n 3, 1) := by decide +kernel
theorem dX7_floodEnds_176 : decode cX7_floodEnds 176 = .ok (.iload 11, 2) := by decide +kernel
theorem dX7_floodEnds_178 : decode cX7_floodEnds 178 = .ok (.iastore, 1) := by decide +kernel
theorem dX7_floodEnds_179 : decode cX7_floodEnds 179 = .ok (.iinc 3 1, 3) := by decide +kernel
theorem dX7_floodEnds_182 : decode cX7_floodEnds 182 = .ok (.iinc 8 1, 3) := by decide +kernel
theorem dX7_floodEnds_185 : decode cX7_floodEnds 185 = .ok (.goto (-114), 3) := by decide +kernel
theorem dX7_floodEnds_188 : decode cX7_floodEnds 188 = .ok (.iinc 4 1, 3) := by decide +kernel
theorem dX7_floodEnds_191 : decode cX7_floodEnds 191 = .ok (.goto (-172), 3) := by decide +kernel
theorem dX7_floodEnds_194 : decode cX7_floodEnds 194 = .ok (.return_, 1) := by decide +kernel
theorem dX7_floodCorners_0 : decode cX7_floodCorners 0 = .ok (.aload_n 0, 1) := by decide +kernel
theorem dX7_floodCorners_1 : decode cX7_floodCorners 1 = .ok (.getfield 25, 3) := by decide +kernel
theorem dX7_floodCorners_4 : decode cX7_floodCorners 4 = .ok (.iload_n 2, 1) := by decide +kernel
theorem dX7_floodCorners_5 : decode cX7_floodCorners 5 = .ok (.iload_n 2, 1) := by decide +kernel
theorem dX7_floodCorners_6 : decode cX7_floodCorners 6 = .ok (.iastore, 1) := by decide +kernel
theorem dX7_floodCorners_7 : decode cX7_floodCorners 7 = .ok (.aload_n 0, 1) := by decide +kernel
theorem dX7_floodCorners_8 : decode cX7_floodCorners 8 = .ok (.getfield 37, 3) := by decide +kernel
theorem dX7_floodCorners_11 : decode cX7_floodCorners 11 = .ok (.iconst 0, 1) := by decide +kernel
theorem dX7_floodCorners_12 : decode cX7_floodCorners 12 = .ok (.iload_n 2, 1) := by decide +kernel
theorem dX7_floodCorners_13 : decode cX7_floodCorners 13 = .ok (.iastore, 1) := by decide +kernel
theorem dX7_floodCorners_14 : decode cX7_floodCorners 14 = .ok (.iconst 1, 1) := by decide +kernel
theorem dX7_floodCorners_15 : decode cX7_floodCorners 15 = .ok (.istore_n 3, 1) := by decide +kernel
theorem dX7_floodCorners_16 : decode cX7_floodCorners 16 = .ok (.iconst 0, 1) := by decide +kernel
theorem dX7_floodCorners_17 : decode cX7_floodCorners 17 = .ok (.istore 4, 2) := by decide +kernel
theorem dX7_floodCorners_19 : decode cX7_floodCorners 19 = .ok (.iload 4, 2) := by decide +kernel
theorem dX7_floodCorners_21 : decode cX7_floodCorners 21 = .ok (.iload_n 3, 1) := by decide +kernel
theorem dX7_floodCorners_22 : decode cX7_floodCorners 22 = .ok (.if_icmp .ge 134, 3) := by decide +kernel
theorem dX7_floodCorners_25 : decode cX7_floodCorners 25 = .ok (.iload 4, 2) := by decide +kernel
theorem dX7_floodCorners_27 : decode cX7_floodCorners 27 = .ok (.bipush 32, 2) := by decide +kernel
theorem dX7_floodCorners_29 : decode cX7_floodCorners 29 = .ok (.if_icmp .ge 127, 3) := by decide +kernel
theorem dX7_floodCorners_32 : decode cX7_floodCorners 32 = .ok (.aload_n 0, 1) := by decide +kernel
theorem dX7_floodCorners_33 : decode cX7_floodCorners 33 = .ok (.getfield 37, 3) := by decide +kernel
theorem dX7_floodCorners_36 : decode cX7_floodCorners 36 = .ok (.iload 4, 2) := by decide +kernel
theorem dX7_floodCorners_38 : decode cX7_floodCorners 38 = .ok (.iaload, 1) := by decide +kernel
theorem dX7_floodCorners_39 : decode cX7_floodCorners 39 = .ok (.iconst 2, 1) := by decide +kernel
theorem dX7_floodCorners_40 : decode cX7_floodCorners 40 = .ok (.ishr, 1) := by decide +kernel
theorem dX7_floodCorners_41 : decode cX7_floodCorners 41 = .ok (.istore 5, 2) := by decide +kernel
theorem dX7_floodCorners_43 : decode cX7_floodCorners 43 = .ok (.aload_n 0, 1) := by decide +kernel
theorem dX7_floodCorners_44 : decode cX7_floodCorners 44 = .ok (.getfield 37, 3) := by decide +kernel
theorem dX7_floodCorners_47 : decode cX7_floodCorners 47 = .ok (.iload 4, 2) := by decide +kernel
theorem dX7_floodCorners_49 : decode cX7_floodCorners 49 = .ok (.iaload, 1) := by decide +kernel
theorem dX7_floodCorners_50 : decode cX7_floodCorners 50 = .ok (.iconst 3, 1) := by decide +kernel
theorem dX7_floodCorners_51 : decode cX7_floodCorners 51 = .ok (.iand, 1) := by decide +kernel
theorem dX7_floodCorners_52 : decode cX7_floodCorners 52 = .ok (.istore 6, 2) := by decide +kernel
theorem dX7_floodCorners_54 : decode cX7_floodCorners 54 = .ok (.iconst 0, 1) := by decide +kernel
theorem dX7_floodCorners_55 : decode cX7_floodCorners 55 = .ok (.istore 7, 2) := by decide +kernel
theorem dX7_floodCorners_57 : decode cX7_floodCorners 57 = .ok (.iload 7, 2) := by decide +kernel
theorem dX7_floodCorners_59 : decode cX7_floodCorners 59 = .ok (.iconst 4, 1) := by decide +kernel
theorem dX7_floodCorners_60 : decode cX7_floodCorners 60 = .ok (.if_icmp .ge 90, 3) := by decide +kernel
theorem dX7_floodCorners_63 : decode cX7_floodCorners 63 = .ok (.aload_n 1, 1) := by decide +kernel
theorem dX7_floodCorners_64 : decode cX7_floodCorners 64 = .ok (.getfield 75, 3) := by decide +kernel
theorem dX7_floodCorners_67 : decode cX7_floodCorners 67 = .ok (.iconst 4, 1) := by decide +kernel
theorem dX7_floodCorners_68 : decode cX7_floodCorners 68 = .ok (.iload 5, 2) := by decide +kernel
theorem dX7_floodCorners_70 : decode cX7_floodCorners 70 = .ok (.imul, 1) := by decide +kernel
theorem dX7_floodCorners_71 : decode cX7_floodCorners 71 = .ok (.iload 7, 2) := by decide +kernel
theorem dX7_floodCorners_73 : decode cX7_floodCorners 73 = .ok (.iadd, 1) := by decide +kernel
theorem dX7_floodCorners_74 : decode cX7_floodCorners 74 = .ok (.iaload, 1) := by decide +kernel
theorem dX7_floodCorners_75 : decode cX7_floodCorners 75 = .ok (.istore 8, 2) := by decide +kernel
theorem dX7_floodCorners_77 : decode cX7_floodCorners 77 = .ok (.iload 7, 2) := by decide +kernel
theorem dX7_floodCorners_79 : decode cX7_floodCorners 79 = .ok (.iload 6, 2) := by decide +kernel
theorem dX7_floodCorners_81 : decode cX7_floodCorners 81 = .ok (.if_icmp .eq 63, 3) := by decide +kernel
theorem dX7_floodCorners_84 : decode cX7_floodCorners 84 = .ok (.iload 8, 2) := by decide +kernel
theorem dX7_floodCorners_86 : decode cX7_floodCorners 86 = .ok (.ifCond .ge 6, 3) := by decide +kernel
theorem dX7_floodCorners_89 : decode cX7_floodCorners 89 = .ok (.goto 55, 3) := by decide +kernel
theorem dX7_floodCorners_92 : decode cX7_floodCorners 92 = .ok (.iconst 4, 1) := by decide +kernel
theorem dX7_floodCorners_93 : decode cX7_floodCorners 93 = .ok (.iload 8, 2) := by decide +kernel
theorem dX7_floodCorners_95 : decode cX7_floodCorners 95 = .ok (.iconst 5, 1) := by decide +kernel
theorem dX7_floodCorners_96 : decode cX7_floodCorners 96 = .ok (.ishr, 1) := by decide +kernel
theorem dX7_floodCorners_97 : decode cX7_floodCorners 97 = .ok (.imul, 1) := by decide +kernel
theorem dX7_floodCorners_98 : decode cX7_floodCorners 98 = .ok (.getstatic 78, 3) := by decide +kernel
theorem dX7_floodCorners_101 : decode cX7_floodCorners 101 = .ok (.iconst 4, 1) := by decide +kernel
theorem dX7_floodCorners_102 : decode cX7_floodCorners 102 = .ok (.iload 8, 2) := by decide +kernel
theorem dX7_floodCorners_104 : decode cX7_floodCorners 104 = .ok (.bipush 31, 2) := by decide +kernel
theorem dX7_floodCorners_106 : decode cX7_floodCorners 106 = .ok (.iand, 1) := by decide +kernel
theorem dX7_floodCorners_107 : decode cX7_floodCorners 107 = .ok (.imul, 1) := by decide +kernel
theorem dX7_floodCorners_108 : decode cX7_floodCorners 108 = .ok (.iload 6, 2) := by decide +kernel
theorem dX7_floodCorners_110 : decode cX7_floodCorners 110 = .ok (.iadd, 1) := by decide +kernel
theorem dX7_floodCorners_111 : decode cX7_floodCorners 111 = .ok (.iaload, 1) := by decide +kernel
theorem dX7_floodCorners_112 : decode cX7_floodCorners 112 = .ok (.iadd, 1) := by decide +kernel
theorem dX7_floodCorners_113 : decode cX7_floodCorners 113 = .ok (.istore 9, 2) := by decide +kernel
theorem dX7_floodCorners_115 : decode cX7_floodCorners 115 = .ok (.aload_n 0, 1) := by decide +kernel
theorem dX7_floodCorners_116 : decode cX7_floodCorners 116 = .ok (.getfield 25, 3) := by decide +kernel
theorem dX7_floodCorners_119 : decode cX7_floodCorners 119 = .ok (.iload 9, 2) := by decide +kernel
theorem dX7_floodCorners_121 : decode cX7_floodCorners 121 = .ok (.iaload, 1) := by decide +kernel
theorem dX7_floodCorners_122 : decode cX7_floodCorners 122 = .ok (.ifCond .ge 22, 3) := by decide +kernel
theorem dX7_floodCorners_125 : decode cX7_floodCorners 125 = .ok (.aload_n 0, 1) := by decide +kernel
theorem dX7_floodCorners_126 : decode cX7_floodCorners 126 = .ok (.getfield 25, 3) := by decide +kernel
theorem dX7_floodCorners_129 : decode cX7_floodCorners 129 = .ok (.iload 9, 2) := by decide +kernel
theorem dX7_floodCorners_131 : decode cX7_floodCorners 131 = .ok (.iload_n 2, 1) := by decide +kernel
theorem dX7_floodCorners_132 : decode cX7_floodCorners 132 = .ok (.iastore, 1) := by decide +kernel
theorem dX7_floodCorners_133 : decode cX7_floodCorners 133 = .ok (.aload_n 0, 1) := by decide +kernel
theorem dX7_floodCorners_134 : decode cX7_floodCorners 134 = .ok (.getfield 37, 3) := by decide +kernel
theorem dX7_floodCorners_137 : decode cX7_floodCorners 137 = .ok (.iload_n 3, 1) := by decide +kernel
theorem dX7_floodCorners_138 : decode cX7_floodCorners 138 = .ok (.iload 9, 2) := by decide +kernel
theorem dX7_floodCorners_140 : decode cX7_floodCorners 140 = .ok (.iastore, 1) := by decide +kernel
theorem dX7_floodCorners_141 : decode cX7_floodCorners 141 = .ok (.iinc 3 1, 3) := by decide +kernel
theorem dX7_floodCorners_144 : decode cX7_floodCorners 144 = .ok (.iinc 7 1, 3) := by decide +kernel
theorem dX7_floodCorners_147 : decode cX7_floodCorners 147 = .ok (.goto (-90), 3) := by decide +kernel
theorem dX7_floodCorners_150 : decode cX7_floodCorners 150 = .ok (.iinc 4 1, 3) := by decide +kernel
theorem dX7_floodCorners_153 : decode cX7_floodCorners 153 = .ok (.goto (-134), 3) := by decide +kernel
theorem dX7_floodCorners_156 : decode cX7_floodCorners 156 = .ok (.return_, 1) := by decide +kernel
theorem dX7_measureEdges_0 : decode cX7_measureEdges 0 = .ok (.iconst 0, 1) := by decide +kernel
theorem dX7_measureEdges_1 : decode cX7_measureEdges 1 = .ok (.istore_n 2, 1) := by decide +kernel
theorem dX7_measureEdges_2 : decode cX7_measureEdges 2 = .ok (.iload_n 2, 1) := by decide +kernel
theorem dX7_measureEdges_3 : decode cX7_measureEdges 3 = .ok (.bipush 16, 2) := by decide +kernel
theorem dX7_measureEdges_5 : decode cX7_measureEdges 5 = .ok (.aload_n 1, 1) := by decide +kernel
theorem dX7_measureEdges_6 : decode cX7_measureEdges 6 = .ok (.getfield 43, 3) := by decide +kernel
theorem dX7_measureEdges_9 : decode cX7_measureEdges 9 = .ok (.imul, 1) := by decide +kernel
theorem dX7_measureEdges_10 : decode cX7_measureEdges 10 = .ok (.if_icmp .ge 147, 3) := by decide +kernel
theorem dX7_measureEdges_13 : decode cX7_measureEdges 13 = .ok (.iload_n 2, 1) := by decide +kernel
theorem dX7_measureEdges_14 : decode cX7_measureEdges 14 = .ok (.iconst 2, 1) := by decide +kernel
theorem dX7_measureEdges_15 : decode cX7_measureEdges 15 = .ok (.ishr, 1) := by decide +kernel
theorem dX7_measureEdges_16 : decode cX7_measureEdges 16 = .ok (.iconst 3, 1) := by decide +kernel
theorem dX7_measureEdges_17 : decode cX7_measureEdges 17 = .ok (.iand, 1) := by decide +kernel
theorem dX7_measureEdges_18 : decode cX7_measureEdges 18 = .ok (.istore_n 3, 1) := by decide +kernel
theorem dX7_measureEdges_19 : decode cX7_measureEdges 19 = .ok (.iload_n 2, 1) := by decide +kernel
theorem dX7_measureEdges_20 : decode cX7_measureEdges 20 = .ok (.iconst 3, 1) := by decide +kernel
theorem dX7_measureEdges_21 : decode cX7_measureEdges 21 = .ok (.iand, 1) := by decide +kernel
theorem dX7_measureEdges_22 : decode cX7_measureEdges 22 = .ok (.istore 4, 2) := by decide +kernel
theorem dX7_measureEdges_24 : decode cX7_measureEdges 24 = .ok (.iload_n 3, 1) := by decide +kernel
theorem dX7_measureEdges_25 : decode cX7_measureEdges 25 = .ok (.iload 4, 2) := by decide +kernel
theorem dX7_measureEdges_27 : decode cX7_measureEdges 27 = .ok (.if_icmp .lt 6, 3) := by decide +kernel
theorem dX7_measureEdges_30 : decode cX7_measureEdges 30 = .ok (.goto 121, 3) := by decide +kernel
theorem dX7_measureEdges_33 : decode cX7_measureEdges 33 = .ok (.aload_n 0, 1) := by decide +kernel
theorem dX7_measureEdges_34 : decode cX7_measureEdges 34 = .ok (.getfield 11, 3) := by decide +kernel
theorem dX7_measureEdges_37 : decode cX7_measureEdges 37 = .ok (.iload_n 2, 1) := by decide +kernel
theorem dX7_measureEdges_38 : decode cX7_measureEdges 38 = .ok (.iaload, 1) := by decide +kernel
theorem dX7_measureEdges_39 : decode cX7_measureEdges 39 = .ok (.aload_n 0, 1) := by decide +kernel
theorem dX7_measureEdges_40 : decode cX7_measureEdges 40 = .ok (.getfield 11, 3) := by decide +kernel
theorem dX7_measureEdges_43 : decode cX7_measureEdges 43 = .ok (.iload_n 2, 1) := by decide +kernel
theorem dX7_measureEdges_44 : decode cX7_measureEdges 44 = .ok (.invokestatic 81, 3) := by decide +kernel
theorem dX7_measureEdges_47 : decode cX7_measureEdges 47 = .ok (.iaload, 1) := by decide +kernel
theorem dX7_measureEdges_48 : decode cX7_measureEdges 48 = .ok (.invokestatic 85, 3) := by decide +kernel
theorem dX7_measureEdges_51 : decode cX7_measureEdges 51 = .ok (.istore 5, 2) := by decide +kernel
theorem dX7_measureEdges_53 : decode cX7_measureEdges 53 = .ok (.aload_n 0, 1) := by decide +kernel
theorem dX7_measureEdges_54 : decode cX7_measureEdges 54 = .ok (.getfield 15, 3) := by decide +kernel
theorem dX7_measureEdges_57 : decode cX7_measureEdges 57 = .ok (.iload_n 2, 1) := by decide +kernel
theorem dX7_measureEdges_58 : decode cX7_measureEdges 58 = .ok (.iload 5, 2) := by decide +kernel
theorem dX7_measureEdges_60 : decode cX7_measureEdges 60 = .ok (.iastore, 1) := by decide +kernel
theorem dX7_measureEdges_61 : decode cX7_measureEdges 61 = .ok (.aload_n 0, 1) := by decide +kernel
theorem dX7_measureEdges_62 : decode cX7_measureEdges 62 = .ok (.getfield 15, 3) := by decide +kernel
theorem dX7_measureEdges_65 : decode cX7_measureEdges 65 = .ok (.iload_n 2, 1) := by decide +kernel
theorem dX7_measureEdges_66 : decode cX7_measureEdges 66 = .ok (.invokestatic 81, 3) := by decide +kernel
theorem dX7_measureEdges_69 : decode cX7_measureEdges 69 = .ok (.iload 5, 2) := by decide +kernel
theorem dX7_measureEdges_71 : decode cX7_measureEdges 71 = .ok (.iastore, 1) := by decide +kernel
theorem dX7_measureEdges_72 : decode cX7_measureEdges 72 = .ok (.aload_n 0, 1) := by decide +kernel
theorem dX7_measureEdges_73 : decode cX7_measureEdges 73 = .ok (.getfield 18, 3) := by decide +kernel
theorem dX7_measureEdges_76 : decode cX7_measureEdges 76 = .ok (.iload 5, 2) := by decide +kernel
theorem dX7_measureEdges_78 : decode cX7_measureEdges 78 = .ok (.dup2, 1) := by decide +kernel
theorem dX7_measureEdges_79 : decode cX7_measureEdges 79 = .ok (.iaload, 1) := by decide +kernel
theorem dX7_measureEdges_80 : decode cX7_measureEdges 80 = .ok (.iconst 1, 1) := by decide +kernel
theorem dX7_measureEdges_81 : decode cX7_measureEdges 81 = .ok (.iadd, 1) := by decide +kernel
theorem dX7_measureEdges_82 : decode cX7_measureEdges 82 = .ok (.iastore, 1) := by decide +kernel
theorem dX7_measureEdges_83 : decode cX7_measureEdges 83 = .ok (.iload 5, 2) := by decide +kernel
theorem dX7_measureEdges_85 : decode cX7_measureEdges 85 = .ok (.iload_n 2, 1) := by decide +kernel
theorem dX7_measureEdges_86 : decode cX7_measureEdges 86 = .ok (.if_icmp .ne 13, 3) := by decide +kernel
theorem dX7_measureEdges_89 : decode cX7_measureEdges 89 = .ok (.aload_n 0, 1) := by decide +kernel
theorem dX7_measureEdges_90 : decode cX7_measureEdges 90 = .ok (.dup, 1) := by decide +kernel
theorem dX7_measureEdges_91 : decode cX7_measureEdges 91 = .ok (.getfield 69, 3) := by decide +kernel
theorem dX7_measureEdges_94 : decode cX7_measureEdges 94 = .ok (.iconst 1, 1) := by decide +kernel
theorem dX7_measureEdges_95 : decode cX7_measureEdges 95 = .ok (.iadd, 1) := by decide +kernel
theorem dX7_measureEdges_96 : decode cX7_measureEdges 96 = .ok (.putfield 69, 3) := by decide +kernel
theorem dX7_measureEdges_99 : decode cX7_measureEdges 99 = .ok (.iconst 0, 1) := by decide +kernel
theorem dX7_measureEdges_100 : decode cX7_measureEdges 100 = .ok (.istore 6, 2) := by decide +kernel
theorem dX7_measureEdges_102 : decode cX7_measureEdges 102 = .ok (.iload 6, 2) := by decide +kernel
theorem dX7_measureEdges_104 : decode cX7_measureEdges 104 = .ok (.iconst 4, 1) := by decide +kernel
theorem dX7_measureEdges_105 : decode cX7_measureEdges 105 = .ok (.if_icmp .ge 46, 3) := by decide +kernel
theorem dX7_measureEdges_108 : decode cX7_measureEdges 108 = .ok (.iload 6, 2) := by decide +kernel
theorem dX7_measureEdges_110 : decode cX7_measureEdges 110 = .ok (.iload_n 3, 1) := by decide +kernel
theorem dX7_measureEdges_111 : decode cX7_measureEdges 111 = .ok (.if_icmp .eq 34, 3) := by decide +kernel
theorem dX7_measureEdges_114 : decode cX7_measureEdges 114 = .ok (.iload 6, 2) := by decide +kernel
theorem dX7_measureEdges_116 : decode cX7_measureEdges 116 = .ok (.iload 4, 2) := by decide +kernel
theorem dX7_measureEdges_118 : decode cX7_measureEdges 118 = .ok (.if_icmp .eq 27, 3) := by decide +kernel
theorem dX7_measureEdges_121 : decode cX7_measureEdges 121 = .ok (.aload_n 1, 1) := by decide +kernel
theorem dX7_measureEdges_122 : decode cX7_measureEdges 122 = .ok (.getfield 75, 3) := by decide +kernel
theorem dX7_measureEdges_125 : decode cX7_measureEdges 125 = .ok (.iconst 4, 1) := by decide +kernel
theorem dX7_measureEdges_126 : decode cX7_measureEdges 126 = .ok (.iload_n 2, 1) := by decide +kernel
theorem dX7_measureEdges_127 : decode cX7_measureEdges 127 = .ok (.iconst 4, 1) := by decide +kernel
theorem dX7_measureEdges_128 : decode cX7_measureEdges 128 = .ok (.ishr, 1) := by decide +kernel
theorem dX7_measureEdges_129 : decode cX7_measureEdges 129 = .ok (.imul, 1) := by decide +kernel
theorem dX7_measureEdges_130 : decode cX7_measureEdges 130 = .ok (.iload 6, 2) := by decide +kernel
theorem dX7_measureEdges_132 : decode cX7_measureEdges 132 = .ok (.iadd, 1) := by decide +kernel
theorem dX7_measureEdges_133 : decode cX7_measureEdges 133 = .ok (.iaload, 1) := by decide +kernel
theorem dX7_measureEdges_134 : decode cX7_measureEdges 134 = .ok (.ifCond .ge 11, 3) := by decide +kernel
theorem dX7_measureEdges_137 : decode cX7_measureEdges 137 = .ok (.aload_n 0, 1) := by decide +kernel
theorem dX7_measureEdges_138 : decode cX7_measureEdges 138 = .ok (.getfield 21, 3) := by decide +kernel
theorem dX7_measureEdges_141 : decode cX7_measureEdges 141 = .ok (.iload 5, 2) := by decide +kernel
theorem dX7_measureEdges_143 : decode cX7_measureEdges 143 = .ok (.iconst 1, 1) := by decide +kernel
theorem dX7_measureEdges_144 : decode cX7_measureEdges 144 = .ok (.bastore, 1) := by decide +kernel
theorem dX7_measureEdges_145 : decode cX7_measureEdges 145 = .ok (.iinc 6 1, 3) := by decide +kernel
theorem dX7_measureEdges_148 : decode cX7_measureEdges 148 = .ok (.goto (-46), 3) := by decide +kernel
theorem dX7_measureEdges_151 : decode cX7_measureEdges 151 = .ok (.iinc 2 1, 3) := by decide +kernel
theorem dX7_measureEdges_154 : decode cX7_measureEdges 154 = .ok (.goto (-152), 3) := by decide +kernel
theorem dX7_measureEdges_157 : decode cX7_measureEdges 157 = .ok (.return_, 1) := by decide +kernel
theorem dX7_measurePoints_0 : decode cX7_measurePoints 0 = .ok (.iconst 0, 1) := by decide +kernel
theorem dX7_measurePoints_1 : decode cX7_measurePoints 1 = .ok (.istore_n 2, 1) := by decide +kernel
theorem dX7_measurePoints_2 : decode cX7_measurePoints 2 = .ok (.iload_n 2, 1) := by decide +kernel
theorem dX7_measurePoints_3 : decode cX7_measurePoints 3 = .ok (.iconst 4, 1) := by decide +kernel
theorem dX7_measurePoints_4 : decode cX7_measurePoints 4 = .ok (.aload_n 1, 1) := by decide +kernel
theorem dX7_measurePoints_5 : decode cX7_measurePoints 5 = .ok (.getfield 43, 3) := by decide +kernel
theorem dX7_measurePoints_8 : decode cX7_measurePoints 8 = .ok (.imul, 1) := by decide +kernel
theorem dX7_measurePoints_9 : decode cX7_measurePoints 9 = .ok (.if_icmp .ge 119, 3) := by decide +kernel
theorem dX7_measurePoints_12 : decode cX7_measurePoints 12 = .ok (.aload_n 0, 1) := by decide +kernel
theorem dX7_measurePoints_13 : decode cX7_measurePoints 13 = .ok (.getfield 25, 3) := by decide +kernel
theorem dX7_measurePoints_16 : decode cX7_measurePoints 16 = .ok (.iload_n 2, 1) := by decide +kernel
theorem dX7_measurePoints_17 : decode cX7_measurePoints 17 = .ok (.iaload, 1) := by decide +kernel
theorem dX7_measurePoints_18 : decode cX7_measurePoints 18 = .ok (.istore_n 3, 1) := by decide +kernel
theorem dX7_measurePoints_19 : decode cX7_measurePoints 19 = .ok (.aload_n 0, 1) := by decide +kernel
theorem dX7_measurePoints_20 : decode cX7_measurePoints 20 = .ok (.getfield 28, 3) := by decide +kernel
theorem dX7_measurePoints_23 : decode cX7_measurePoints 23 = .ok (.iload_n 3, 1) := by decide +kernel
theorem dX7_measurePoints_24 : decode cX7_measurePoints 24 = .ok (.dup2, 1) := by decide +kernel
theorem dX7_measurePoints_25 : decode cX7_measurePoints 25 = .ok (.iaload, 1) := by decide +kernel
theorem dX7_measurePoints_26 : decode cX7_measurePoints 26 = .ok (.iconst 1, 1) := by decide +kernel
theorem dX7_measurePoints_27 : decode cX7_measurePoints 27 = .ok (.iadd, 1) := by decide +kernel
theorem dX7_measurePoints_28 : decode cX7_measurePoints 28 = .ok (.iastore, 1) := by decide +kernel
theorem dX7_measurePoints_29 : decode cX7_measurePoints 29 = .ok (.iload_n 3, 1) := by decide +kernel
theorem dX7_measurePoints_30 : decode cX7_measurePoints 30 = .ok (.iload_n 2, 1) := by decide +kernel
theorem dX7_measurePoints_31 : decode cX7_measurePoints 31 = .ok (.if_icmp .ne 13, 3) := by decide +kernel
theorem dX7_measurePoints_34 : decode cX7_measurePoints 34 = .ok (.aload_n 0, 1) := by decide +kernel
theorem dX7_measurePoints_35 : decode cX7_measurePoints 35 = .ok (.dup, 1) := by decide +kernel
theorem dX7_measurePoints_36 : decode cX7_measurePoints 36 = .ok (.getfield 72, 3) := by decide +kernel
theorem dX7_measurePoints_39 : decode cX7_measurePoints 39 = .ok (.iconst 1, 1) := by decide +kernel
theorem dX7_measurePoints_40 : decode cX7_measurePoints 40 = .ok (.iadd, 1) := by decide +kernel
theorem dX7_measurePoints_41 : decode cX7_measurePoints 41 = .ok (.putfield 72, 3) := by decide +kernel
theorem dX7_measurePoints_44 : decode cX7_measurePoints 44 = .ok (.iconst 0, 1) := by decide +kernel
theorem dX7_measurePoints_45 : decode cX7_measurePoints 45 = .ok (.istore 4, 2) := by decide +kernel
theorem dX7_measurePoints_47 : decode cX7_measurePoints 47 = .ok (.iload 4, 2) := by decide +kernel
theorem dX7_measurePoints_49 : decode cX7_measurePoints 49 = .ok (.iconst 4, 1) := by decide +kernel
theorem dX7_measurePoints_50 : decode cX7_measurePoints 50 = .ok (.if_icmp .ge 72, 3) := by decide +kernel
theorem dX7_measurePoints_53 : decode cX7_measurePoints 53 = .ok (.iload 4, 2) := by decide +kernel
theorem dX7_measurePoints_55 : decode cX7_measurePoints 55 = .ok (.iload_n 2, 1) := by decide +kernel
theorem dX7_measurePoints_56 : decode cX7_measurePoints 56 = .ok (.iconst 3, 1) := by decide +kernel
theorem dX7_measurePoints_57 : decode cX7_measurePoints 57 = .ok (.iand, 1) := by decide +kernel
theorem dX7_measurePoints_58 : decode cX7_measurePoints 58 = .ok (.if_icmp .eq 28, 3) := by decide +kernel
theorem dX7_measurePoints_61 : decode cX7_measurePoints 61 = .ok (.aload_n 1, 1) := by decide +kernel
theorem dX7_measurePoints_62 : decode cX7_measurePoints 62 = .ok (.getfield 75, 3) := by decide +kernel
theorem dX7_measurePoints_65 : decode cX7_measurePoints 65 = .ok (.iload_n 2, 1) := by decide +kernel
theorem dX7_measurePoints_66 : decode cX7_measurePoints 66 = .ok (.bipush 28, 2) := by decide +kernel
theorem dX7_measurePoints_68 : decode cX7_measurePoints 68 = .ok (.iand, 1) := by decide +kernel
theorem dX7_measurePoints_69 : decode cX7_measurePoints 69 = .ok (.iload 4, 2) := by decide +kernel
theorem dX7_measurePoints_71 : decode cX7_measurePoints 71 = .ok (.iadd, 1) := by decide +kernel
theorem dX7_measurePoints_72 : decode cX7_measurePoints 72 = .ok (.iaload, 1) := by decide +kernel
theorem dX7_measurePoints_73 : decode cX7_measurePoints 73 = .ok (.ifCond .ge 13, 3) := by decide +kernel
theorem dX7_measurePoints_76 : decode cX7_measurePoints 76 = .ok (.aload_n 0, 1) := by decide +kernel
theorem dX7_measurePoints_77 : decode cX7_measurePoints 77 = .ok (.getfield 34, 3) := by decide +kernel
theorem dX7_measurePoints_80 : decode cX7_measurePoints 80 = .ok (.iload_n 3, 1) := by decide +kernel
theorem dX7_measurePoints_81 : decode cX7_measurePoints 81 = .ok (.dup2, 1) := by decide +kernel
theorem dX7_measurePoints_82 : decode cX7_measurePoints 82 = .ok (.iaload, 1) := by decide +kernel
theorem dX7_measurePoints_83 : decode cX7_measurePoints 83 = .ok (.iconst 1, 1) := by decide +kernel
theorem dX7_measurePoints_84 : decode cX7_measurePoints 84 = .ok (.iadd, 1) := by decide +kernel
theorem dX7_measurePoints_85 : decode cX7_measurePoints 85 = .ok (.iastore, 1) := by decide +kernel
theorem dX7_measurePoints_86 : decode cX7_measurePoints 86 = .ok (.aload_n 0, 1) := by decide +kernel
theorem dX7_measurePoints_87 : decode cX7_measurePoints 87 = .ok (.getfield 11, 3) := by decide +kernel
theorem dX7_measurePoints_90 : decode cX7_measurePoints 90 = .ok (.iconst 4, 1) := by decide +kernel
theorem dX7_measurePoints_91 : decode cX7_measurePoints 91 = .ok (.iload_n 2, 1) := by decide +kernel
theorem dX7_measurePoints_92 : decode cX7_measurePoints 92 = .ok (.imul, 1) := by decide +kernel
theorem dX7_measurePoints_93 : decode cX7_measurePoints 93 = .ok (.iload 4, 2) := by decide +kernel
theorem dX7_measurePoints_95 : decode cX7_measurePoints 95 = .ok (.iadd, 1) := by decide +kernel
theorem dX7_measurePoints_96 : decode cX7_measurePoints 96 = .ok (.iaload, 1) := by decide +kernel
theorem dX7_measurePoints_97 : decode cX7_measurePoints 97 = .ok (.iconst 4, 1) := by decide +kernel
theorem dX7_measurePoints_98 : decode cX7_measurePoints 98 = .ok (.iload_n 2, 1) := by decide +kernel
theorem dX7_measurePoints_99 : decode cX7_measurePoints 99 = .ok (.imul, 1) := by decide +kernel
theorem dX7_measurePoints_100 : decode cX7_measurePoints 100 = .ok (.iload 4, 2) := by decide +kernel
theorem dX7_measurePoints_102 : decode cX7_measurePoints 102 = .ok (.iadd, 1) := by decide +kernel
theorem dX7_measurePoints_103 : decode cX7_measurePoints 103 = .ok (.if_icmp .ne 13, 3) := by decide +kernel
theorem dX7_measurePoints_106 : decode cX7_measurePoints 106 = .ok (.aload_n 0, 1) := by decide +kernel
theorem dX7_measurePoints_107 : decode cX7_measurePoints 107 = .ok (.getfield 31, 3) := by decide +kernel
theorem dX7_measurePoints_110 : decode cX7_measurePoints 110 = .ok (.iload_n 3, 1) := by decide +kernel
theorem dX7_measurePoints_111 : decode cX7_measurePoints 111 = .ok (.dup2, 1) := by decide +kernel
theorem dX7_measurePoints_112 : decode cX7_measurePoints 112 = .ok (.iaload, 1) := by decide +kernel
theorem dX7_measurePoints_113 : decode cX7_measurePoints 113 = .ok (.iconst 1, 1) := by decide +kernel
theorem dX7_measurePoints_114 : decode cX7_measurePoints 114 = .ok (.iadd, 1) := by decide +kernel
theorem dX7_measurePoints_115 : decode cX7_measurePoints 115 = .ok (.iastore, 1) := by decide +kernel
theorem dX7_measurePoints_116 : decode cX7_measurePoints 116 = .ok (.iinc 4 1, 3) := by decide +kernel
theorem dX7_measurePoints_119 : decode cX7_measurePoints 119 = .ok (.goto (-72), 3) := by decide +kernel
theorem dX7_measurePoints_122 : decode cX7_measurePoints 122 = .ok (.iinc 2 1, 3) := by decide +kernel
theorem dX7_measurePoints_125 : decode cX7_measurePoints 125 = .ok (.goto (-123), 3) := by decide +kernel
theorem dX7_measurePoints_128 : decode cX7_measurePoints 128 = .ok (.return_, 1) := by decide +kernel
theorem dX7_turned_0 : decode cX7_turned 0 = .ok (.iload_n 0, 1) := by decide +kernel
theorem dX7_turned_1 : decode cX7_turned 1 = .ok (.bipush 112, 2) := by decide +kernel
theorem dX7_turned_3 : decode cX7_turned 3 = .ok (.iand, 1) := by decide +kernel
theorem dX7_turned_4 : decode cX7_turned 4 = .ok (.iload_n 0, 1) := by decide +kernel
theorem dX7_turned_5 : decode cX7_turned 5 = .ok (.iconst 3, 1) := by decide +kernel
theorem dX7_turned_6 : decode cX7_turned 6 = .ok (.iand, 1) := by decide +kernel
theorem dX7_turned_7 : decode cX7_turned 7 = .ok (.iconst 2, 1) := by decide +kernel
theorem dX7_turned_8 : decode cX7_turned 8 = .ok (.ishl, 1) := by decide +kernel
theorem dX7_turned_9 : decode cX7_turned 9 = .ok (.ior, 1) := by decide +kernel
theorem dX7_turned_10 : decode cX7_turned 10 = .ok (.iload_n 0, 1) := by decide +kernel
theorem dX7_turned_11 : decode cX7_turned 11 = .ok (.iconst 2, 1) := by decide +kernel
theorem dX7_turned_12 : decode cX7_turned 12 = .ok (.ishr, 1) := by decide +kernel
theorem dX7_turned_13 : decode cX7_turned 13 = .ok (.iconst 3, 1) := by decide +kernel
theorem dX7_turned_14 : decode cX7_turned 14 = .ok (.iand, 1) := by decide +kernel
theorem dX7_turned_15 : decode cX7_turned 15 = .ok (.ior, 1) := by decide +kernel
theorem dX7_turned_16 : decode cX7_turned 16 = .ok (.ireturn, 1) := by decide +kernel
theorem dX7_isReversed_0 : decode cX7_isReversed 0 = .ok (.aload_n 0, 1) := by decide +kernel
theorem dX7_isReversed_1 : decode cX7_isReversed 1 = .ok (.getfield 11, 3) := by decide +kernel
theorem dX7_isReversed_4 : decode cX7_isReversed 4 = .ok (.iload_n 1, 1) := by decide +kernel
theorem dX7_isReversed_5 : decode cX7_isReversed 5 = .ok (.iaload, 1) := by decide +kernel
theorem dX7_isReversed_6 : decode cX7_isReversed 6 = .ok (.aload_n 0, 1) := by decide +kernel
theorem dX7_isReversed_7 : decode cX7_isReversed 7 = .ok (.getfield 11, 3) := by decide +kernel
theorem dX7_isReversed_10 : decode cX7_isReversed 10 = .ok (.iload_n 1, 1) := by decide +kernel
theorem dX7_isReversed_11 : decode cX7_isReversed 11 = .ok (.invokestatic 81, 3) := by decide +kernel
theorem dX7_isReversed_14 : decode cX7_isReversed 14 = .ok (.iaload, 1) := by decide +kernel
theorem dX7_isReversed_15 : decode cX7_isReversed 15 = .ok (.if_icmp .ne 7, 3) := by decide +kernel
theorem dX7_isReversed_18 : decode cX7_isReversed 18 = .ok (.iconst 1, 1) := by decide +kernel
theorem dX7_isReversed_19 : decode cX7_isReversed 19 = .ok (.goto 4, 3) := by decide +kernel
theorem dX7_isReversed_22 : decode cX7_isReversed 22 = .ok (.iconst 0, 1) := by decide +kernel
theorem dX7_isReversed_23 : decode cX7_isReversed 23 = .ok (.ireturn, 1) := by decide +kernel
theorem dX7_chi_0 : decode cX7_chi 0 = .ok (.iconst 3, 1) := by decide +kernel
theorem dX7_chi_1 : decode cX7_chi 1 = .ok (.aload_n 0, 1) := by decide +kernel
theorem dX7_chi_2 : decode cX7_chi 2 = .ok (.getfield 28, 3) := by decide +kernel
theorem dX7_chi_5 : decode cX7_chi 5 = .ok (.iload_n 1, 1) := by decide +kernel
theorem dX7_chi_6 : decode cX7_chi 6 = .ok (.iaload, 1) := by decide +kernel
theorem dX7_chi_7 : decode cX7_chi 7 = .ok (.imul, 1) := by decide +kernel
theorem dX7_chi_8 : decode cX7_chi 8 = .ok (.aload_n 0, 1) := by decide +kernel
theorem dX7_chi_9 : decode cX7_chi 9 = .ok (.getfield 34, 3) := by decide +kernel
theorem dX7_chi_12 : decode cX7_chi 12 = .ok (.iload_n 1, 1) := by decide +kernel
theorem dX7_chi_13 : decode cX7_chi 13 = .ok (.iaload, 1) := by decide +kernel
theorem dX7_chi_14 : decode cX7_chi 14 = .ok (.iadd, 1) := by decide +kernel
theorem dX7_chi_15 : decode cX7_chi 15 = .ok (.iconst 2, 1) := by decide +kernel
theorem dX7_chi_16 : decode cX7_chi 16 = .ok (.idiv, 1) := by decide +kernel
theorem dX7_chi_17 : decode cX7_chi 17 = .ok (.istore_n 2, 1) := by decide +kernel
theorem dX7_chi_18 : decode cX7_chi 18 = .ok (.aload_n 0, 1) := by decide +kernel
theorem dX7_chi_19 : decode cX7_chi 19 = .ok (.getfield 31, 3) := by decide +kernel
theorem dX7_chi_22 : decode cX7_chi 22 = .ok (.iload_n 1, 1) := by decide +kernel
theorem dX7_chi_23 : decode cX7_chi 23 = .ok (.iaload, 1) := by decide +kernel
theorem dX7_chi_24 : decode cX7_chi 24 = .ok (.iload_n 2, 1) := by decide +kernel
theorem dX7_chi_25 : decode cX7_chi 25 = .ok (.isub, 1) := by decide +kernel
theorem dX7_chi_26 : decode cX7_chi 26 = .ok (.aload_n 0, 1) := by decide +kernel
theorem dX7_chi_27 : decode cX7_chi 27 = .ok (.getfield 28, 3) := by decide +kernel
theorem dX7_chi_30 : decode cX7_chi 30 = .ok (.iload_n 1, 1) := by decide +kernel
theorem dX7_chi_31 : decode cX7_chi 31 = .ok (.iaload, 1) := by decide +kernel
theorem dX7_chi_32 : decode cX7_chi 32 = .ok (.iadd, 1) := by decide +kernel
theorem dX7_chi_33 : decode cX7_chi 33 = .ok (.ireturn, 1) := by decide +kernel
theorem dX7_isRound_0 : decode cX7_isRound 0 = .ok (.aload_n 0, 1) := by decide +kernel
theorem dX7_isRound_1 : decode cX7_isRound 1 = .ok (.getfield 34, 3) := by decide +kernel
theorem dX7_isRound_4 : decode cX7_isRound 4 = .ok (.iload_n 1, 1) := by decide +kernel
theorem dX7_isRound_5 : decode cX7_isRound 5 = .ok (.iaload, 1) := by decide +kernel
theorem dX7_isRound_6 : decode cX7_isRound 6 = .ok (.ifCond .ne 16, 3) := by decide +kernel
theorem dX7_isRound_9 : decode cX7_isRound 9 = .ok (.aload_n 0, 1) := by decide +kernel
theorem dX7_isRound_10 : decode cX7_isRound 10 = .ok (.iload_n 1, 1) := by decide +kernel
theorem dX7_isRound_11 : decode cX7_isRound 11 = .ok (.invokevirtual 91, 3) := by decide +kernel
theorem dX7_isRound_14 : decode cX7_isRound 14 = .ok (.iconst 2, 1) := by decide +kernel
theorem dX7_isRound_15 : decode cX7_isRound 15 = .ok (.if_icmp .ne 7, 3) := by decide +kernel
theorem dX7_isRound_18 : decode cX7_isRound 18 = .ok (.iconst 1, 1) := by decide +kernel
theorem dX7_isRound_19 : decode cX7_isRound 19 = .ok (.goto 4, 3) := by decide +kernel
theorem dX7_isRound_22 : decode cX7_isRound 22 = .ok (.iconst 0, 1) := by decide +kernel
theorem dX7_isRound_23 : decode cX7_isRound 23 = .ok (.ireturn, 1) := by decide +kernel
theorem dX7_leastDegree_0 : decode cX7_leastDegree 0 = .ok (.ldc 94, 2) := by decide +kernel
theorem dX7_leastDegree_2 : decode cX7_leastDegree 2 = .ok (.istore_n 1, 1) := by decide +kernel
theorem dX7_leastDegree_3 : decode cX7_leastDegree 3 = .ok (.iconst 0, 1) := by decide +kernel
theorem dX7_leastDegree_4 : decode cX7_leastDegree 4 = .ok (.istore_n 2, 1) := by decide +kernel
theorem dX7_leastDegree_5 : decode cX7_leastDegree 5 = .ok (.iload_n 2, 1) := by decide +kernel
theorem dX7_leastDegree_6 : decode cX7_leastDegree 6 = .ok (.sipush 128, 3) := by decide +kernel
theorem dX7_leastDegree_9 : decode cX7_leastDegree 9 = .ok (.if_icmp .ge 29, 3) := by decide +kernel
theorem dX7_leastDegree_12 : decode cX7_leastDegree 12 = .ok (.aload_n 0, 1) := by decide +kernel
theorem dX7_leastDegree_13 : decode cX7_leastDegree 13 = .ok (.getfield 18, 3) := by decide +kernel
theorem dX7_leastDegree_16 : decode cX7_leastDegree 16 = .ok (.iload_n 2, 1) := by decide +kernel
theorem dX7_leastDegree_17 : decode cX7_leastDegree 17 = .ok (.iaload, 1) := by decide +kernel
theorem dX7_leastDegree_18 : decode cX7_leastDegree 18 = .ok (.ifCond .le 14, 3) := by decide +kernel
theorem dX7_leastDegree_21 : decode cX7_leastDegree 21 = .ok (.iload_n 1, 1) := by decide +kernel
theorem dX7_leastDegree_22 : decode cX7_leastDegree 22 = .ok (.aload_n 0, 1) := by decide +kernel
theorem dX7_leastDegree_23 : decode cX7_leastDegree 23 = .ok (.getfield 18, 3) := by decide +kernel
theorem dX7_leastDegree_26 : decode cX7_leastDegree 26 = .ok (.iload_n 2, 1) := by decide +kernel
theorem dX7_leastDegree_27 : decode cX7_leastDegree 27 = .ok (.iaload, 1) := by decide +kernel
theorem dX7_leastDegree_28 : decode cX7_leastDegree 28 = .ok (.invokestatic 85, 3) := by decide +kernel
theorem dX7_leastDegree_31 : decode cX7_leastDegree 31 = .ok (.istore_n 1, 1) := by decide +kernel
theorem dX7_leastDegree_32 : decode cX7_leastDegree 32 = .ok (.iinc 2 1, 3) := by decide +kernel
theorem dX7_leastDegree_35 : decode cX7_leastDegree 35 = .ok (.goto (-30), 3) := by decide +kernel
theorem dX7_leastDegree_38 : decode cX7_leastDegree 38 = .ok (.iload_n 1, 1) := by decide +kernel
theorem dX7_leastDegree_39 : decode cX7_leastDegree 39 = .ok (.ireturn, 1) := by decide +kernel
theorem dX7_greatestDegree_0 : decode cX7_greatestDegree 0 = .ok (.iconst 0, 1) := by decide +kernel
theorem dX7_greatestDegree_1 : decode cX7_greatestDegree 1 = .ok (.istore_n 1, 1) := by decide +kernel
theorem dX7_greatestDegree_2 : decode cX7_greatestDegree 2 = .ok (.iconst 0, 1) := by decide +kernel
theorem dX7_greatestDegree_3 : decode cX7_greatestDegree 3 = .ok (.istore_n 2, 1) := by decide +kernel
theorem dX7_greatestDegree_4 : decode cX7_greatestDegree 4 = .ok (.iload_n 2, 1) := by decide +kernel
theorem dX7_greatestDegree_5 : decode cX7_greatestDegree 5 = .ok (.sipush 128, 3) := by decide +kernel
theorem dX7_greatestDegree_8 : decode cX7_greatestDegree 8 = .ok (.if_icmp .ge 20, 3) := by decide +kernel
theorem dX7_greatestDegree_11 : decode cX7_greatestDegree 11 = .ok (.iload_n 1, 1) := by decide +kernel
theorem dX7_greatestDegree_12 : decode cX7_greatestDegree 12 = .ok (.aload_n 0, 1) := by decide +kernel
theorem dX7_greatestDegree_13 : decode cX7_greatestDegree 13 = .ok (.getfield 18, 3) := by decide +kernel
theorem dX7_greatestDegree_16 : decode cX7_greatestDegree 16 = .ok (.iload_n 2, 1) := by decide +kernel
theorem dX7_greatestDegree_17 : decode cX7_greatestDegree 17 = .ok (.iaload, 1) := by decide +kernel
theorem dX7_greatestDegree_18 : decode cX7_greatestDegree 18 = .ok (.invokestatic 95, 3) := by decide +kernel
theorem dX7_greatestDegree_21 : decode cX7_greatestDegree 21 = .ok (.istore_n 1, 1) := by decide +kernel
theorem dX7_greatestDegree_22 : decode cX7_greatestDegree 22 = .ok (.iinc 2 1, 3) := by decide +kernel
theorem dX7_greatestDegree_25 : decode cX7_greatestDegree 25 = .ok (.goto (-21), 3) := by decide +kernel
theorem dX7_greatestDegree_28 : decode cX7_greatestDegree 28 = .ok (.iload_n 1, 1) := by decide +kernel
theorem dX7_greatestDegree_29 : decode cX7_greatestDegree 29 = .ok (.ireturn, 1) := by decide +kernel
theorem dX7_edgesOfDegree_0 : decode cX7_edgesOfDegree 0 = .ok (.iconst 0, 1) := by decide +kernel
theorem dX7_edgesOfDegree_1 : decode cX7_edgesOfDegree 1 = .ok (.istore_n 2, 1) := by decide +kernel
theorem dX7_edgesOfDegree_2 : decode cX7_edgesOfDegree 2 = .ok (.iconst 0, 1) := by decide +kernel
theorem dX7_edgesOfDegree_3 : decode cX7_edgesOfDegree 3 = .ok (.istore_n 3, 1) := by decide +kernel
theorem dX7_edgesOfDegree_4 : decode cX7_edgesOfDegree 4 = .ok (.iload_n 3, 1) := by decide +kernel
theorem dX7_edgesOfDegree_5 : decode cX7_edgesOfDegree 5 = .ok (.sipush 128, 3) := by decide +kernel
theorem dX7_edgesOfDegree_8 : decode cX7_edgesOfDegree 8 = .ok (.if_icmp .ge 22, 3) := by decide +kernel
theorem dX7_edgesOfDegree_11 : decode cX7_edgesOfDegree 11 = .ok (.aload_n 0, 1) := by decide +kernel
theorem dX7_edgesOfDegree_12 : decode cX7_edgesOfDegree 12 = .ok (.getfield 18, 3) := by decide +kernel
theorem dX7_edgesOfDegree_15 : decode cX7_edgesOfDegree 15 = .ok (.iload_n 3, 1) := by decide +kernel
theorem dX7_edgesOfDegree_16 : decode cX7_edgesOfDegree 16 = .ok (.iaload, 1) := by decide +kernel
theorem dX7_edgesOfDegree_17 : decode cX7_edgesOfDegree 17 = .ok (.iload_n 1, 1) := by decide +kernel
theorem dX7_edgesOfDegree_18 : decode cX7_edgesOfDegree 18 = .ok (.if_icmp .ne 6, 3) := by decide +kernel
theorem dX7_edgesOfDegree_21 : decode cX7_edgesOfDegree 21 = .ok (.iinc 2 1, 3) := by decide +kernel
theorem dX7_edgesOfDegree_24 : decode cX7_edgesOfDegree 24 = .ok (.iinc 3 1, 3) := by decide +kernel
theorem dX7_edgesOfDegree_27 : decode cX7_edgesOfDegree 27 = .ok (.goto (-23), 3) := by decide +kernel
theorem dX7_edgesOfDegree_30 : decode cX7_edgesOfDegree 30 = .ok (.iload_n 2, 1) := by decide +kernel
theorem dX7_edgesOfDegree_31 : decode cX7_edgesOfDegree 31 = .ok (.ireturn, 1) := by decide +kernel
theorem dX7_reversedEdges_0 : decode cX7_reversedEdges 0 = .ok (.iconst 0, 1) := by decide +kernel
theorem dX7_reversedEdges_1 : decode cX7_reversedEdges 1 = .ok (.istore_n 1, 1) := by decide +kernel
theorem dX7_reversedEdges_2 : decode cX7_reversedEdges 2 = .ok (.iconst 0, 1) := by decide +kernel
theorem dX7_reversedEdges_3 : decode cX7_reversedEdges 3 = .ok (.istore_n 2, 1) := by decide +kernel
theorem dX7_reversedEdges_4 : decode cX7_reversedEdges 4 = .ok (.iload_n 2, 1) := by decide +kernel
theorem dX7_reversedEdges_5 : decode cX7_reversedEdges 5 = .ok (.sipush 128, 3) := by decide +kernel
theorem dX7_reversedEdges_8 : decode cX7_reversedEdges 8 = .ok (.if_icmp .ge 29, 3) := by decide +kernel
theorem dX7_reversedEdges_11 : decode cX7_reversedEdges 11 = .ok (.aload_n 0, 1) := by decide +kernel
theorem dX7_reversedEdges_12 : decode cX7_reversedEdges 12 = .ok (.getfield 18, 3) := by decide +kernel
theorem dX7_reversedEdges_15 : decode cX7_reversedEdges 15 = .ok (.iload_n 2, 1) := by decide +kernel
theorem dX7_reversedEdges_16 : decode cX7_reversedEdges 16 = .ok (.iaload, 1) := by decide +kernel
theorem dX7_reversedEdges_17 : decode cX7_reversedEdges 17 = .ok (.ifCond .le 14, 3) := by decide +kernel
theorem dX7_reversedEdges_20 : decode cX7_reversedEdges 20 = .ok (.aload_n 0, 1) := by decide +kernel
theorem dX7_reversedEdges_21 : decode cX7_reversedEdges 21 = .ok (.iload_n 2, 1) := by decide +kernel
theorem dX7_reversedEdges_22 : decode cX7_reversedEdges 22 = .ok (.invokevirtual 98, 3) := by decide +kernel
theorem dX7_reversedEdges_25 : decode cX7_reversedEdges 25 = .ok (.ifCond .eq 6, 3) := by decide +kernel
theorem dX7_reversedEdges_28 : decode cX7_reversedEdges 28 = .ok (.iinc 1 1, 3) := by decide +kernel
theorem dX7_reversedEdges_31 : decode cX7_reversedEdges 31 = .ok (.iinc 2 1, 3) := by decide +kernel
theorem dX7_reversedEdges_34 : decode cX7_reversedEdges 34 = .ok (.goto (-30), 3) := by decide +kernel
theorem dX7_reversedEdges_37 : decode cX7_reversedEdges 37 = .ok (.iload_n 1, 1) := by decide +kernel
theorem dX7_reversedEdges_38 : decode cX7_reversedEdges 38 = .ok (.ireturn, 1) := by decide +kernel
theorem dX7_roundPoints_0 : decode cX7_roundPoints 0 = .ok (.iconst 0, 1) := by decide +kernel
theorem dX7_roundPoints_1 : decode cX7_roundPoints 1 = .ok (.istore_n 1, 1) := by decide +kernel
theorem dX7_roundPoints_2 : decode cX7_roundPoints 2 = .ok (.iconst 0, 1) := by decide +kernel
theorem dX7_roundPoints_3 : decode cX7_roundPoints 3 = .ok (.istore_n 2, 1) := by decide +kernel
theorem dX7_roundPoints_4 : decode cX7_roundPoints 4 = .ok (.iload_n 2, 1) := by decide +kernel
theorem dX7_roundPoints_5 : decode cX7_roundPoints 5 = .ok (.bipush 32, 2) := by decide +kernel
theorem dX7_roundPoints_7 : decode cX7_roundPoints 7 = .ok (.if_icmp .ge 29, 3) := by decide +kernel
theorem dX7_roundPoints_10 : decode cX7_roundPoints 10 = .ok (.aload_n 0, 1) := by decide +kernel
theorem dX7_roundPoints_11 : decode cX7_roundPoints 11 = .ok (.getfield 28, 3) := by decide +kernel
theorem dX7_roundPoints_14 : decode cX7_roundPoints 14 = .ok (.iload_n 2, 1) := by decide +kernel
theorem dX7_roundPoints_15 : decode cX7_roundPoints 15 = .ok (.iaload, 1) := by decide +kernel
theorem dX7_roundPoints_16 : decode cX7_roundPoints 16 = .ok (.ifCond .le 14, 3) := by decide +kernel
theorem dX7_roundPoints_19 : decode cX7_roundPoints 19 = .ok (.aload_n 0, 1) := by decide +kernel
theorem dX7_roundPoints_20 : decode cX7_roundPoints 20 = .ok (.iload_n 2, 1) := by decide +kernel
theorem dX7_roundPoints_21 : decode cX7_roundPoints 21 = .ok (.invokevirtual 102, 3) := by decide +kernel
theorem dX7_roundPoints_24 : decode cX7_roundPoints 24 = .ok (.ifCond .eq 6, 3) := by decide +kernel
theorem dX7_roundPoints_27 : decode cX7_roundPoints 27 = .ok (.iinc 1 1, 3) := by decide +kernel
theorem dX7_roundPoints_30 : decode cX7_roundPoints 30 = .ok (.iinc 2 1, 3) := by decide +kernel
theorem dX7_roundPoints_33 : decode cX7_roundPoints 33 = .ok (.goto (-29), 3) := by decide +kernel
theorem dX7_roundPoints_36 : decode cX7_roundPoints 36 = .ok (.iload_n 1, 1) := by decide +kernel
theorem dX7_roundPoints_37 : decode cX7_roundPoints 37 = .ok (.ireturn, 1) := by decide +kernel
theorem dX7_leastChi_0 : decode cX7_leastChi 0 = .ok (.ldc 94, 2) := by decide +kernel
theorem dX7_leastChi_2 : decode cX7_leastChi 2 = .ok (.istore_n 1, 1) := by decide +kernel
theorem dX7_leastChi_3 : decode cX7_leastChi 3 = .ok (.iconst 0, 1) := by decide +kernel
theorem dX7_leastChi_4 : decode cX7_leastChi 4 = .ok (.istore_n 2, 1) := by decide +kernel
theorem dX7_leastChi_5 : decode cX7_leastChi 5 = .ok (.iload_n 2, 1) := by decide +kernel
theorem dX7_leastChi_6 : decode cX7_leastChi 6 = .ok (.bipush 32, 2) := by decide +kernel
theorem dX7_leastChi_8 : decode cX7_leastChi 8 = .ok (.if_icmp .ge 28, 3) := by decide +kernel
theorem dX7_leastChi_11 : decode cX7_leastChi 11 = .ok (.aload_n 0, 1) := by decide +kernel
theorem dX7_leastChi_12 : decode cX7_leastChi 12 = .ok (.getfield 28, 3) := by decide +kernel
theorem dX7_leastChi_15 : decode cX7_leastChi 15 = .ok (.iload_n 2, 1) := by decide +kernel
theorem dX7_leastChi_16 : decode cX7_leastChi 16 = .ok (.iaload, 1) := by decide +kernel
theorem dX7_leastChi_17 : decode cX7_leastChi 17 = .ok (.ifCond .le 13, 3) := by decide +kernel
theorem dX7_leastChi_20 : decode cX7_leastChi 20 = .ok (.iload_n 1, 1) := by decide +kernel
theorem dX7_leastChi_21 : decode cX7_leastChi 21 = .ok (.aload_n 0, 1) := by decide +kernel
theorem dX7_leastChi_22 : decode cX7_leastChi 22 = .ok (.iload_n 2, 1) := by decide +kernel
theorem dX7_leastChi_23 : decode cX7_leastChi 23 = .ok (.invokevirtual 91, 3) := by decide +kernel
theorem dX7_leastChi_26 : decode cX7_leastChi 26 = .ok (.invokestatic 85, 3) := by decide +kernel
theorem dX7_leastChi_29 : decode cX7_leastChi 29 = .ok (.istore_n 1, 1) := by decide +kernel
theorem dX7_leastChi_30 : decode cX7_leastChi 30 = .ok (.iinc 2 1, 3) := by decide +kernel
theorem dX7_leastChi_33 : decode cX7_leastChi 33 = .ok (.goto (-28), 3) := by decide +kernel
theorem dX7_leastChi_36 : decode cX7_leastChi 36 = .ok (.iload_n 1, 1) := by decide +kernel
theorem dX7_leastChi_37 : decode cX7_leastChi 37 = .ok (.ireturn, 1) := by decide +kernel
theorem dX8_init_0 : decode cX8_init 0 = .ok (.aload_n 0, 1) := by decide +kernel
theorem dX8_init_1 : decode cX8_init 1 = .ok (.invokespecial 3, 3) := by decide +kernel
theorem dX8_init_4 : decode cX8_init 4 = .ok (.aload_n 0, 1) := by decide +kernel
theorem dX8_init_5 : decode cX8_init 5 = .ok (.iconst 1, 1) := by decide +kernel
theorem dX8_init_6 : decode cX8_init 6 = .ok (.putfield 9, 3) := by decide +kernel
theorem dX8_init_9 : decode cX8_init 9 = .ok (.aload_n 0, 1) := by decide +kernel
theorem dX8_init_10 : decode cX8_init 10 = .ok (.bipush 32, 2) := by decide +kernel
theorem dX8_init_12 : decode cX8_init 12 = .ok (.newarray .int, 2) := by decide +kernel
theorem dX8_init_14 : decode cX8_init 14 = .ok (.putfield 15, 3) := by decide +kernel
theorem dX8_init_17 : decode cX8_init 17 = .ok (.aload_n 0, 1) := by decide +kernel
theorem dX8_init_18 : decode cX8_init 18 = .ok (.getfield 15, 3) := by decide +kernel
theorem dX8_init_21 : decode cX8_init 21 = .ok (.iconst (-1), 1) := by decide +kernel
theorem dX8_init_22 : decode cX8_init 22 = .ok (.invokestatic 19, 3) := by decide +kernel
theorem dX8_init_25 : decode cX8_init 25 = .ok (.return_, 1) := by decide +kernel
theorem dX8_clear_0 : decode cX8_clear 0 = .ok (.aload_n 0, 1) := by decide +kernel
theorem dX8_clear_1 : decode cX8_clear 1 = .ok (.iload_n 1, 1) := by decide +kernel
theorem dX8_clear_2 : decode cX8_clear 2 = .ok (.putfield 9, 3) := by decide +kernel
theorem dX8_clear_5 : decode cX8_clear 5 = .ok (.aload_n 0, 1) := by decide +kernel
theorem dX8_clear_6 : decode cX8_clear 6 = .ok (.getfield 15, 3) := by decide +kernel
theorem dX8_clear_9 : decode cX8_clear 9 = .ok (.iconst (-1), 1) := by decide +kernel
theorem dX8_clear_10 : decode cX8_clear 10 = .ok (.invokestatic 19, 3) := by decide +kernel
theorem dX8_clear_13 : decode cX8_clear 13 = .ok (.return_, 1) := by decide +kernel
theorem dX8_copy_0 : decode cX8_copy 0 = .ok (.aload_n 0, 1) := by decide +kernel
theorem dX8_copy_1 : decode cX8_copy 1 = .ok (.aload_n 1, 1) := by decide +kernel
theorem dX8_copy_2 : decode cX8_copy 2 = .ok (.getfield 9, 3) := by decide +kernel
theorem dX8_copy_5 : decode cX8_copy 5 = .ok (.putfield 9, 3) := by decide +kernel
theorem dX8_copy_8 : decode cX8_copy 8 = .ok (.aload_n 1, 1) := by decide +kernel
theorem dX8_copy_9 : decode cX8_copy 9 = .ok (.getfield 15, 3) := by decide +kernel
theorem dX8_copy_12 : decode cX8_copy 12 = .ok (.iconst 0, 1) := by decide +kernel
theorem dX8_copy_13 : decode cX8_copy 13 = .ok (.aload_n 0, 1) := by decide +kernel
theorem dX8_copy_14 : decode cX8_copy 14 = .ok (.getfield 15, 3) := by decide +kernel
theorem dX8_copy_17 : decode cX8_copy 17 = .ok (.iconst 0, 1) := by decide +kernel
theorem dX8_copy_18 : decode cX8_copy 18 = .ok (.bipush 32, 2) := by decide +kernel
theorem dX8_copy_20 : decode cX8_copy 20 = .ok (.invokestatic 25, 3) := by decide +kernel
theorem dX8_copy_23 : decode cX8_copy 23 = .ok (.return_, 1) := by decide +kernel
theorem dX8_isLike_0 : decode cX8_isLike 0 = .ok (.aload_n 0, 1) := by decide +kernel
theorem dX8_isLike_1 : decode cX8_isLike 1 = .ok (.getfield 9, 3) := by decide +kernel
theorem dX8_isLike_4 : decode cX8_isLike 4 = .ok (.aload_n 1, 1) := by decide +kernel
theorem dX8_isLike_5 : decode cX8_isLike 5 = .ok (.getfield 9, 3) := by decide +kernel
theorem dX8_isLike_8 : decode cX8_isLike 8 = .ok (.if_icmp .eq 5, 3) := by decide +kernel
theorem dX8_isLike_11 : decode cX8_isLike 11 = .ok (.iconst 0, 1) := by decide +kernel
theorem dX8_isLike_12 : decode cX8_isLike 12 = .ok (.ireturn, 1) := by decide +kernel
theorem dX8_isLike_13 : decode cX8_isLike 13 = .ok (.iconst 0, 1) := by decide +kernel
theorem dX8_isLike_14 : decode cX8_isLike 14 = .ok (.istore_n 2, 1) := by decide +kernel
theorem dX8_isLike_15 : decode cX8_isLike 15 = .ok (.iload_n 2, 1) := by decide +kernel
theorem dX8_isLike_16 : decode cX8_isLike 16 = .ok (.iconst 4, 1) := by decide +kernel
theorem dX8_isLike_17 : decode cX8_isLike 17 = .ok (.aload_n 0, 1) := by decide +kernel
theorem dX8_isLike_18 : decode cX8_isLike 18 = .ok (.getfield 9, 3) := by decide +kernel
theorem dX8_isLike_21 : decode cX8_isLike 21 = .ok (.imul, 1) := by decide +kernel
theorem dX8_isLike_22 : decode cX8_isLike 22 = .ok (.if_icmp .ge 26, 3) := by decide +kernel
theorem dX8_isLike_25 : decode cX8_isLike 25 = .ok (.aload_n 0, 1) := by decide +kernel
theorem dX8_isLike_26 : decode cX8_isLike 26 = .ok (.getfield 15, 3) := by decide +kernel
theorem dX8_isLike_29 : decode cX8_isLike 29 = .ok (.iload_n 2, 1) := by decide +kernel
theorem dX8_isLike_30 : decode cX8_isLike 30 = .ok (.iaload, 1) := by decide +kernel
theorem dX8_isLike_31 : decode cX8_isLike 31 = .ok (.aload_n 1, 1) := by decide +kernel
theorem dX8_isLike_32 : decode cX8_isLike 32 = .ok (.getfield 15, 3) := by decide +kernel
theorem dX8_isLike_35 : decode cX8_isLike 35 = .ok (.iload_n 2, 1) := by decide +kernel
theorem dX8_isLike_36 : decode cX8_isLike 36 = .ok (.iaload, 1) := by decide +kernel
theorem dX8_isLike_37 : decode cX8_isLike 37 = .ok (.if_icmp .eq 5, 3) := by decide +kernel
theorem dX8_isLike_40 : decode cX8_isLike 40 = .ok (.iconst 0, 1) := by decide +kernel
theorem dX8_isLike_41 : decode cX8_isLike 41 = .ok (.ireturn, 1) := by decide +kernel
theorem dX8_isLike_42 : decode cX8_isLike 42 = .ok (.iinc 2 1, 3) := by decide +kernel
theorem dX8_isLike_45 : decode cX8_isLike 45 = .ok (.goto (-30), 3) := by decide +kernel
theorem dX8_isLike_48 : decode cX8_isLike 48 = .ok (.iconst 1, 1) := by decide +kernel
theorem dX8_isLike_49 : decode cX8_isLike 49 = .ok (.ireturn, 1) := by decide +kernel
theorem dX8_hasTet_0 : decode cX8_hasTet 0 = .ok (.iload_n 1, 1) := by decide +kernel
theorem dX8_hasTet_1 : decode cX8_hasTet 1 = .ok (.ifCond .lt 15, 3) := by decide +kernel
theorem dX8_hasTet_4 : decode cX8_hasTet 4 = .ok (.iload_n 1, 1) := by decide +kernel
theorem dX8_hasTet_5 : decode cX8_hasTet 5 = .ok (.aload_n 0, 1) := by decide +kernel
theorem dX8_hasTet_6 : decode cX8_hasTet 6 = .ok (.getfield 9, 3) := by decide +kernel
theorem dX8_hasTet_9 : decode cX8_hasTet 9 = .ok (.if_icmp .ge 7, 3) := by decide +kernel
theorem dX8_hasTet_12 : decode cX8_hasTet 12 = .ok (.iconst 1, 1) := by decide +kernel
theorem dX8_hasTet_13 : decode cX8_hasTet 13 = .ok (.goto 4, 3) := by decide +kernel
theorem dX8_hasTet_16 : decode cX8_hasTet 16 = .ok (.iconst 0, 1) := by decide +kernel
theorem dX8_hasTet_17 : decode cX8_hasTet 17 = .ok (.ireturn, 1) := by decide +kernel
theorem dX8_hasCorner_0 : decode cX8_hasCorner 0 = .ok (.aload_n 0, 1) := by decide +kernel
theorem dX8_hasCorner_1 : decode cX8_hasCorner 1 = .ok (.iload_n 1, 1) := by decide +kernel
theorem dX8_hasCorner_2 : decode cX8_hasCorner 2 = .ok (.invokevirtual 31, 3) := by decide +kernel
theorem dX8_hasCorner_5 : decode cX8_hasCorner 5 = .ok (.ifCond .eq 16, 3) := by decide +kernel
theorem dX8_hasCorner_8 : decode cX8_hasCorner 8 = .ok (.iload_n 2, 1) := by decide +kernel
theorem dX8_hasCorner_9 : decode cX8_hasCorner 9 = .ok (.ifCond .lt 12, 3) := by decide +kernel
theorem dX8_hasCorner_12 : decode cX8_hasCorner 12 = .ok (.iload_n 2, 1) := by decide +kernel
theorem dX8_hasCorner_13 : decode cX8_hasCorner 13 = .ok (.iconst 4, 1) := by decide +kernel
theorem dX8_hasCorner_14 : decode cX8_hasCorner 14 = .ok (.if_icmp .ge 7, 3) := by decide +kernel
theorem dX8_hasCorner_17 : decode cX8_hasCorner 17 = .ok (.iconst 1, 1) := by decide +kernel
theorem dX8_hasCorner_18 : decode cX8_hasCorner 18 = .ok (.goto 4, 3) := by decide +kernel
theorem dX8_hasCorner_21 : decode cX8_hasCorner 21 = .ok (.iconst 0, 1) := by decide +kernel
theorem dX8_hasCorner_22 : decode cX8_hasCorner 22 = .ok (.ireturn, 1) := by decide +kernel
theorem dX8_hasEdge_0 : decode cX8_hasEdge 0 = .ok (.aload_n 0, 1) := by decide +kernel
theorem dX8_hasEdge_1 : decode cX8_hasEdge 1 = .ok (.iload_n 1, 1) := by decide +kernel
theorem dX8_hasEdge_2 : decode cX8_hasEdge 2 = .ok (.iload_n 2, 1) := by decide +kernel
theorem dX8_hasEdge_3 : decode cX8_hasEdge 3 = .ok (.invokevirtual 35, 3) := by decide +kernel
theorem dX8_hasEdge_6 : decode cX8_hasEdge 6 = .ok (.ifCond .eq 21, 3) := by decide +kernel
theorem dX8_hasEdge_9 : decode cX8_hasEdge 9 = .ok (.iload_n 3, 1) := by decide +kernel
theorem dX8_hasEdge_10 : decode cX8_hasEdge 10 = .ok (.ifCond .lt 17, 3) := by decide +kernel
theorem dX8_hasEdge_13 : decode cX8_hasEdge 13 = .ok (.iload_n 3, 1) := by decide +kernel
theorem dX8_hasEdge_14 : decode cX8_hasEdge 14 = .ok (.iconst 4, 1) := by decide +kernel
theorem dX8_hasEdge_15 : decode cX8_hasEdge 15 = .ok (.if_icmp .ge 12, 3) := by decide +kernel
theorem dX8_hasEdge_18 : decode cX8_hasEdge 18 = .ok (.iload_n 2, 1) := by decide +kernel
theorem dX8_hasEdge_19 : decode cX8_hasEdge 19 = .ok (.iload_n 3, 1) := by decide +kernel
theorem dX8_hasEdge_20 : decode cX8_hasEdge 20 = .ok (.if_icmp .eq 7, 3) := by decide +kernel
theorem dX8_hasEdge_23 : decode cX8_hasEdge 23 = .ok (.iconst 1, 1) := by decide +kernel
theorem dX8_hasEdge_24 : decode cX8_hasEdge 24 = .ok (.goto 4, 3) := by decide +kernel
theorem dX8_hasEdge_27 : decode cX8_hasEdge 27 = .ok (.iconst 0, 1) := by decide +kernel
theorem dX8_hasEdge_28 : decode cX8_hasEdge 28 = .ok (.ireturn, 1) := by decide +kernel
theorem dX8_partner_0 : decode cX8_partner 0 = .ok (.aload_n 0, 1) := by decide +kernel
theorem dX8_partner_1 : decode cX8_partner 1 = .ok (.getfield 15, 3) := by decide +kernel
theorem dX8_partner_4 : decode cX8_partner 4 = .ok (.iload_n 1, 1) := by decide +kernel
theorem dX8_partner_5 : decode cX8_partner 5 = .ok (.iaload, 1) := by decide +kernel
theorem dX8_partner_6 : decode cX8_partner 6 = .ok (.istore_n 2, 1) := by decide +kernel
theorem dX8_partner_7 : decode cX8_partner 7 = .ok (.iload_n 2, 1) := by decide +kernel
theorem dX8_partner_8 : decode cX8_partner 8 = .ok (.ifCond .ge 7, 3) := by decide +kernel
theorem dX8_partner_11 : decode cX8_partner 11 = .ok (.iconst (-1), 1) := by decide +kernel
theorem dX8_partner_12 : decode cX8_partner 12 = .ok (.goto 23, 3) := by decide +kernel
theorem dX8_partner_15 : decode cX8_partner 15 = .ok (.iconst 4, 1) := by decide +kernel
theorem dX8_partner_16 : decode cX8_partner 16 = .ok (.iload_n 2, 1) := by decide +kernel
theorem dX8_partner_17 : decode cX8_partner 17 = .ok (.iconst 5, 1) := by decide +kernel
theorem dX8_partner_18 : decode cX8_partner 18 = .ok (.ishr, 1) := by decide +kernel
theorem dX8_partner_19 : decode cX8_partner 19 = .ok (.imul, 1) := by decide +kernel
theorem dX8_partner_20 : decode cX8_partner 20 = .ok (.getstatic 39, 3) := by decide +kernel
theorem dX8_partner_23 : decode cX8_partner 23 = .ok (.iconst 4, 1) := by decide +kernel
theorem dX8_partner_24 : decode cX8_partner 24 = .ok (.iload_n 2, 1) := by decide +kernel
theorem dX8_partner_25 : decode cX8_partner 25 = .ok (.bipush 31, 2) := by decide +kernel
theorem dX8_partner_27 : decode cX8_partner 27 = .ok (.iand, 1) := by decide +kernel
theorem dX8_partner_28 : decode cX8_partner 28 = .ok (.imul, 1) := by decide +kernel
theorem dX8_partner_29 : decode cX8_partner 29 = .ok (.iload_n 1, 1) := by decide +kernel
theorem dX8_partner_30 : decode cX8_partner 30 = .ok (.iconst 3, 1) := by decide +kernel
theorem dX8_partner_31 : decode cX8_partner 31 = .ok (.iand, 1) := by decide +kernel
theorem dX8_partner_32 : decode cX8_partner 32 = .ok (.iadd, 1) := by decide +kernel
theorem dX8_partner_33 : decode cX8_partner 33 = .ok (.iaload, 1) := by decide +kernel
theorem dX8_partner_34 : decode cX8_partner 34 = .ok (.iadd, 1) := by decide +kernel
theorem dX8_partner_35 : decode cX8_partner 35 = .ok (.ireturn, 1) := by decide +kernel
theorem dX8_join_0 : decode cX8_join 0 = .ok (.iconst 4, 1) := by decide +kernel
theorem dX8_join_1 : decode cX8_join 1 = .ok (.iload_n 2, 1) := by decide +kernel
theorem dX8_join_2 : decode cX8_join 2 = .ok (.imul, 1) := by decide +kernel
theorem dX8_join_3 : decode cX8_join 3 = .ok (.getstatic 39, 3) := by decide +kernel
theorem dX8_join_6 : decode cX8_join 6 = .ok (.iconst 4, 1) := by decide +kernel
theorem dX8_join_7 : decode cX8_join 7 = .ok (.iload_n 3, 1) := by decide +kernel
theorem dX8_join_8 : decode cX8_join 8 = .ok (.imul, 1) := by decide +kernel
theorem dX8_join_9 : decode cX8_join 9 = .ok (.iload_n 1, 1) := by decide +kernel
theorem dX8_join_10 : decode cX8_join 10 = .ok (.iconst 3, 1) := by decide +kernel
theorem dX8_join_11 : decode cX8_join 11 = .ok (.iand, 1) := by decide +kernel
theorem dX8_join_12 : decode cX8_join 12 = .ok (.iadd, 1) := by decide +kernel
theorem dX8_join_13 : decode cX8_join 13 = .ok (.iaload, 1) := by decide +kernel
theorem dX8_join_14 : decode cX8_join 14 = .ok (.iadd, 1) := by decide +kernel
theorem dX8_join_15 : decode cX8_join 15 = .ok (.istore 4, 2) := by decide +kernel
theorem dX8_join_17 : decode cX8_join 17 = .ok (.aload_n 0, 1) := by decide +kernel
theorem dX8_join_18 : decode cX8_join 18 = .ok (.getfield 15, 3) := by decide +kernel
theorem dX8_join_21 : decode cX8_join 21 = .ok (.iload_n 1, 1) := by decide +kernel
theorem dX8_join_22 : decode cX8_join 22 = .ok (.iload_n 2, 1) := by decide +kernel
theorem dX8_join_23 : decode cX8_join 23 = .ok (.iconst 5, 1) := by decide +kernel
theorem dX8_join_24 : decode cX8_join 24 = .ok (.ishl, 1) := by decide +kernel
theorem dX8_join_25 : decode cX8_join 25 = .ok (.iload_n 3, 1) := by decide +kernel
theorem dX8_join_26 : decode cX8_join 26 = .ok (.ior, 1) := by decide +kernel
theorem dX8_join_27 : decode cX8_join 27 = .ok (.iastore, 1) := by decide +kernel
theorem dX8_join_28 : decode cX8_join 28 = .ok (.aload_n 0, 1) := by decide +kernel
theorem dX8_join_29 : decode cX8_join 29 = .ok (.getfield 15, 3) := by decide +kernel
theorem dX8_join_32 : decode cX8_join 32 = .ok (.iload 4, 2) := by decide +kernel
theorem dX8_join_34 : decode cX8_join 34 = .ok (.iload_n 1, 1) := by decide +kernel
theorem dX8_join_35 : decode cX8_join 35 = .ok (.iconst 2, 1) := by decide +kernel
theorem dX8_join_36 : decode cX8_join 36 = .ok (.ishr, 1) := by decide +kernel
theorem dX8_join_37 : decode cX8_join 37 = .ok (.iconst 5, 1) := by decide +kernel
theorem dX8_join_38 : decode cX8_join 38 = .ok (.ishl, 1) := by decide +kernel
theorem dX8_join_39 : decode cX8_join 39 = .ok (.getstatic 42, 3) := by decide +kernel
theorem dX8_join_42 : decode cX8_join 42 = .ok (.iload_n 3, 1) := by decide +kernel
theorem dX8_join_43 : decode cX8_join 43 = .ok (.iaload, 1) := by decide +kernel
theorem dX8_join_44 : decode cX8_join 44 = .ok (.ior, 1) := by decide +kernel
theorem dX8_join_45 : decode cX8_join 45 = .ok (.iastore, 1) := by decide +kernel
theorem dX8_join_46 : decode cX8_join 46 = .ok (.return_, 1) := by decide +kernel
theorem dX8_free_0 : decode cX8_free 0 = .ok (.aload_n 0, 1) := by decide +kernel
theorem dX8_free_1 : decode cX8_free 1 = .ok (.iload_n 1, 1) := by decide +kernel
theorem dX8_free_2 : decode cX8_free 2 = .ok (.invokevirtual 45, 3) := by decide +kernel
theorem dX8_free_5 : decode cX8_free 5 = .ok (.istore_n 2, 1) := by decide +kernel
theorem dX8_free_6 : decode cX8_free 6 = .ok (.iload_n 2, 1) := by decide +kernel
theorem dX8_free_7 : decode cX8_free 7 = .ok (.ifCond .lt 17, 3) := by decide +kernel
theorem dX8_free_10 : decode cX8_free 10 = .ok (.aload_n 0, 1) := by decide +kernel
theorem dX8_free_11 : decode cX8_free 11 = .ok (.getfield 15, 3) := by decide +kernel
theorem dX8_free_14 : decode cX8_free 14 = .ok (.iload_n 2, 1) := by decide +kernel
theorem dX8_free_15 : decode cX8_free 15 = .ok (.iconst (-1), 1) := by decide +kernel
theorem dX8_free_16 : decode cX8_free 16 = .ok (.iastore, 1) := by decide +kernel
theorem dX8_free_17 : decode cX8_free 17 = .ok (.aload_n 0, 1) := by decide +kernel
theorem dX8_free_18 : decode cX8_free 18 = .ok (.getfield 15, 3) := by decide +kernel
theorem dX8_free_21 : decode cX8_free 21 = .ok (.iload_n 1, 1) := by decide +kernel
theorem dX8_free_22 : decode cX8_free 22 = .ok (.iconst (-1), 1) := by decide +kernel
theorem dX8_free_23 : decode cX8_free 23 = .ok (.iastore, 1) := by decide +kernel
theorem dX8_free_24 : decode cX8_free 24 = .ok (.return_, 1) := by decide +kernel
theorem dX8_freeFaces_0 : decode cX8_freeFaces 0 = .ok (.iconst 0, 1) := by decide +kernel
theorem dX8_freeFaces_1 : decode cX8_freeFaces 1 = .ok (.istore_n 1, 1) := by decide +kernel
theorem dX8_freeFaces_2 : decode cX8_freeFaces 2 = .ok (.iconst 0, 1) := by decide +kernel
theorem dX8_freeFaces_3 : decode cX8_freeFaces 3 = .ok (.istore_n 2, 1) := by decide +kernel
theorem dX8_freeFaces_4 : decode cX8_freeFaces 4 = .ok (.iload_n 2, 1) := by decide +kernel
theorem dX8_freeFaces_5 : decode cX8_freeFaces 5 = .ok (.iconst 4, 1) := by decide +kernel
theorem dX8_freeFaces_6 : decode cX8_freeFaces 6 = .ok (.aload_n 0, 1) := by decide +kernel
theorem dX8_freeFaces_7 : decode cX8_freeFaces 7 = .ok (.getfield 9, 3) := by decide +kernel
theorem dX8_freeFaces_10 : decode cX8_freeFaces 10 = .ok (.imul, 1) := by decide +kernel
theorem dX8_freeFaces_11 : decode cX8_freeFaces 11 = .ok (.if_icmp .ge 21, 3) := by decide +kernel
theorem dX8_freeFaces_14 : decode cX8_freeFaces 14 = .ok (.aload_n 0, 1) := by decide +kernel
theorem dX8_freeFaces_15 : decode cX8_freeFaces 15 = .ok (.getfield 15, 3) := by decide +kernel
theorem dX8_freeFaces_18 : decode cX8_freeFaces 18 = .ok (.iload_n 2, 1) := by decide +kernel
theorem dX8_freeFaces_19 : decode cX8_freeFaces 19 = .ok (.iaload, 1) := by decide +kernel
theorem dX8_freeFaces_20 : decode cX8_freeFaces 20 = .ok (.ifCond .ge 6, 3) := by decide +kernel
theorem dX8_freeFaces_23 : decode cX8_freeFaces 23 = .ok (.iinc 1 1, 3) := by decide +kernel
theorem dX8_freeFaces_26 : decode cX8_freeFaces 26 = .ok (.iinc 2 1, 3) := by decide +kernel
theorem dX8_freeFaces_29 : decode cX8_freeFaces 29 = .ok (.goto (-25), 3) := by decide +kernel
theorem dX8_freeFaces_32 : decode cX8_freeFaces 32 = .ok (.iload_n 1, 1) := by decide +kernel
theorem dX8_freeFaces_33 : decode cX8_freeFaces 33 = .ok (.ireturn, 1) := by decide +kernel
theorem dX8_hangsTogether_0 : decode cX8_hangsTogether 0 = .ok (.iconst 1, 1) := by decide +kernel
theorem dX8_hangsTogether_1 : decode cX8_hangsTogether 1 = .ok (.istore_n 1, 1) := by decide +kernel
theorem dX8_hangsTogether_2 : decode cX8_hangsTogether 2 = .ok (.iconst 1, 1) := by decide +kernel
theorem dX8_hangsTogether_3 : decode cX8_hangsTogether 3 = .ok (.istore_n 2, 1) := by decide +kernel
theorem dX8_hangsTogether_4 : decode cX8_hangsTogether 4 = .ok (.iload_n 2, 1) := by decide +kernel
theorem dX8_hangsTogether_5 : decode cX8_hangsTogether 5 = .ok (.aload_n 0, 1) := by decide +kernel
theorem dX8_hangsTogether_6 : decode cX8_hangsTogether 6 = .ok (.getfield 9, 3) := by decide +kernel
theorem dX8_hangsTogether_9 : decode cX8_hangsTogether 9 = .ok (.if_icmp .ge 60, 3) := by decide +kernel
theorem dX8_hangsTogether_12 : decode cX8_hangsTogether 12 = .ok (.iconst 0, 1) := by decide +kernel
theorem dX8_hangsTogether_13 : decode cX8_hangsTogether 13 = .ok (.istore_n 3, 1) := by decide +kernel
theorem dX8_hangsTogether_14 : decode cX8_hangsTogether 14 = .ok (.iload_n 3, 1) := by decide +kernel
theorem dX8_hangsTogether_15 : decode cX8_hangsTogether 15 = .ok (.iconst 4, 1) := by decide +kernel
theorem dX8_hangsTogether_16 : decode cX8_hangsTogether 16 = .ok (.aload_n 0, 1) := by decide +kernel
theorem dX8_hangsTogether_17 : decode cX8_hangsTogether 17 = .ok (.getfield 9, 3) := by decide +kernel
theorem dX8_hangsTogether_20 : decode cX8_hangsTogether 20 = .ok (.imul, 1) := by decide +kernel
theorem dX8_hangsTogether_21 : decode cX8_hangsTogether 21 = .ok (.if_icmp .ge 42, 3) := by decide +kernel
theorem dX8_hangsTogether_24 : decode cX8_hangsTogether 24 = .ok (.iload_n 1, 1) := by decide +kernel
theorem dX8_hangsTogether_25 : decode cX8_hangsTogether 25 = .ok (.iload_n 3, 1) := by decide +kernel
theorem dX8_hangsTogether_26 : decode cX8_hangsTogether 26 = .ok (.iconst 2, 1) := by decide +kernel
theorem dX8_hangsTogether_27 : decode cX8_hangsTogether 27 = .ok (.ishr, 1) := by decide +kernel
theorem dX8_hangsTogether_28 : decode cX8_hangsTogether 28 = .ok (.ishr, 1) := by decide +kernel
theorem dX8_hangsTogether_29 : decode cX8_hangsTogether 29 = .ok (.iconst 1, 1) := by decide +kernel
theorem dX8_hangsTogether_30 : decode cX8_hangsTogether 30 = .ok (.iand, 1) := by decide +kernel
theorem dX8_hangsTogether_31 : decode cX8_hangsTogether 31 = .ok (.iconst 1, 1) := by decide +kernel
theorem dX8_hangsTogether_32 : decode cX8_hangsTogether 32 = .ok (.if_icmp .ne 25, 3) := by decide +kernel
theorem dX8_hangsTogether_35 : decode cX8_hangsTogether 35 = .ok (.aload_n 0, 1) := by decide +kernel
theorem dX8_hangsTogether_36 : decode cX8_hangsTogether 36 = .ok (.getfield 15, 3) := by decide +kernel
theorem dX8_hangsTogether_39 : decode cX8_hangsTogether 39 = .ok (.iload_n 3, 1) := by decide +kernel
theorem dX8_hangsTogether_40 : decode cX8_hangsTogether 40 = .ok (.iaload, 1) := by decide +kernel
theorem dX8_hangsTogether_41 : decode cX8_hangsTogether 41 = .ok (.ifCond .lt 16, 3) := by decide +kernel
theorem dX8_hangsTogether_44 : decode cX8_hangsTogether 44 = .ok (.iload_n 1, 1) := by decide +kernel
theorem dX8_hangsTogether_45 : decode cX8_hangsTogether 45 = .ok (.iconst 1, 1) := by decide +kernel
theorem dX8_hangsTogether_46 : decode cX8_hangsTogether 46 = .ok (.aload_n 0, 1) := by decide +kernel
theorem dX8_hangsTogether_47 : decode cX8_hangsTogether 47 = .ok (.getfield 15, 3) := by decide +kernel
theorem dX8_hangsTogether_50 : decode cX8_hangsTogether 50 = .ok (.iload_n 3, 1) := by decide +kernel
theorem dX8_hangsTogether_51 : decode cX8_hangsTogether 51 = .ok (.iaload, 1) := by decide +kernel
theorem dX8_hangsTogether_52 : decode cX8_hangsTogether 52 = .ok (.iconst 5, 1) := by decide +kernel
theorem dX8_hangsTogether_53 : decode cX8_hangsTogether 53 = .ok (.ishr, 1) := by decide +kernel
theorem dX8_hangsTogether_54 : decode cX8_hangsTogether 54 = .ok (.ishl, 1) := by decide +kernel
theorem dX8_hangsTogether_55 : decode cX8_hangsTogether 55 = .ok (.ior, 1) := by decide +kernel
theorem dX8_hangsTogether_56 : decode cX8_hangsTogether 56 = .ok (.istore_n 1, 1) := by decide +kernel
theorem dX8_hangsTogether_57 : decode cX8_hangsTogether 57 = .ok (.iinc 3 1, 3) := by decide +kernel
theorem dX8_hangsTogether_60 : decode cX8_hangsTogether 60 = .ok (.goto (-46), 3) := by decide +kernel
theorem dX8_hangsTogether_63 : decode cX8_hangsTogether 63 = .ok (.iinc 2 1, 3) := by decide +kernel
theorem dX8_hangsTogether_66 : decode cX8_hangsTogether 66 = .ok (.goto (-62), 3) := by decide +kernel
theorem dX8_hangsTogether_69 : decode cX8_hangsTogether 69 = .ok (.iload_n 1, 1) := by decide +kernel
theorem dX8_hangsTogether_70 : decode cX8_hangsTogether 70 = .ok (.iconst 1, 1) := by decide +kernel
theorem dX8_hangsTogether_71 : decode cX8_hangsTogether 71 = .ok (.aload_n 0, 1) := by decide +kernel
theorem dX8_hangsTogether_72 : decode cX8_hangsTogether 72 = .ok (.getfield 9, 3) := by decide +kernel
theorem dX8_hangsTogether_75 : decode cX8_hangsTogether 75 = .ok (.ishl, 1) := by decide +kernel
theorem dX8_hangsTogether_76 : decode cX8_hangsTogether 76 = .ok (.iconst 1, 1) := by decide +kernel
theorem dX8_hangsTogether_77 : decode cX8_hangsTogether 77 = .ok (.isub, 1) := by decide +kernel
theorem dX8_hangsTogether_78 : decode cX8_hangsTogether 78 = .ok (.if_icmp .ne 7, 3) := by decide +kernel
theorem dX8_hangsTogether_81 : decode cX8_hangsTogether 81 = .ok (.iconst 1, 1) := by decide +kernel
theorem dX8_hangsTogether_82 : decode cX8_hangsTogether 82 = .ok (.goto 4, 3) := by decide +kernel
theorem dX8_hangsTogether_85 : decode cX8_hangsTogether 85 = .ok (.iconst 0, 1) := by decide +kernel
theorem dX8_hangsTogether_86 : decode cX8_hangsTogether 86 = .ok (.ireturn, 1) := by decide +kernel
theorem dX8_otherSide_0 : decode cX8_otherSide 0 = .ok (.iconst 0, 1) := by decide +kernel
theorem dX8_otherSide_1 : decode cX8_otherSide 1 = .ok (.istore_n 1, 1) := by decide +kernel
theorem dX8_otherSide_2 : decode cX8_otherSide 2 = .ok (.iconst 1, 1) := by decide +kernel
theorem dX8_otherSide_3 : decode cX8_otherSide 3 = .ok (.istore_n 2, 1) := by decide +kernel
theorem dX8_otherSide_4 : decode cX8_otherSide 4 = .ok (.iconst 0, 1) := by decide +kernel
theorem dX8_otherSide_5 : decode cX8_otherSide 5 = .ok (.istore_n 3, 1) := by decide +kernel
theorem dX8_otherSide_6 : decode cX8_otherSide 6 = .ok (.iload_n 3, 1) := by decide +kernel
theorem dX8_otherSide_7 : decode cX8_otherSide 7 = .ok (.iconst 4, 1) := by decide +kernel
theorem dX8_otherSide_8 : decode cX8_otherSide 8 = .ok (.aload_n 0, 1) := by decide +kernel
theorem dX8_otherSide_9 : decode cX8_otherSide 9 = .ok (.getfield 9, 3) := by decide +kernel
theorem dX8_otherSide_12 : decode cX8_otherSide 12 = .ok (.imul, 1) := by decide +kernel
theorem dX8_otherSide_13 : decode cX8_otherSide 13 = .ok (.if_icmp .ge 92, 3) := by decide +kernel
theorem dX8_otherSide_16 : decode cX8_otherSide 16 = .ok (.aload_n 0, 1) := by decide +kernel
theorem dX8_otherSide_17 : decode cX8_otherSide 17 = .ok (.getfield 15, 3) := by decide +kernel
theorem dX8_otherSide_20 : decode cX8_otherSide 20 = .ok (.iload_n 3, 1) := by decide +kernel
theorem dX8_otherSide_21 : decode cX8_otherSide 21 = .ok (.iaload, 1) := by decide +kernel
theorem dX8_otherSide_22 : decode cX8_otherSide 22 = .ok (.istore 4, 2) := by decide +kernel
theorem dX8_otherSide_24 : decode cX8_otherSide 24 = .ok (.iload 4, 2) := by decide +kernel
theorem dX8_otherSide_26 : decode cX8_otherSide 26 = .ok (.ifCond .ge 6, 3) := by decide +kernel
theorem dX8_otherSide_29 : decode cX8_otherSide 29 = .ok (.goto 70, 3) := by decide +kernel
theorem dX8_otherSide_32 : decode cX8_otherSide 32 = .ok (.iload 4, 2) := by decide +kernel
theorem dX8_otherSide_34 : decode cX8_otherSide 34 = .ok (.iconst 5, 1) := by decide +kernel
theorem dX8_otherSide_35 : decode cX8_otherSide 35 = .ok (.ishr, 1) := by decide +kernel
theorem dX8_otherSide_36 : decode cX8_otherSide 36 = .ok (.istore 5, 2) := by decide +kernel
theorem dX8_otherSide_38 : decode cX8_otherSide 38 = .ok (.iload_n 1, 1) := by decide +kernel
theorem dX8_otherSide_39 : decode cX8_otherSide 39 = .ok (.iload_n 3, 1) := by decide +kernel
theorem dX8_otherSide_40 : decode cX8_otherSide 40 = .ok (.iconst 2, 1) := by decide +kernel
theorem dX8_otherSide_41 : decode cX8_otherSide 41 = .ok (.ishr, 1) := by decide +kernel
theorem dX8_otherSide_42 : decode cX8_otherSide 42 = .ok (.ishr, 1) := by decide +kernel
theorem dX8_otherSide_43 : decode cX8_otherSide 43 = .ok (.iconst 1, 1) := by decide +kernel
theorem dX8_otherSide_44 : decode cX8_otherSide 44 = .ok (.iand, 1) := by decide +kernel
theorem dX8_otherSide_45 : decode cX8_otherSide 45 = .ok (.iconst 1, 1) := by decide +kernel
theorem dX8_otherSide_46 : decode cX8_otherSide 46 = .ok (.ixor, 1) := by decide +kernel
theorem dX8_otherSide_47 : decode cX8_otherSide 47 = .ok (.getstatic 49, 3) := by decide +kernel
theorem dX8_otherSide_50 : decode cX8_otherSide 50 = .ok (.iload 4, 2) := by decide +kernel
theorem dX8_otherSide_52 : decode cX8_otherSide 52 = .ok (.bipush 31, 2) := by decide +kernel
theorem dX8_otherSide_54 : decode cX8_otherSide 54 = .ok (.iand, 1) := by decide +kernel
theorem dX8_otherSide_55 : decode cX8_otherSide 55 = .ok (.iaload, 1) := by decide +kernel
theorem dX8_otherSide_56 : decode cX8_otherSide 56 = .ok (.ixor, 1) := by decide +kernel
theorem dX8_otherSide_57 : decode cX8_otherSide 57 = .ok (.istore 6, 2) := by decide +kernel
theorem dX8_otherSide_59 : decode cX8_otherSide 59 = .ok (.iload_n 2, 1) := by decide +kernel
theorem dX8_otherSide_60 : decode cX8_otherSide 60 = .ok (.iload 5, 2) := by decide +kernel
theorem dX8_otherSide_62 : decode cX8_otherSide 62 = .ok (.ishr, 1) := by decide +kernel
theorem dX8_otherSide_63 : decode cX8_otherSide 63 = .ok (.iconst 1, 1) := by decide +kernel
theorem dX8_otherSide_64 : decode cX8_otherSide 64 = .ok (.iand, 1) := by decide +kernel
theorem dX8_otherSide_65 : decode cX8_otherSide 65 = .ok (.ifCond .ne 21, 3) := by decide +kernel
theorem dX8_otherSide_68 : decode cX8_otherSide 68 = .ok (.iload_n 2, 1) := by decide +kernel
theorem dX8_otherSide_69 : decode cX8_otherSide 69 = .ok (.iconst 1, 1) := by decide +kernel
theorem dX8_otherSide_70 : decode cX8_otherSide 70 = .ok (.iload 5, 2) := by decide +kernel
theorem dX8_otherSide_72 : decode cX8_otherSide 72 = .ok (.ishl, 1) := by decide +kernel
theorem dX8_otherSide_73 : decode cX8_otherSide 73 = .ok (.ior, 1) := by decide +kernel
theorem dX8_otherSide_74 : decode cX8_otherSide 74 = .ok (.istore_n 2, 1) := by decide +kernel
theorem dX8_otherSide_75 : decode cX8_otherSide 75 = .ok (.iload_n 1, 1) := by decide +kernel
theorem dX8_otherSide_76 : decode cX8_otherSide 76 = .ok (.iload 6, 2) := by decide +kernel
theorem dX8_otherSide_78 : decode cX8_otherSide 78 = .ok (.iload 5, 2) := by decide +kernel
theorem dX8_otherSide_80 : decode cX8_otherSide 80 = .ok (.ishl, 1) := by decide +kernel
theorem dX8_otherSide_81 : decode cX8_otherSide 81 = .ok (.ior, 1) := by decide +kernel
theorem dX8_otherSide_82 : decode cX8_otherSide 82 = .ok (.istore_n 1, 1) := by decide +kernel
theorem dX8_otherSide_83 : decode cX8_otherSide 83 = .ok (.goto 16, 3) := by decide +kernel
theorem dX8_otherSide_86 : decode cX8_otherSide 86 = .ok (.iload_n 1, 1) := by decide +kernel
theorem dX8_otherSide_87 : decode cX8_otherSide 87 = .ok (.iload 5, 2) := by decide +kernel
theorem dX8_otherSide_89 : decode cX8_otherSide 89 = .ok (.ishr, 1) := by decide +kernel
theorem dX8_otherSide_90 : decode cX8_otherSide 90 = .ok (.iconst 1, 1) := by decide +kernel
theorem dX8_otherSide_91 : decode cX8_otherSide 91 = .ok (.iand, 1) := by decide +kernel
theorem dX8_otherSide_92 : decode cX8_otherSide 92 = .ok (.iload 6, 2) := by decide +kernel
theorem dX8_otherSide_94 : decode cX8_otherSide 94 = .ok (.if_icmp .eq 5, 3) := by decide +kernel
theorem dX8_otherSide_97 : decode cX8_otherSide 97 = .ok (.iconst (-1), 1) := by decide +kernel
theorem dX8_otherSide_98 : decode cX8_otherSide 98 = .ok (.ireturn, 1) := by decide +kernel
theorem dX8_otherSide_99 : decode cX8_otherSide 99 = .ok (.iinc 3 1, 3) := by decide +kernel
theorem dX8_otherSide_102 : decode cX8_otherSide 102 = .ok (.goto (-96), 3) := by decide +kernel
theorem dX8_otherSide_105 : decode cX8_otherSide 105 = .ok (.iload_n 1, 1) := by decide +kernel
theorem dX8_otherSide_106 : decode cX8_otherSide 106 = .ok (.ireturn, 1) := by decide +kernel
theorem dX9_init_0 : decode cX9_init 0 = .ok (.aload_n 0, 1) := by decide +kernel
theorem dX9_init_1 : decode cX9_init 1 = .ok (.invokespecial 1, 3) := by decide +kernel
theorem dX9_init_4 : decode cX9_init 4 = .ok (.aload_n 0, 1) := by decide +kernel
theorem dX9_init_5 : decode cX9_init 5 = .ok (.bipush 65, 2) := by decide +kernel
theorem dX9_init_7 : decode cX9_init 7 = .ok (.newarray .long, 2) := by decide +kernel
theorem dX9_init_9 : decode cX9_init 9 = .ok (.putfield 9, 3) := by decide +kernel
theorem dX9_init_12 : decode cX9_init 12 = .ok (.return_, 1) := by decide +kernel
theorem dX9_clear_0 : decode cX9_clear 0 = .ok (.aload_n 0, 1) := by decide +kernel
theorem dX9_clear_1 : decode cX9_clear 1 = .ok (.iconst 0, 1) := by decide +kernel
theorem dX9_clear_2 : decode cX9_clear 2 = .ok (.putfield 13, 3) := by decide +kernel
theorem dX9_clear_5 : decode cX9_clear 5 = .ok (.return_, 1) := by decide +kernel
theorem dX9_add_0 : decode cX9_add 0 = .ok (.aload_n 0, 1) := by decide +kernel
theorem dX9_add_1 : decode cX9_add 1 = .ok (.getfield 13, 3) := by decide +kernel
theorem dX9_add_4 : decode cX9_add 4 = .ok (.bipush 65, 2) := by decide +kernel
theorem dX9_add_6 : decode cX9_add 6 = .ok (.if_icmp .ge 23, 3) := by decide +kernel
theorem dX9_add_9 : decode cX9_add 9 = .ok (.aload_n 0, 1) := by decide +kernel
theorem dX9_add_10 : decode cX9_add 10 = .ok (.getfield 9, 3) := by decide +kernel
theorem dX9_add_13 : decode cX9_add 13 = .ok (.aload_n 0, 1) := by decide +kernel
theorem dX9_add_14 : decode cX9_add 14 = .ok (.getfield 13, 3) := by decide +kernel
theorem dX9_add_17 : decode cX9_add 17 = .ok (.lload_n 1, 1) := by decide +kernel
theorem dX9_add_18 : decode cX9_add 18 = .ok (.lastore, 1) := by decide +kernel
theorem dX9_add_19 : decode cX9_add 19 = .ok (.aload_n 0, 1) := by decide +kernel
theorem dX9_add_20 : decode cX9_add 20 = .ok (.dup, 1) := by decide +kernel
theorem dX9_add_21 : decode cX9_add 21 = .ok (.getfield 13, 3) := by decide +kernel
theorem dX9_add_24 : decode cX9_add 24 = .ok (.iconst 1, 1) := by decide +kernel
theorem dX9_add_25 : decode cX9_add 25 = .ok (.iadd, 1) := by decide +kernel
theorem dX9_add_26 : decode cX9_add 26 = .ok (.putfield 13, 3) := by decide +kernel
theorem dX9_add_29 : decode cX9_add 29 = .ok (.return_, 1) := by decide +kernel
theorem dX9_addFlag_0 : decode cX9_addFlag 0 = .ok (.aload_n 0, 1) := by decide +kernel
theorem dX9_addFlag_1 : decode cX9_addFlag 1 = .ok (.iload_n 1, 1) := by decide +kernel
theorem dX9_addFlag_2 : decode cX9_addFlag 2 = .ok (.ifCond .eq 7, 3) := by decide +kernel
theorem dX9_addFlag_5 : decode cX9_addFlag 5 = .ok (.lconst 1, 1) := by decide +kernel
theorem dX9_addFlag_6 : decode cX9_addFlag 6 = .ok (.goto 4, 3) := by decide +kernel
theorem dX9_addFlag_9 : decode cX9_addFlag 9 = .ok (.lconst 0, 1) := by decide +kernel
theorem dX9_addFlag_10 : decode cX9_addFlag 10 = .ok (.invokevirtual 17, 3) := by decide +kernel
theorem dX9_addFlag_13 : decode cX9_addFlag 13 = .ok (.return_, 1) := by decide +kernel
theorem dX10_init_0 : decode cX10_init 0 = .ok (.aload_n 0, 1) := by decide +kernel
theorem dX10_init_1 : decode cX10_init 1 = .ok (.invokespecial 3, 3) := by decide +kernel
theorem dX10_init_4 : decode cX10_init 4 = .ok (.aload_n 0, 1) := by decide +kernel
theorem dX10_init_5 : decode cX10_init 5 = .ok (.bipush 32, 2) := by decide +kernel
theorem dX10_init_7 : decode cX10_init 7 = .ok (.newarray .int, 2) := by decide +kernel
theorem dX10_init_9 : decode cX10_init 9 = .ok (.putfield 9, 3) := by decide +kernel
theorem dX10_init_12 : decode cX10_init 12 = .ok (.aload_n 0, 1) := by decide +kernel
theorem dX10_init_13 : decode cX10_init 13 = .ok (.sipush 432, 3) := by decide +kernel
theorem dX10_init_16 : decode cX10_init 16 = .ok (.newarray .long, 2) := by decide +kernel
theorem dX10_init_18 : decode cX10_init 18 = .ok (.putfield 15, 3) := by decide +kernel
theorem dX10_init_21 : decode cX10_init 21 = .ok (.aload_n 0, 1) := by decide +kernel
theorem dX10_init_22 : decode cX10_init 22 = .ok (.bipush 9, 2) := by decide +kernel
theorem dX10_init_24 : decode cX10_init 24 = .ok (.newarray .long, 2) := by decide +kernel
theorem dX10_init_26 : decode cX10_init 26 = .ok (.putfield 19, 3) := by decide +kernel
theorem dX10_init_29 : decode cX10_init 29 = .ok (.return_, 1) := by decide +kernel
theorem dX10_rank_0 : decode cX10_rank 0 = .ok (.aload_n 0, 1) := by decide +kernel
theorem dX10_rank_1 : decode cX10_rank 1 = .ok (.aload_n 1, 1) := by decide +kernel
theorem dX10_rank_2 : decode cX10_rank 2 = .ok (.invokevirtual 22, 3) := by decide +kernel
theorem dX10_rank_5 : decode cX10_rank 5 = .ok (.aload_n 0, 1) := by decide +kernel
theorem dX10_rank_6 : decode cX10_rank 6 = .ok (.aload_n 1, 1) := by decide +kernel
theorem dX10_rank_7 : decode cX10_rank 7 = .ok (.aload_n 2, 1) := by decide +kernel
theorem dX10_rank_8 : decode cX10_rank 8 = .ok (.invokevirtual 26, 3) := by decide +kernel
theorem dX10_rank_11 : decode cX10_rank 11 = .ok (.aload_n 0, 1) := by decide +kernel
theorem dX10_rank_12 : decode cX10_rank 12 = .ok (.iconst 0, 1) := by decide +kernel
theorem dX10_rank_13 : decode cX10_rank 13 = .ok (.putfield 30, 3) := by decide +kernel
theorem dX10_rank_16 : decode cX10_rank 16 = .ok (.iconst 0, 1) := by decide +kernel
theorem dX10_rank_17 : decode cX10_rank 17 = .ok (.istore_n 3, 1) := by decide +kernel
theorem dX10_rank_18 : decode cX10_rank 18 = .ok (.iconst 0, 1) := by decide +kernel
theorem dX10_rank_19 : decode cX10_rank 19 = .ok (.istore 4, 2) := by decide +kernel
theorem dX10_rank_21 : decode cX10_rank 21 = .ok (.iload 4, 2) := by decide +kernel
theorem dX10_rank_23 : decode cX10_rank 23 = .ok (.aload_n 0, 1) := by decide +kernel
theorem dX10_rank_24 : decode cX10_rank 24 = .ok (.getfield 34, 3) := by decide +kernel
theorem dX10_rank_27 : decode cX10_rank 27 = .ok (.if_icmp .ge 79, 3) := by decide +kernel
theorem dX10_rank_30 : decode cX10_rank 30 = .ok (.iload 4, 2) := by decide +kernel
theorem dX10_rank_32 : decode cX10_rank 32 = .ok (.aload_n 0, 1) := by decide +kernel
theorem dX10_rank_33 : decode cX10_rank 33 = .ok (.getfield 37, 3) := by decide +kernel
theorem dX10_rank_36 : decode cX10_rank 36 = .ok (.if_icmp .ge 70, 3) := by decide +kernel
theorem dX10_rank_39 : decode cX10_rank 39 = .ok (.aload_n 0, 1) := by decide +kernel
theorem dX10_rank_40 : decode cX10_rank 40 = .ok (.iload 4, 2) := by decide +kernel
theorem dX10_rank_42 : decode cX10_rank 42 = .ok (.invokevirtual 40, 3) := by decide +kernel
theorem dX10_rank_45 : decode cX10_rank 45 = .ok (.ifCond .ne 6, 3) := by decide +kernel
theorem dX10_rank_48 : decode cX10_rank 48 = .ok (.goto 58, 3) := by decide +kernel
theorem dX10_rank_51 : decode cX10_rank 51 = .ok (.iinc 3 1, 3) := by decide +kernel
theorem dX10_rank_54 : decode cX10_rank 54 = .ok (.aload_n 0, 1) := by decide +kernel
theorem dX10_rank_55 : decode cX10_rank 55 = .ok (.getfield 15, 3) := by decide +kernel
theorem dX10_rank_58 : decode cX10_rank 58 = .ok (.bipush 9, 2) := by decide +kernel
theorem dX10_rank_60 : decode cX10_rank 60 = .ok (.iload 4, 2) := by decide +kernel
theorem dX10_rank_62 : decode cX10_rank 62 = .ok (.imul, 1) := by decide +kernel
theorem dX10_rank_63 : decode cX10_rank 63 = .ok (.iload 4, 2) := by decide +kernel
theorem dX10_rank_65 : decode cX10_rank 65 = .ok (.iadd, 1) := by decide +kernel
theorem dX10_rank_66 : decode cX10_rank 66 = .ok (.laload, 1) := by decide +kernel
theorem dX10_rank_67 : decode cX10_rank 67 = .ok (.invokestatic 44, 3) := by decide +kernel
theorem dX10_rank_70 : decode cX10_rank 70 = .ok (.lstore 5, 2) := by decide +kernel
theorem dX10_rank_72 : decode cX10_rank 72 = .ok (.lload 5, 2) := by decide +kernel
theorem dX10_rank_74 : decode cX10_rank 74 = .ok (.lconst 1, 1) := by decide +kernel
theorem dX10_rank_75 : decode cX10_rank 75 = .ok (.lcmp, 1) := by decide +kernel
theorem dX10_rank_76 : decode cX10_rank 76 = .ok (.ifCond .le 24, 3) := by decide +kernel
theorem dX10_rank_79 : decode cX10_rank 79 = .ok (.aload_n 0, 1) := by decide +kernel
theorem dX10_rank_80 : decode cX10_rank 80 = .ok (.getfield 19, 3) := by decide +kernel
theorem dX10_rank_83 : decode cX10_rank 83 = .ok (.aload_n 0, 1) := by decide +kernel
theorem dX10_rank_84 : decode cX10_rank 84 = .ok (.getfield 30, 3) := by decide +kernel
theorem dX10_rank_87 : decode cX10_rank 87 = .ok (.lload 5, 2) := by decide +kernel
theorem dX10_rank_89 : decode cX10_rank 89 = .ok (.lastore, 1) := by decide +kernel
theorem dX10_rank_90 : decode cX10_rank 90 = .ok (.aload_n 0, 1) := by decide +kernel
theorem dX10_rank_91 : decode cX10_rank 91 = .ok (.dup, 1) := by decide +kernel
theorem dX10_rank_92 : decode cX10_rank 92 = .ok (.getfield 30, 3) := by decide +kernel
theorem dX10_rank_95 : decode cX10_rank 95 = .ok (.iconst 1, 1) := by decide +kernel
theorem dX10_rank_96 : decode cX10_rank 96 = .ok (.iadd, 1) := by decide +kernel
theorem dX10_rank_97 : decode cX10_rank 97 = .ok (.putfield 30, 3) := by decide +kernel
theorem dX10_rank_100 : decode cX10_rank 100 = .ok (.iinc 4 1, 3) := by decide +kernel
theorem dX10_rank_103 : decode cX10_rank 103 = .ok (.goto (-82), 3) := by decide +kernel
theorem dX10_rank_106 : decode cX10_rank 106 = .ok (.aload_n 0, 1) := by decide +kernel
theorem dX10_rank_107 : decode cX10_rank 107 = .ok (.getfield 34, 3) := by decide +kernel
theorem dX10_rank_110 : decode cX10_rank 110 = .ok (.iload_n 3, 1) := by decide +kernel
theorem dX10_rank_111 : decode cX10_rank 111 = .ok (.isub, 1) := by decide +kernel
theorem dX10_rank_112 : decode cX10_rank 112 = .ok (.ireturn, 1) := by decide +kernel
theorem dX10_namePairs_0 : decode cX10_namePairs 0 = .ok (.aload_n 0, 1) := by decide +kernel
theorem dX10_namePairs_1 : decode cX10_namePairs 1 = .ok (.getfield 9, 3) := by decide +kernel
theorem dX10_namePairs_4 : decode cX10_namePairs 4 = .ok (.iconst 0, 1) := by decide +kernel
theorem dX10_namePairs_5 : decode cX10_namePairs 5 = .ok (.invokestatic 50, 3) := by decide +kernel
theorem dX10_namePairs_8 : decode cX10_namePairs 8 = .ok (.aload_n 0, 1) := by decide +kernel
theorem dX10_namePairs_9 : decode cX10_namePairs 9 = .ok (.iconst 0, 1) := by decide +kernel
theorem dX10_namePairs_10 : decode cX10_namePairs 10 = .ok (.putfield 34, 3) := by decide +kernel
theorem dX10_namePairs_13 : decode cX10_namePairs 13 = .ok (.iconst 1, 1) := by decide +kernel
theorem dX10_namePairs_14 : decode cX10_namePairs 14 = .ok (.istore_n 2, 1) := by decide +kernel
theorem dX10_namePairs_15 : decode cX10_namePairs 15 = .ok (.iconst 0, 1) := by decide +kernel
theorem dX10_namePairs_16 : decode cX10_namePairs 16 = .ok (.istore_n 3, 1) := by decide +kernel
theorem dX10_namePairs_17 : decode cX10_namePairs 17 = .ok (.iload_n 3, 1) := by decide +kernel
theorem dX10_namePairs_18 : decode cX10_namePairs 18 = .ok (.iconst 4, 1) := by decide +kernel
theorem dX10_namePairs_19 : decode cX10_namePairs 19 = .ok (.aload_n 1, 1) := by decide +kernel
theorem dX10_namePairs_20 : decode cX10_namePairs 20 = .ok (.getfield 56, 3) := by decide +kernel
theorem dX10_namePairs_23 : decode cX10_namePairs 23 = .ok (.imul, 1) := by decide +kernel
theorem dX10_namePairs_24 : decode cX10_namePairs 24 = .ok (.if_icmp .ge 91, 3) := by decide +kernel
theorem dX10_namePairs_27 : decode cX10_namePairs 27 = .ok (.aload_n 1, 1) := by decide +kernel
theorem dX10_namePairs_28 : decode cX10_namePairs 28 = .ok (.iload_n 3, 1) := by decide +kernel
theorem dX10_namePairs_29 : decode cX10_namePairs 29 = .ok (.invokevirtual 61, 3) := by decide +kernel
theorem dX10_namePairs_32 : decode cX10_namePairs 32 = .ok (.istore 4, 2) := by decide +kernel
theorem dX10_namePairs_34 : decode cX10_namePairs 34 = .ok (.iload 4, 2) := by decide +kernel
theorem dX10_namePairs_36 : decode cX10_namePairs 36 = .ok (.iload_n 3, 1) := by decide +kernel
theorem dX10_namePairs_37 : decode cX10_namePairs 37 = .ok (.if_icmp .gt 6, 3) := by decide +kernel
theorem dX10_namePairs_40 : decode cX10_namePairs 40 = .ok (.goto 69, 3) := by decide +kernel
theorem dX10_namePairs_43 : decode cX10_namePairs 43 = .ok (.iload 4, 2) := by decide +kernel
theorem dX10_namePairs_45 : decode cX10_namePairs 45 = .ok (.iconst 2, 1) := by decide +kernel
theorem dX10_namePairs_46 : decode cX10_namePairs 46 = .ok (.ishr, 1) := by decide +kernel
theorem dX10_namePairs_47 : decode cX10_namePairs 47 = .ok (.istore 5, 2) := by decide +kernel
theorem dX10_namePairs_49 : decode cX10_namePairs 49 = .ok (.iload_n 2, 1) := by decide +kernel
theorem dX10_namePairs_50 : decode cX10_namePairs 50 = .ok (.iload 5, 2) := by decide +kernel
theorem dX10_namePairs_52 : decode cX10_namePairs 52 = .ok (.ishr, 1) := by decide +kernel
theorem dX10_namePairs_53 : decode cX10_namePairs 53 = .ok (.iconst 1, 1) := by decide +kernel
theorem dX10_namePairs_54 : decode cX10_namePairs 54 = .ok (.iand, 1) := by decide +kernel
theorem dX10_namePairs_55 : decode cX10_namePairs 55 = .ok (.ifCond .ne 13, 3) := by decide +kernel
theorem dX10_namePairs_58 : decode cX10_namePairs 58 = .ok (.iload_n 2, 1) := by decide +kernel
theorem dX10_namePairs_59 : decode cX10_namePairs 59 = .ok (.iconst 1, 1) := by decide +kernel
theorem dX10_namePairs_60 : decode cX10_namePairs 60 = .ok (.iload 5, 2) := by decide +kernel
theorem dX10_namePairs_62 : decode cX10_namePairs 62 = .ok (.ishl, 1) := by decide +kernel
theorem dX10_namePairs_63 : decode cX10_namePairs 63 = .ok (.ior, 1) := by decide +kernel
theorem dX10_namePairs_64 : decode cX10_namePairs 64 = .ok (.istore_n 2, 1) := by decide +kernel
theorem dX10_namePairs_65 : decode cX10_namePairs 65 = .ok (.goto 44, 3) := by decide +kernel
theorem dX10_namePairs_68 : decode cX10_namePairs 68 = .ok (.aload_n 0, 1) := by decide +kernel
theorem dX10_namePairs_69 : decode cX10_namePairs 69 = .ok (.getfield 34, 3) := by decide +kernel
theorem dX10_namePairs_72 : decode cX10_namePairs 72 = .ok (.bipush 9, 2) := by decide +kernel
theorem dX10_namePairs_74 : decode cX10_namePairs 74 = .ok (.if_icmp .ge 35, 3) := by decide +kernel
theorem dX10_namePairs_77 : decode cX10_namePairs 77 = .ok (.aload_n 0, 1) := by decide +kernel
theorem dX10_namePairs_78 : decode cX10_namePairs 78 = .ok (.dup, 1) := by decide +kernel
theorem dX10_namePairs_79 : decode cX10_namePairs 79 = .ok (.getfield 34, 3) := by decide +kernel
theorem dX10_namePairs_82 : decode cX10_namePairs 82 = .ok (.iconst 1, 1) := by decide +kernel
theorem dX10_namePairs_83 : decode cX10_namePairs 83 = .ok (.iadd, 1) := by decide +kernel
theorem dX10_namePairs_84 : decode cX10_namePairs 84 = .ok (.putfield 34, 3) := by decide +kernel
theorem dX10_namePairs_87 : decode cX10_namePairs 87 = .ok (.aload_n 0, 1) := by decide +kernel
theorem dX10_namePairs_88 : decode cX10_namePairs 88 = .ok (.getfield 9, 3) := by decide +kernel
theorem dX10_namePairs_91 : decode cX10_namePairs 91 = .ok (.iload_n 3, 1) := by decide +kernel
theorem dX10_namePairs_92 : decode cX10_namePairs 92 = .ok (.aload_n 0, 1) := by decide +kernel
theorem dX10_namePairs_93 : decode cX10_namePairs 93 = .ok (.getfield 34, 3) := by decide +kernel
theorem dX10_namePairs_96 : decode cX10_namePairs 96 = .ok (.iastore, 1) := by decide +kernel
theorem dX10_namePairs_97 : decode cX10_namePairs 97 = .ok (.aload_n 0, 1) := by decide +kernel
theorem dX10_namePairs_98 : decode cX10_namePairs 98 = .ok (.getfield 9, 3) := by decide +kernel
theorem dX10_namePairs_101 : decode cX10_namePairs 101 = .ok (.iload 4, 2) := by decide +kernel
theorem dX10_namePairs_103 : decode cX10_namePairs 103 = .ok (.aload_n 0, 1) := by decide +kernel
theorem dX10_namePairs_104 : decode cX10_namePairs 104 = .ok (.getfield 34, 3) := by decide +kernel
theorem dX10_namePairs_107 : decode cX10_namePairs 107 = .ok (.ineg, 1) := by decide +kernel
theorem dX10_namePairs_108 : decode cX10_namePairs 108 = .ok (.iastore, 1) := by decide +kernel
theorem dX10_namePairs_109 : decode cX10_namePairs 109 = .ok (.iinc 3 1, 3) := by decide +kernel
theorem dX10_namePairs_112 : decode cX10_namePairs 112 = .ok (.goto (-95), 3) := by decide +kernel
theorem dX10_namePairs_115 : decode cX10_namePairs 115 = .ok (.return_, 1) := by decide +kernel
theorem dX10_writeSums_0 : decode cX10_writeSums 0 = .ok (.aload_n 0, 1) := by decide +kernel
theorem dX10_writeSums_1 : decode cX10_writeSums 1 = .ok (.getfield 15, 3) := by decide +kernel
theorem dX10_writeSums_4 : decode cX10_writeSums 4 = .ok (.lconst 0, 1) := by decide +kernel
theorem dX10_writeSums_5 : decode cX10_writeSums 5 = .ok (.invokestatic 65, 3) := by decide +kernel
theorem dX10_writeSums_8 : decode cX10_writeSums 8 = .ok (.aload_n 0, 1) := by decide +kernel
theorem dX10_writeSums_9 : decode cX10_writeSums 9 = .ok (.iconst 0, 1) := by decide +kernel
theorem dX10_writeSums_10 : decode cX10_writeSums 10 = .ok (.putfield 37, 3) := by decide +kernel
theorem dX10_writeSums_13 : decode cX10_writeSums 13 = .ok (.iconst 0, 1) := by decide +kernel
theorem dX10_writeSums_14 : decode cX10_writeSums 14 = .ok (.istore_n 3, 1) := by decide +kernel
theorem dX10_writeSums_15 : decode cX10_writeSums 15 = .ok (.iload_n 3, 1) := by decide +kernel
theorem dX10_writeSums_16 : decode cX10_writeSums 16 = .ok (.bipush 16, 2) := by decide +kernel
theorem dX10_writeSums_18 : decode cX10_writeSums 18 = .ok (.aload_n 1, 1) := by decide +kernel
theorem dX10_writeSums_19 : decode cX10_writeSums 19 = .ok (.getfield 56, 3) := by decide +kernel
theorem dX10_writeSums_22 : decode cX10_writeSums 22 = .ok (.imul, 1) := by decide +kernel
theorem dX10_writeSums_23 : decode cX10_writeSums 23 = .ok (.if_icmp .ge 59, 3) := by decide +kernel
theorem dX10_writeSums_26 : decode cX10_writeSums 26 = .ok (.aload_n 2, 1) := by decide +kernel
theorem dX10_writeSums_27 : decode cX10_writeSums 27 = .ok (.getfield 68, 3) := by decide +kernel
theorem dX10_writeSums_30 : decode cX10_writeSums 30 = .ok (.iload_n 3, 1) := by decide +kernel
theorem dX10_writeSums_31 : decode cX10_writeSums 31 = .ok (.iaload, 1) := by decide +kernel
theorem dX10_writeSums_32 : decode cX10_writeSums 32 = .ok (.iload_n 3, 1) := by decide +kernel
theorem dX10_writeSums_33 : decode cX10_writeSums 33 = .ok (.if_icmp .ne 43, 3) := by decide +kernel
theorem dX10_writeSums_36 : decode cX10_writeSums 36 = .ok (.aload_n 2, 1) := by decide +kernel
theorem dX10_writeSums_37 : decode cX10_writeSums 37 = .ok (.getfield 73, 3) := by decide +kernel
theorem dX10_writeSums_40 : decode cX10_writeSums 40 = .ok (.iload_n 3, 1) := by decide +kernel
theorem dX10_writeSums_41 : decode cX10_writeSums 41 = .ok (.baload, 1) := by decide +kernel
theorem dX10_writeSums_42 : decode cX10_writeSums 42 = .ok (.ifCond .ne 34, 3) := by decide +kernel
theorem dX10_writeSums_45 : decode cX10_writeSums 45 = .ok (.aload_n 0, 1) := by decide +kernel
theorem dX10_writeSums_46 : decode cX10_writeSums 46 = .ok (.getfield 37, 3) := by decide +kernel
theorem dX10_writeSums_49 : decode cX10_writeSums 49 = .ok (.bipush 48, 2) := by decide +kernel
theorem dX10_writeSums_51 : decode cX10_writeSums 51 = .ok (.if_icmp .ge 25, 3) := by decide +kernel
theorem dX10_writeSums_54 : decode cX10_writeSums 54 = .ok (.aload_n 0, 1) := by decide +kernel
theorem dX10_writeSums_55 : decode cX10_writeSums 55 = .ok (.aload_n 1, 1) := by decide +kernel
theorem dX10_writeSums_56 : decode cX10_writeSums 56 = .ok (.iload_n 3, 1) := by decide +kernel
theorem dX10_writeSums_57 : decode cX10_writeSums 57 = .ok (.aload_n 2, 1) := by decide +kernel
theorem dX10_writeSums_58 : decode cX10_writeSums 58 = .ok (.getfield 77, 3) := by decide +kernel
theorem dX10_writeSums_61 : decode cX10_writeSums 61 = .ok (.iload_n 3, 1) := by decide +kernel
theorem dX10_writeSums_62 : decode cX10_writeSums 62 = .ok (.iaload, 1) := by decide +kernel
theorem dX10_writeSums_63 : decode cX10_writeSums 63 = .ok (.invokevirtual 80, 3) := by decide +kernel
theorem dX10_writeSums_66 : decode cX10_writeSums 66 = .ok (.aload_n 0, 1) := by decide +kernel
theorem dX10_writeSums_67 : decode cX10_writeSums 67 = .ok (.dup, 1) := by decide +kernel
theorem dX10_writeSums_68 : decode cX10_writeSums 68 = .ok (.getfield 37, 3) := by decide +kernel
theorem dX10_writeSums_71 : decode cX10_writeSums 71 = .ok (.iconst 1, 1) := by decide +kernel
theorem dX10_writeSums_72 : decode cX10_writeSums 72 = .ok (.iadd, 1) := by decide +kernel
theorem dX10_writeSums_73 : decode cX10_writeSums 73 = .ok (.putfield 37, 3) := by decide +kernel
theorem dX10_writeSums_76 : decode cX10_writeSums 76 = .ok (.iinc 3 1, 3) := by decide +kernel
theorem dX10_writeSums_79 : decode cX10_writeSums 79 = .ok (.goto (-64), 3) := by decide +kernel
theorem dX10_writeSums_82 : decode cX10_writeSums 82 = .ok (.return_, 1) := by decide +kernel
theorem dX10_goRound_0 : decode cX10_goRound 0 = .ok (.iload_n 2, 1) := by decide +kernel
theorem dX10_goRound_1 : decode cX10_goRound 1 = .ok (.iconst 4, 1) := by decide +kernel
theorem dX10_goRound_2 : decode cX10_goRound 2 = .ok (.ishr, 1) := by decide +kernel
theorem dX10_goRound_3 : decode cX10_goRound 3 = .ok (.istore 4, 2) := by decide +kernel
theorem dX10_goRound_5 : decode cX10_goRound 5 = .ok (.iload_n 2, 1) := by decide +kernel
theorem dX10_goRound_6 : decode cX10_goRound 6 = .ok (.iconst 2, 1) := by decide +kernel
theorem dX10_goRound_7 : decode cX10_goRound 7 = .ok (.ishr, 1) := by decide +kernel
theorem dX10_goRound_8 : decode cX10_goRound 8 = .ok (.iconst 3, 1) := by decide +kernel
theorem dX10_goRound_9 : decode cX10_goRound 9 = .ok (.iand, 1) := by decide +kernel
theorem dX10_goRound_10 : decode cX10_goRound 10 = .ok (.istore 5, 2) := by decide +kernel
theorem dX10_goRound_12 : decode cX10_goRound 12 = .ok (.iload_n 2, 1) := by decide +kernel
theorem dX10_goRound_13 : decode cX10_goRound 13 = .ok (.iconst 3, 1) := by decide +kernel
theorem dX10_goRound_14 : decode cX10_goRound 14 = .ok (.iand, 1) := by decide +kernel
theorem dX10_goRound_15 : decode cX10_goRound 15 = .ok (.istore 6, 2) := by decide +kernel
theorem dX10_goRound_17 : decode cX10_goRound 17 = .ok (.iload 5, 2) := by decide +kernel
theorem dX10_goRound_19 : decode cX10_goRound 19 = .ok (.iload 6, 2) := by decide +kernel
theorem dX10_goRound_21 : decode cX10_goRound 21 = .ok (.invokestatic 84, 3) := by decide +kernel
theorem dX10_goRound_24 : decode cX10_goRound 24 = .ok (.istore 7, 2) := by decide +kernel
theorem dX10_goRound_26 : decode cX10_goRound 26 = .ok (.bipush 6, 2) := by decide +kernel
theorem dX10_goRound_28 : decode cX10_goRound 28 = .ok (.iload 5, 2) := by decide +kernel
theorem dX10_goRound_30 : decode cX10_goRound 30 = .ok (.isub, 1) := by decide +kernel
theorem dX10_goRound_31 : decode cX10_goRound 31 = .ok (.iload 6, 2) := by decide +kernel
theorem dX10_goRound_33 : decode cX10_goRound 33 = .ok (.isub, 1) := by decide +kernel
theorem dX10_goRound_34 : decode cX10_goRound 34 = .ok (.iload 7, 2) := by decide +kernel
theorem dX10_goRound_36 : decode cX10_goRound 36 = .ok (.isub, 1) := by decide +kernel
theorem dX10_goRound_37 : decode cX10_goRound 37 = .ok (.istore 8, 2) := by decide +kernel
theorem dX10_goRound_39 : decode cX10_goRound 39 = .ok (.iconst 0, 1) := by decide +kernel
theorem dX10_goRound_40 : decode cX10_goRound 40 = .ok (.istore 9, 2) := by decide +kernel
theorem dX10_goRound_42 : decode cX10_goRound 42 = .ok (.iload 9, 2) := by decide +kernel
theorem dX10_goRound_44 : decode cX10_goRound 44 = .ok (.iload_n 3, 1) := by decide +kernel
theorem dX10_goRound_45 : decode cX10_goRound 45 = .ok (.if_icmp .ge 124, 3) := by decide +kernel
theorem dX10_goRound_48 : decode cX10_goRound 48 = .ok (.aload_n 1, 1) := by decide +kernel
theorem dX10_goRound_49 : decode cX10_goRound 49 = .ok (.getfield 88, 3) := by decide +kernel
theorem dX10_goRound_52 : decode cX10_goRound 52 = .ok (.iconst 4, 1) := by decide +kernel
theorem dX10_goRound_53 : decode cX10_goRound 53 = .ok (.iload 4, 2) := by decide +kernel
theorem dX10_goRound_55 : decode cX10_goRound 55 = .ok (.imul, 1) := by decide +kernel
theorem dX10_goRound_56 : decode cX10_goRound 56 = .ok (.iload 7, 2) := by decide +kernel
theorem dX10_goRound_58 : decode cX10_goRound 58 = .ok (.iadd, 1) := by decide +kernel
theorem dX10_goRound_59 : decode cX10_goRound 59 = .ok (.iaload, 1) := by decide +kernel
theorem dX10_goRound_60 : decode cX10_goRound 60 = .ok (.istore 10, 2) := by decide +kernel
theorem dX10_goRound_62 : decode cX10_goRound 62 = .ok (.iload 10, 2) := by decide +kernel
theorem dX10_goRound_64 : decode cX10_goRound 64 = .ok (.ifCond .ge 4, 3) := by decide +kernel
theorem dX10_goRound_67 : decode cX10_goRound 67 = .ok (.return_, 1) := by decide +kernel
theorem dX10_goRound_68 : decode cX10_goRound 68 = .ok (.aload_n 0, 1) := by decide +kernel
theorem dX10_goRound_69 : decode cX10_goRound 69 = .ok (.getfield 9, 3) := by decide +kernel
theorem dX10_goRound_72 : decode cX10_goRound 72 = .ok (.iconst 4, 1) := by decide +kernel
theorem dX10_goRound_73 : decode cX10_goRound 73 = .ok (.iload 4, 2) := by decide +kernel
theorem dX10_goRound_75 : decode cX10_goRound 75 = .ok (.imul, 1) := by decide +kernel
theorem dX10_goRound_76 : decode cX10_goRound 76 = .ok (.iload 7, 2) := by decide +kernel
theorem dX10_goRound_78 : decode cX10_goRound 78 = .ok (.iadd, 1) := by decide +kernel
theorem dX10_goRound_79 : decode cX10_goRound 79 = .ok (.iaload, 1) := by decide +kernel
theorem dX10_goRound_80 : decode cX10_goRound 80 = .ok (.istore 11, 2) := by decide +kernel
theorem dX10_goRound_82 : decode cX10_goRound 82 = .ok (.iload 11, 2) := by decide +kernel
theorem dX10_goRound_84 : decode cX10_goRound 84 = .ok (.ifCond .eq 38, 3) := by decide +kernel
theorem dX10_goRound_87 : decode cX10_goRound 87 = .ok (.aload_n 0, 1) := by decide +kernel
theorem dX10_goRound_88 : decode cX10_goRound 88 = .ok (.getfield 15, 3) := by decide +kernel
theorem dX10_goRound_91 : decode cX10_goRound 91 = .ok (.bipush 9, 2) := by decide +kernel
theorem dX10_goRound_93 : decode cX10_goRound 93 = .ok (.aload_n 0, 1) := by decide +kernel
theorem dX10_goRound_94 : decode cX10_goRound 94 = .ok (.getfield 37, 3) := by decide +kernel
theorem dX10_goRound_97 : decode cX10_goRound 97 = .ok (.imul, 1) := by decide +kernel
theorem dX10_goRound_98 : decode cX10_goRound 98 = .ok (.iload 11, 2) := by decide +kernel
theorem dX10_goRound_100 : decode cX10_goRound 100 = .ok (.invokestatic 91, 3) := by decide +kernel
theorem dX10_goRound_103 : decode cX10_goRound 103 = .ok (.iadd, 1) := by decide +kernel
theorem dX10_goRound_104 : decode cX10_goRound 104 = .ok (.iconst 1, 1) := by decide +kernel
theorem dX10_goRound_105 : decode cX10_goRound 105 = .ok (.isub, 1) := by decide +kernel
theorem dX10_goRound_106 : decode cX10_goRound 106 = .ok (.dup2, 1) := by decide +kernel
theorem dX10_goRound_107 : decode cX10_goRound 107 = .ok (.laload, 1) := by decide +kernel
theorem dX10_goRound_108 : decode cX10_goRound 108 = .ok (.iload 11, 2) := by decide +kernel
theorem dX10_goRound_110 : decode cX10_goRound 110 = .ok (.ifCond .le 7, 3) := by decide +kernel
theorem dX10_goRound_113 : decode cX10_goRound 113 = .ok (.lconst 1, 1) := by decide +kernel
theorem dX10_goRound_114 : decode cX10_goRound 114 = .ok (.goto 6, 3) := by decide +kernel
theorem dX10_goRound_117 : decode cX10_goRound 117 = .ok (.ldc2_w 93, 3) := by decide +kernel
theorem dX10_goRound_120 : decode cX10_goRound 120 = .ok (.ladd, 1) := by decide +kernel
theorem dX10_goRound_121 : decode cX10_goRound 121 = .ok (.lastore, 1) := by decide +kernel
theorem dX10_goRound_122 : decode cX10_goRound 122 = .ok (.iload 10, 2) := by decide +kernel
theorem dX10_goRound_124 : decode cX10_goRound 124 = .ok (.iconst 5, 1) := by decide +kernel
theorem dX10_goRound_125 : decode cX10_goRound 125 = .ok (.ishr, 1) := by decide +kernel
theorem dX10_goRound_126 : decode cX10_goRound 126 = .ok (.istore 4, 2) := by decide +kernel
theorem dX10_goRound_128 : decode cX10_goRound 128 = .ok (.iconst 4, 1) := by decide +kernel
theorem dX10_goRound_129 : decode cX10_goRound 129 = .ok (.iload 10, 2) := by decide +kernel
theorem dX10_goRound_131 : decode cX10_goRound 131 = .ok (.bipush 31, 2) := by decide +kernel
theorem dX10_goRound_133 : decode cX10_goRound 133 = .ok (.iand, 1) := by decide +kernel
theorem dX10_goRound_134 : decode cX10_goRound 134 = .ok (.imul, 1) := by decide +kernel
theorem dX10_goRound_135 : decode cX10_goRound 135 = .ok (.istore 12, 2) := by decide +kernel
theorem dX10_goRound_137 : decode cX10_goRound 137 = .ok (.getstatic 95, 3) := by decide +kernel
theorem dX10_goRound_140 : decode cX10_goRound 140 = .ok (.iload 12, 2) := by decide +kernel
theorem dX10_goRound_142 : decode cX10_goRound 142 = .ok (.iload 7, 2) := by decide +kernel
theorem dX10_goRound_144 : decode cX10_goRound 144 = .ok (.iadd, 1) := by decide +kernel
theorem dX10_goRound_145 : decode cX10_goRound 145 = .ok (.iaload, 1) := by decide +kernel
theorem dX10_goRound_146 : decode cX10_goRound 146 = .ok (.istore 13, 2) := by decide +kernel
theorem dX10_goRound_148 : decode cX10_goRound 148 = .ok (.getstatic 95, 3) := by decide +kernel
theorem dX10_goRound_151 : decode cX10_goRound 151 = .ok (.iload 12, 2) := by decide +kernel
theorem dX10_goRound_153 : decode cX10_goRound 153 = .ok (.iload 8, 2) := by decide +kernel
theorem dX10_goRound_155 : decode cX10_goRound 155 = .ok (.iadd, 1) := by decide +kernel
theorem dX10_goRound_156 : decode cX10_goRound 156 = .ok (.iaload, 1) := by decide +kernel
theorem dX10_goRound_157 : decode cX10_goRound 157 = .ok (.istore 7, 2) := by decide +kernel
theorem dX10_goRound_159 : decode cX10_goRound 159 = .ok (.iload 13, 2) := by decide +kernel
theorem dX10_goRound_161 : decode cX10_goRound 161 = .ok (.istore 8, 2) := by decide +kernel
theorem dX10_goRound_163 : decode cX10_goRound 163 = .ok (.iinc 9 1, 3) := by decide +kernel
theorem dX10_goRound_166 : decode cX10_goRound 166 = .ok (.goto (-124), 3) := by decide +kernel
theorem dX10_goRound_169 : decode cX10_goRound 169 = .ok (.return_, 1) := by decide +kernel
theorem dX10_leastBut_0 : decode cX10_leastBut 0 = .ok (.iconst 0, 1) := by decide +kernel
theorem dX10_leastBut_1 : decode cX10_leastBut 1 = .ok (.istore_n 2, 1) := by decide +kernel
theorem dX10_leastBut_2 : decode cX10_leastBut 2 = .ok (.iload_n 2, 1) := by decide +kernel
theorem dX10_leastBut_3 : decode cX10_leastBut 3 = .ok (.iconst 2, 1) := by decide +kernel
theorem dX10_leastBut_4 : decode cX10_leastBut 4 = .ok (.if_icmp .ge 21, 3) := by decide +kernel
theorem dX10_leastBut_7 : decode cX10_leastBut 7 = .ok (.iload_n 2, 1) := by decide +kernel
theorem dX10_leastBut_8 : decode cX10_leastBut 8 = .ok (.iload_n 0, 1) := by decide +kernel
theorem dX10_leastBut_9 : decode cX10_leastBut 9 = .ok (.if_icmp .eq 10, 3) := by decide +kernel
theorem dX10_leastBut_12 : decode cX10_leastBut 12 = .ok (.iload_n 2, 1) := by decide +kernel
theorem dX10_leastBut_13 : decode cX10_leastBut 13 = .ok (.iload_n 1, 1) := by decide +kernel
theorem dX10_leastBut_14 : decode cX10_leastBut 14 = .ok (.if_icmp .eq 5, 3) := by decide +kernel
theorem dX10_leastBut_17 : decode cX10_leastBut 17 = .ok (.iload_n 2, 1) := by decide +kernel
theorem dX10_leastBut_18 : decode cX10_leastBut 18 = .ok (.ireturn, 1) := by decide +kernel
theorem dX10_leastBut_19 : decode cX10_leastBut 19 = .ok (.iinc 2 1, 3) := by decide +kernel
theorem dX10_leastBut_22 : decode cX10_leastBut 22 = .ok (.goto (-20), 3) := by decide +kernel
theorem dX10_leastBut_25 : decode cX10_leastBut 25 = .ok (.iconst 2, 1) := by decide +kernel
theorem dX10_leastBut_26 : decode cX10_leastBut 26 = .ok (.ireturn, 1) := by decide +kernel
theorem dX10_clearCorner_0 : decode cX10_clearCorner 0 = .ok (.iconst 0, 1) := by decide +kernel
theorem dX10_clearCorner_1 : decode cX10_clearCorner 1 = .ok (.istore_n 2, 1) := by decide +kernel
theorem dX10_clearCorner_2 : decode cX10_clearCorner 2 = .ok (.iload_n 2, 1) := by decide +kernel
theorem dX10_clearCorner_3 : decode cX10_clearCorner 3 = .ok (.sipush 10000, 3) := by decide +kernel
theorem dX10_clearCorner_6 : decode cX10_clearCorner 6 = .ok (.if_icmp .ge 58, 3) := by decide +kernel
theorem dX10_clearCorner_9 : decode cX10_clearCorner 9 = .ok (.aload_n 0, 1) := by decide +kernel
theorem dX10_clearCorner_10 : decode cX10_clearCorner 10 = .ok (.iload_n 1, 1) := by decide +kernel
theorem dX10_clearCorner_11 : decode cX10_clearCorner 11 = .ok (.invokevirtual 98, 3) := by decide +kernel
theorem dX10_clearCorner_14 : decode cX10_clearCorner 14 = .ok (.ifCond .ne 5, 3) := by decide +kernel
theorem dX10_clearCorner_17 : decode cX10_clearCorner 17 = .ok (.iconst 0, 1) := by decide +kernel
theorem dX10_clearCorner_18 : decode cX10_clearCorner 18 = .ok (.ireturn, 1) := by decide +kernel
theorem dX10_clearCorner_19 : decode cX10_clearCorner 19 = .ok (.aload_n 0, 1) := by decide +kernel
theorem dX10_clearCorner_20 : decode cX10_clearCorner 20 = .ok (.iload_n 1, 1) := by decide +kernel
theorem dX10_clearCorner_21 : decode cX10_clearCorner 21 = .ok (.invokevirtual 101, 3) := by decide +kernel
theorem dX10_clearCorner_24 : decode cX10_clearCorner 24 = .ok (.aload_n 0, 1) := by decide +kernel
theorem dX10_clearCorner_25 : decode cX10_clearCorner 25 = .ok (.iload_n 1, 1) := by decide +kernel
theorem dX10_clearCorner_26 : decode cX10_clearCorner 26 = .ok (.invokevirtual 105, 3) := by decide +kernel
theorem dX10_clearCorner_29 : decode cX10_clearCorner 29 = .ok (.aload_n 0, 1) := by decide +kernel
theorem dX10_clearCorner_30 : decode cX10_clearCorner 30 = .ok (.iload_n 1, 1) := by decide +kernel
theorem dX10_clearCorner_31 : decode cX10_clearCorner 31 = .ok (.invokevirtual 108, 3) := by decide +kernel
theorem dX10_clearCorner_34 : decode cX10_clearCorner 34 = .ok (.ifCond .ne 6, 3) := by decide +kernel
theorem dX10_clearCorner_37 : decode cX10_clearCorner 37 = .ok (.goto 21, 3) := by decide +kernel
theorem dX10_clearCorner_40 : decode cX10_clearCorner 40 = .ok (.aload_n 0, 1) := by decide +kernel
theorem dX10_clearCorner_41 : decode cX10_clearCorner 41 = .ok (.iload_n 1, 1) := by decide +kernel
theorem dX10_clearCorner_42 : decode cX10_clearCorner 42 = .ok (.invokevirtual 111, 3) := by decide +kernel
theorem dX10_clearCorner_45 : decode cX10_clearCorner 45 = .ok (.istore_n 3, 1) := by decide +kernel
theorem dX10_clearCorner_46 : decode cX10_clearCorner 46 = .ok (.iload_n 3, 1) := by decide +kernel
theorem dX10_clearCorner_47 : decode cX10_clearCorner 47 = .ok (.ifCond .ge 5, 3) := by decide +kernel
theorem dX10_clearCorner_50 : decode cX10_clearCorner 50 = .ok (.iconst 1, 1) := by decide +kernel
theorem dX10_clearCorner_51 : decode cX10_clearCorner 51 = .ok (.ireturn, 1) := by decide +kernel
theorem dX10_clearCorner_52 : decode cX10_clearCorner 52 = .ok (.aload_n 0, 1) := by decide +kernel
theorem dX10_clearCorner_53 : decode cX10_clearCorner 53 = .ok (.iload_n 3, 1) := by decide +kernel
theorem dX10_clearCorner_54 : decode cX10_clearCorner 54 = .ok (.iload_n 1, 1) := by decide +kernel
theorem dX10_clearCorner_55 : decode cX10_clearCorner 55 = .ok (.invokevirtual 114, 3) := by decide +kernel
theorem dX10_clearCorner_58 : decode cX10_clearCorner 58 = .ok (.iinc 2 1, 3) := by decide +kernel
theorem dX10_clearCorner_61 : decode cX10_clearCorner 61 = .ok (.goto (-59), 3) := by decide +kernel
theorem dX10_clearCorner_64 : decode cX10_clearCorner 64 = .ok (.iconst 1, 1) := by decide +kernel
theorem dX10_clearCorner_65 : decode cX10_clearCorner 65 = .ok (.ireturn, 1) := by decide +kernel
theorem dX10_bringLeast_0 : decode cX10_bringLeast 0 = .ok (.iconst (-1), 1) := by decide +kernel
theorem dX10_bringLeast_1 : decode cX10_bringLeast 1 = .ok (.istore_n 2, 1) := by decide +kernel
theorem dX10_bringLeast_2 : decode cX10_bringLeast 2 = .ok (.iconst (-1), 1) := by decide +kernel
theorem dX10_bringLeast_3 : decode cX10_bringLeast 3 = .ok (.istore_n 3, 1) := by decide +kernel
theorem dX10_bringLeast_4 : decode cX10_bringLeast 4 = .ok (.lconst 0, 1) := by decide +kernel
theorem dX10_bringLeast_5 : decode cX10_bringLeast 5 = .ok (.lstore 4, 2) := by decide +kernel
theorem dX10_bringLeast_7 : decode cX10_bringLeast 7 = .ok (.iload_n 1, 1) := by decide +kernel
theorem dX10_bringLeast_8 : decode cX10_bringLeast 8 = .ok (.istore 6, 2) := by decide +kernel
theorem dX10_bringLeast_10 : decode cX10_bringLeast 10 = .ok (.iload 6, 2) := by decide +kernel
theorem dX10_bringLeast_12 : decode cX10_bringLeast 12 = .ok (.aload_n 0, 1) := by decide +kernel
theorem dX10_bringLeast_13 : decode cX10_bringLeast 13 = .ok (.getfield 37, 3) := by decide +kernel
theorem dX10_bringLeast_16 : decode cX10_bringLeast 16 = .ok (.if_icmp .ge 74, 3) := by decide +kernel
theorem dX10_bringLeast_19 : decode cX10_bringLeast 19 = .ok (.iload_n 1, 1) := by decide +kernel
theorem dX10_bringLeast_20 : decode cX10_bringLeast 20 = .ok (.istore 7, 2) := by decide +kernel
theorem dX10_bringLeast_22 : decode cX10_bringLeast 22 = .ok (.iload 7, 2) := by decide +kernel
theorem dX10_bringLeast_24 : decode cX10_bringLeast 24 = .ok (.aload_n 0, 1) := by decide +kernel
theorem dX10_bringLeast_25 : decode cX10_bringLeast 25 = .ok (.getfield 34, 3) := by decide +kernel
theorem dX10_bringLeast_28 : decode cX10_bringLeast 28 = .ok (.if_icmp .ge 56, 3) := by decide +kernel
theorem dX10_bringLeast_31 : decode cX10_bringLeast 31 = .ok (.aload_n 0, 1) := by decide +kernel
theorem dX10_bringLeast_32 : decode cX10_bringLeast 32 = .ok (.getfield 15, 3) := by decide +kernel
theorem dX10_bringLeast_35 : decode cX10_bringLeast 35 = .ok (.bipush 9, 2) := by decide +kernel
theorem dX10_bringLeast_37 : decode cX10_bringLeast 37 = .ok (.iload 6, 2) := by decide +kernel
theorem dX10_bringLeast_39 : decode cX10_bringLeast 39 = .ok (.imul, 1) := by decide +kernel
theorem dX10_bringLeast_40 : decode cX10_bringLeast 40 = .ok (.iload 7, 2) := by decide +kernel
theorem dX10_bringLeast_42 : decode cX10_bringLeast 42 = .ok (.iadd, 1) := by decide +kernel
theorem dX10_bringLeast_43 : decode cX10_bringLeast 43 = .ok (.laload, 1) := by decide +kernel
theorem dX10_bringLeast_44 : decode cX10_bringLeast 44 = .ok (.invokestatic 44, 3) := by decide +kernel
theorem dX10_bringLeast_47 : decode cX10_bringLeast 47 = .ok (.lstore 8, 2) := by decide +kernel
theorem dX10_bringLeast_49 : decode cX10_bringLeast 49 = .ok (.lload 8, 2) := by decide +kernel
theorem dX10_bringLeast_51 : decode cX10_bringLeast 51 = .ok (.lconst 0, 1) := by decide +kernel
theorem dX10_bringLeast_52 : decode cX10_bringLeast 52 = .ok (.lcmp, 1) := by decide +kernel
theorem dX10_bringLeast_53 : decode cX10_bringLeast 53 = .ok (.ifCond .eq 25, 3) := by decide +kernel
theorem dX10_bringLeast_56 : decode cX10_bringLeast 56 = .ok (.iload_n 2, 1) := by decide +kernel
theorem dX10_bringLeast_57 : decode cX10_bringLeast 57 = .ok (.ifCond .lt 11, 3) := by decide +kernel
theorem dX10_bringLeast_60 : decode cX10_bringLeast 60 = .ok (.lload 8, 2) := by decide +kernel
theorem dX10_bringLeast_62 : decode cX10_bringLeast 62 = .ok (.lload 4, 2) := by decide +kernel
theorem dX10_bringLeast_64 : decode cX10_bringLeast 64 = .ok (.lcmp, 1) := by decide +kernel
theorem dX10_bringLeast_65 : decode cX10_bringLeast 65 = .ok (.ifCond .ge 13, 3) := by decide +kernel
theorem dX10_bringLeast_68 : decode cX10_bringLeast 68 = .ok (.lload 8, 2) := by decide +kernel
theorem dX10_bringLeast_70 : decode cX10_bringLeast 70 = .ok (.lstore 4, 2) := by decide +kernel
theorem dX10_bringLeast_72 : decode cX10_bringLeast 72 = .ok (.iload 6, 2) := by decide +kernel
theorem dX10_bringLeast_74 : decode cX10_bringLeast 74 = .ok (.istore_n 2, 1) := by decide +kernel
theorem dX10_bringLeast_75 : decode cX10_bringLeast 75 = .ok (.iload 7, 2) := by decide +kernel
theorem dX10_bringLeast_77 : decode cX10_bringLeast 77 = .ok (.istore_n 3, 1) := by decide +kernel
theorem dX10_bringLeast_78 : decode cX10_bringLeast 78 = .ok (.iinc 7 1, 3) := by decide +kernel
theorem dX10_bringLeast_81 : decode cX10_bringLeast 81 = .ok (.goto (-59), 3) := by decide +kernel
theorem dX10_bringLeast_84 : decode cX10_bringLeast 84 = .ok (.iinc 6 1, 3) := by decide +kernel
theorem dX10_bringLeast_87 : decode cX10_bringLeast 87 = .ok (.goto (-77), 3) := by decide +kernel
theorem dX10_bringLeast_90 : decode cX10_bringLeast 90 = .ok (.iload_n 2, 1) := by decide +kernel
theorem dX10_bringLeast_91 : decode cX10_bringLeast 91 = .ok (.ifCond .ge 5, 3) := by decide +kernel
theorem dX10_bringLeast_94 : decode cX10_bringLeast 94 = .ok (.iconst 0, 1) := by decide +kernel
theorem dX10_bringLeast_95 : decode cX10_bringLeast 95 = .ok (.ireturn, 1) := by decide +kernel
theorem dX10_bringLeast_96 : decode cX10_bringLeast 96 = .ok (.iconst 0, 1) := by decide +kernel
theorem dX10_bringLeast_97 : decode cX10_bringLeast 97 = .ok (.istore 6, 2) := by decide +kernel
theorem dX10_bringLeast_99 : decode cX10_bringLeast 99 = .ok (.iload 6, 2) := by decide +kernel
theorem dX10_bringLeast_101 : decode cX10_bringLeast 101 = .ok (.aload_n 0, 1) := by decide +kernel
theorem dX10_bringLeast_102 : decode cX10_bringLeast 102 = .ok (.getfield 34, 3) := by decide +kernel
theorem dX10_bringLeast_105 : decode cX10_bringLeast 105 = .ok (.if_icmp .ge 27, 3) := by decide +kernel
theorem dX10_bringLeast_108 : decode cX10_bringLeast 108 = .ok (.aload_n 0, 1) := by decide +kernel
theorem dX10_bringLeast_109 : decode cX10_bringLeast 109 = .ok (.bipush 9, 2) := by decide +kernel
theorem dX10_bringLeast_111 : decode cX10_bringLeast 111 = .ok (.iload_n 1, 1) := by decide +kernel
theorem dX10_bringLeast_112 : decode cX10_bringLeast 112 = .ok (.imul, 1) := by decide +kernel
theorem dX10_bringLeast_113 : decode cX10_bringLeast 113 = .ok (.iload 6, 2) := by decide +kernel
theorem dX10_bringLeast_115 : decode cX10_bringLeast 115 = .ok (.iadd, 1) := by decide +kernel
theorem dX10_bringLeast_116 : decode cX10_bringLeast 116 = .ok (.bipush 9, 2) := by decide +kernel
theorem dX10_bringLeast_118 : decode cX10_bringLeast 118 = .ok (.iload_n 2, 1) := by decide +kernel
theorem dX10_bringLeast_119 : decode cX10_bringLeast 119 = .ok (.imul, 1) := by decide +kernel
theorem dX10_bringLeast_120 : decode cX10_bringLeast 120 = .ok (.iload 6, 2) := by decide +kernel
theorem dX10_bringLeast_122 : decode cX10_bringLeast 122 = .ok (.iadd, 1) := by decide +kernel
theorem dX10_bringLeast_123 : decode cX10_bringLeast 123 = .ok (.invokevirtual 118, 3) := by decide +kernel
theorem dX10_bringLeast_126 : decode cX10_bringLeast 126 = .ok (.iinc 6 1, 3) := by decide +kernel
theorem dX10_bringLeast_129 : decode cX10_bringLeast 129 = .ok (.goto (-30), 3) := by decide +kernel
theorem dX10_bringLeast_132 : decode cX10_bringLeast 132 = .ok (.iconst 0, 1) := by decide +kernel
theorem dX10_bringLeast_133 : decode cX10_bringLeast 133 = .ok (.istore 6, 2) := by decide +kernel
theorem dX10_bringLeast_135 : decode cX10_bringLeast 135 = .ok (.iload 6, 2) := by decide +kernel
theorem dX10_bringLeast_137 : decode cX10_bringLeast 137 = .ok (.aload_n 0, 1) := by decide +kernel
theorem dX10_bringLeast_138 : decode cX10_bringLeast 138 = .ok (.getfield 37, 3) := by decide +kernel
theorem dX10_bringLeast_141 : decode cX10_bringLeast 141 = .ok (.if_icmp .ge 27, 3) := by decide +kernel
theorem dX10_bringLeast_144 : decode cX10_bringLeast 144 = .ok (.aload_n 0, 1) := by decide +kernel
theorem dX10_bringLeast_145 : decode cX10_bringLeast 145 = .ok (.bipush 9, 2) := by decide +kernel
theorem dX10_bringLeast_147 : decode cX10_bringLeast 147 = .ok (.iload 6, 2) := by decide +kernel
theorem dX10_bringLeast_149 : decode cX10_bringLeast 149 = .ok (.imul, 1) := by decide +kernel
theorem dX10_bringLeast_150 : decode cX10_bringLeast 150 = .ok (.iload_n 1, 1) := by decide +kernel
theorem dX10_bringLeast_151 : decode cX10_bringLeast 151 = .ok (.iadd, 1) := by decide +kernel
theorem dX10_bringLeast_152 : decode cX10_bringLeast 152 = .ok (.bipush 9, 2) := by decide +kernel
theorem dX10_bringLeast_154 : decode cX10_bringLeast 154 = .ok (.iload 6, 2) := by decide +kernel
theorem dX10_bringLeast_156 : decode cX10_bringLeast 156 = .ok (.imul, 1) := by decide +kernel
theorem dX10_bringLeast_157 : decode cX10_bringLeast 157 = .ok (.iload_n 3, 1) := by decide +kernel
theorem dX10_bringLeast_158 : decode cX10_bringLeast 158 = .ok (.iadd, 1) := by decide +kernel
theorem dX10_bringLeast_159 : decode cX10_bringLeast 159 = .ok (.invokevirtual 118, 3) := by decide +kernel
theorem dX10_bringLeast_162 : decode cX10_bringLeast 162 = .ok (.iinc 6 1, 3) := by decide +kernel
theorem dX10_bringLeast_165 : decode cX10_bringLeast 165 = .ok (.goto (-30), 3) := by decide +kernel
theorem dX10_bringLeast_168 : decode cX10_bringLeast 168 = .ok (.iconst 1, 1) := by decide +kernel
theorem dX10_bringLeast_169 : decode cX10_bringLeast 169 = .ok (.ireturn, 1) := by decide +kernel
theorem dX10_trade_0 : decode cX10_trade 0 = .ok (.aload_n 0, 1) := by decide +kernel
theorem dX10_trade_1 : decode cX10_trade 1 = .ok (.getfield 15, 3) := by decide +kernel
theorem dX10_trade_4 : decode cX10_trade 4 = .ok (.iload_n 1, 1) := by decide +kernel
theorem dX10_trade_5 : decode cX10_trade 5 = .ok (.laload, 1) := by decide +kernel
theorem dX10_trade_6 : decode cX10_trade 6 = .ok (.lstore_n 3, 1) := by decide +kernel
theorem dX10_trade_7 : decode cX10_trade 7 = .ok (.aload_n 0, 1) := by decide +kernel
theorem dX10_trade_8 : decode cX10_trade 8 = .ok (.getfield 15, 3) := by decide +kernel
theorem dX10_trade_11 : decode cX10_trade 11 = .ok (.iload_n 1, 1) := by decide +kernel
theorem dX10_trade_12 : decode cX10_trade 12 = .ok (.aload_n 0, 1) := by decide +kernel
theorem dX10_trade_13 : decode cX10_trade 13 = .ok (.getfield 15, 3) := by decide +kernel
theorem dX10_trade_16 : decode cX10_trade 16 = .ok (.iload_n 2, 1) := by decide +kernel
theorem dX10_trade_17 : decode cX10_trade 17 = .ok (.laload, 1) := by decide +kernel
theorem dX10_trade_18 : decode cX10_trade 18 = .ok (.lastore, 1) := by decide +kernel
theorem dX10_trade_19 : decode cX10_trade 19 = .ok (.aload_n 0, 1) := by decide +kernel
theorem dX10_trade_20 : decode cX10_trade 20 = .ok (.getfield 15, 3) := by decide +kernel
theorem dX10_trade_23 : decode cX10_trade 23 = .ok (.iload_n 2, 1) := by decide +kernel
theorem dX10_trade_24 : decode cX10_trade 24 = .ok (.lload_n 3, 1) := by decide +kernel
theorem dX10_trade_25 : decode cX10_trade 25 = .ok (.lastore, 1) := by decide +kernel
theorem dX10_trade_26 : decode cX10_trade 26 = .ok (.return_, 1) := by decide +kernel
theorem dX10_reduceRows_0 : decode cX10_reduceRows 0 = .ok (.aload_n 0, 1) := by decide +kernel
theorem dX10_reduceRows_1 : decode cX10_reduceRows 1 = .ok (.getfield 15, 3) := by decide +kernel
theorem dX10_reduceRows_4 : decode cX10_reduceRows 4 = .ok (.bipush 9, 2) := by decide +kernel
theorem dX10_reduceRows_6 : decode cX10_reduceRows 6 = .ok (.iload_n 1, 1) := by decide +kernel
theorem dX10_reduceRows_7 : decode cX10_reduceRows 7 = .ok (.imul, 1) := by decide +kernel
theorem dX10_reduceRows_8 : decode cX10_reduceRows 8 = .ok (.iload_n 1, 1) := by decide +kernel
theorem dX10_reduceRows_9 : decode cX10_reduceRows 9 = .ok (.iadd, 1) := by decide +kernel
theorem dX10_reduceRows_10 : decode cX10_reduceRows 10 = .ok (.laload, 1) := by decide +kernel
theorem dX10_reduceRows_11 : decode cX10_reduceRows 11 = .ok (.lstore_n 2, 1) := by decide +kernel
theorem dX10_reduceRows_12 : decode cX10_reduceRows 12 = .ok (.iload_n 1, 1) := by decide +kernel
theorem dX10_reduceRows_13 : decode cX10_reduceRows 13 = .ok (.iconst 1, 1) := by decide +kernel
theorem dX10_reduceRows_14 : decode cX10_reduceRows 14 = .ok (.iadd, 1) := by decide +kernel
theorem dX10_reduceRows_15 : decode cX10_reduceRows 15 = .ok (.istore 4, 2) := by decide +kernel
theorem dX10_reduceRows_17 : decode cX10_reduceRows 17 = .ok (.iload 4, 2) := by decide +kernel
theorem dX10_reduceRows_19 : decode cX10_reduceRows 19 = .ok (.aload_n 0, 1) := by decide +kernel
theorem dX10_reduceRows_20 : decode cX10_reduceRows 20 = .ok (.getfield 37, 3) := by decide +kernel
theorem dX10_reduceRows_23 : decode cX10_reduceRows 23 = .ok (.if_icmp .ge 87, 3) := by decide +kernel
theorem dX10_reduceRows_26 : decode cX10_reduceRows 26 = .ok (.lload_n 2, 1) := by decide +kernel
theorem dX10_reduceRows_27 : decode cX10_reduceRows 27 = .ok (.lconst 0, 1) := by decide +kernel
theorem dX10_reduceRows_28 : decode cX10_reduceRows 28 = .ok (.lcmp, 1) := by decide +kernel
theorem dX10_reduceRows_29 : decode cX10_reduceRows 29 = .ok (.ifCond .eq 81, 3) := by decide +kernel
theorem dX10_reduceRows_32 : decode cX10_reduceRows 32 = .ok (.aload_n 0, 1) := by decide +kernel
theorem dX10_reduceRows_33 : decode cX10_reduceRows 33 = .ok (.getfield 15, 3) := by decide +kernel
theorem dX10_reduceRows_36 : decode cX10_reduceRows 36 = .ok (.bipush 9, 2) := by decide +kernel
theorem dX10_reduceRows_38 : decode cX10_reduceRows 38 = .ok (.iload 4, 2) := by decide +kernel
theorem dX10_reduceRows_40 : decode cX10_reduceRows 40 = .ok (.imul, 1) := by decide +kernel
theorem dX10_reduceRows_41 : decode cX10_reduceRows 41 = .ok (.iload_n 1, 1) := by decide +kernel
theorem dX10_reduceRows_42 : decode cX10_reduceRows 42 = .ok (.iadd, 1) := by decide +kernel
theorem dX10_reduceRows_43 : decode cX10_reduceRows 43 = .ok (.laload, 1) := by decide +kernel
theorem dX10_reduceRows_44 : decode cX10_reduceRows 44 = .ok (.lload_n 2, 1) := by decide +kernel
theorem dX10_reduceRows_45 : decode cX10_reduceRows 45 = .ok (.ldiv, 1) := by decide +kernel
theorem dX10_reduceRows_46 : decode cX10_reduceRows 46 = .ok (.lstore 5, 2) := by decide +kernel
theorem dX10_reduceRows_48 : decode cX10_reduceRows 48 = .ok (.iload_n 1, 1) := by decide +kernel
theorem dX10_reduceRows_49 : decode cX10_reduceRows 49 = .ok (.istore 7, 2) := by decide +kernel
theorem dX10_reduceRows_51 : decode cX10_reduceRows 51 = .ok (.iload 7, 2) := by decide +kernel
theorem dX10_reduceRows_53 : decode cX10_reduceRows 53 = .ok (.aload_n 0, 1) := by decide +kernel
theorem dX10_reduceRows_54 : decode cX10_reduceRows 54 = .ok (.getfield 34, 3) := by decide +kernel
theorem dX10_reduceRows_57 : decode cX10_reduceRows 57 = .ok (.if_icmp .ge 47, 3) := by decide +kernel
theorem dX10_reduceRows_60 : decode cX10_reduceRows 60 = .ok (.lload 5, 2) := by decide +kernel
theorem dX10_reduceRows_62 : decode cX10_reduceRows 62 = .ok (.lconst 0, 1) := by decide +kernel
theorem dX10_reduceRows_63 : decode cX10_reduceRows 63 = .ok (.lcmp, 1) := by decide +kernel
theorem dX10_reduceRows_64 : decode cX10_reduceRows 64 = .ok (.ifCond .eq 40, 3) := by decide +kernel
theorem dX10_reduceRows_67 : decode cX10_reduceRows 67 = .ok (.aload_n 0, 1) := by decide +kernel
theorem dX10_reduceRows_68 : decode cX10_reduceRows 68 = .ok (.getfield 15, 3) := by decide +kernel
theorem dX10_reduceRows_71 : decode cX10_reduceRows 71 = .ok (.bipush 9, 2) := by decide +kernel
theorem dX10_reduceRows_73 : decode cX10_reduceRows 73 = .ok (.iload 4, 2) := by decide +kernel
theorem dX10_reduceRows_75 : decode cX10_reduceRows 75 = .ok (.imul, 1) := by decide +kernel
theorem dX10_reduceRows_76 : decode cX10_reduceRows 76 = .ok (.iload 7, 2) := by decide +kernel
theorem dX10_reduceRows_78 : decode cX10_reduceRows 78 = .ok (.iadd, 1) := by decide +kernel
theorem dX10_reduceRows_79 : decode cX10_reduceRows 79 = .ok (.dup2, 1) := by decide +kernel
theorem dX10_reduceRows_80 : decode cX10_reduceRows 80 = .ok (.laload, 1) := by decide +kernel
theorem dX10_reduceRows_81 : decode cX10_reduceRows 81 = .ok (.lload 5, 2) := by decide +kernel
theorem dX10_reduceRows_83 : decode cX10_reduceRows 83 = .ok (.aload_n 0, 1) := by decide +kernel
theorem dX10_reduceRows_84 : decode cX10_reduceRows 84 = .ok (.getfield 15, 3) := by decide +kernel
theorem dX10_reduceRows_87 : decode cX10_reduceRows 87 = .ok (.bipush 9, 2) := by decide +kernel
theorem dX10_reduceRows_89 : decode cX10_reduceRows 89 = .ok (.iload_n 1, 1) := by decide +kernel
theorem dX10_reduceRows_90 : decode cX10_reduceRows 90 = .ok (.imul, 1) := by decide +kernel
theorem dX10_reduceRows_91 : decode cX10_reduceRows 91 = .ok (.iload 7, 2) := by decide +kernel
theorem dX10_reduceRows_93 : decode cX10_reduceRows 93 = .ok (.iadd, 1) := by decide +kernel
theorem dX10_reduceRows_94 : decode cX10_reduceRows 94 = .ok (.laload, 1) := by decide +kernel
theorem dX10_reduceRows_95 : decode cX10_reduceRows 95 = .ok (.lmul, 1) := by decide +kernel
theorem dX10_reduceRows_96 : decode cX10_reduceRows 96 = .ok (.lsub, 1) := by decide +kernel
theorem dX10_reduceRows_97 : decode cX10_reduceRows 97 = .ok (.lastore, 1) := by decide +kernel
theorem dX10_reduceRows_98 : decode cX10_reduceRows 98 = .ok (.iinc 7 1, 3) := by decide +kernel
theorem dX10_reduceRows_101 : decode cX10_reduceRows 101 = .ok (.goto (-50), 3) := by decide +kernel
theorem dX10_reduceRows_104 : decode cX10_reduceRows 104 = .ok (.iinc 4 1, 3) := by decide +kernel
theorem dX10_reduceRows_107 : decode cX10_reduceRows 107 = .ok (.goto (-90), 3) := by decide +kernel
theorem dX10_reduceRows_110 : decode cX10_reduceRows 110 = .ok (.return_, 1) := by decide +kernel
theorem dX10_reduceColumns_0 : decode cX10_reduceColumns 0 = .ok (.aload_n 0, 1) := by decide +kernel
theorem dX10_reduceColumns_1 : decode cX10_reduceColumns 1 = .ok (.getfield 15, 3) := by decide +kernel
theorem dX10_reduceColumns_4 : decode cX10_reduceColumns 4 = .ok (.bipush 9, 2) := by decide +kernel
theorem dX10_reduceColumns_6 : decode cX10_reduceColumns 6 = .ok (.iload_n 1, 1) := by decide +kernel
theorem dX10_reduceColumns_7 : decode cX10_reduceColumns 7 = .ok (.imul, 1) := by decide +kernel
theorem dX10_reduceColumns_8 : decode cX10_reduceColumns 8 = .ok (.iload_n 1, 1) := by decide +kernel
theorem dX10_reduceColumns_9 : decode cX10_reduceColumns 9 = .ok (.iadd, 1) := by decide +kernel
theorem dX10_reduceColumns_10 : decode cX10_reduceColumns 10 = .ok (.laload, 1) := by decide +kernel
theorem dX10_reduceColumns_11 : decode cX10_reduceColumns 11 = .ok (.lstore_n 2, 1) := by decide +kernel
theorem dX10_reduceColumns_12 : decode cX10_reduceColumns 12 = .ok (.iload_n 1, 1) := by decide +kernel
theorem dX10_reduceColumns_13 : decode cX10_reduceColumns 13 = .ok (.iconst 1, 1) := by decide +kernel
theorem dX10_reduceColumns_14 : decode cX10_reduceColumns 14 = .ok (.iadd, 1) := by decide +kernel
theorem dX10_reduceColumns_15 : decode cX10_reduceColumns 15 = .ok (.istore 4, 2) := by decide +kernel
theorem dX10_reduceColumns_17 : decode cX10_reduceColumns 17 = .ok (.iload 4, 2) := by decide +kernel
theorem dX10_reduceColumns_19 : decode cX10_reduceColumns 19 = .ok (.aload_n 0, 1) := by decide +kernel
theorem dX10_reduceColumns_20 : decode cX10_reduceColumns 20 = .ok (.getfield 34, 3) := by decide +kernel
theorem dX10_reduceColumns_23 : decode cX10_reduceColumns 23 = .ok (.if_icmp .ge 87, 3) := by decide +kernel
theorem dX10_reduceColumns_26 : decode cX10_reduceColumns 26 = .ok (.lload_n 2, 1) := by decide +kernel
theorem dX10_reduceColumns_27 : decode cX10_reduceColumns 27 = .ok (.lconst 0, 1) := by decide +kernel
theorem dX10_reduceColumns_28 : decode cX10_reduceColumns 28 = .ok (.lcmp, 1) := by decide +kernel
theorem dX10_reduceColumns_29 : decode cX10_reduceColumns 29 = .ok (.ifCond .eq 81, 3) := by decide +kernel
theorem dX10_reduceColumns_32 : decode cX10_reduceColumns 32 = .ok (.aload_n 0, 1) := by decide +kernel
theorem dX10_reduceColumns_33 : decode cX10_reduceColumns 33 = .ok (.getfield 15, 3) := by decide +kernel
theorem dX10_reduceColumns_36 : decode cX10_reduceColumns 36 = .ok (.bipush 9, 2) := by decide +kernel
theorem dX10_reduceColumns_38 : decode cX10_reduceColumns 38 = .ok (.iload_n 1, 1) := by decide +kernel
theorem dX10_reduceColumns_39 : decode cX10_reduceColumns 39 = .ok (.imul, 1) := by decide +kernel
theorem dX10_reduceColumns_40 : decode cX10_reduceColumns 40 = .ok (.iload 4, 2) := by decide +kernel
theorem dX10_reduceColumns_42 : decode cX10_reduceColumns 42 = .ok (.iadd, 1) := by decide +kernel
theorem dX10_reduceColumns_43 : decode cX10_reduceColumns 43 = .ok (.laload, 1) := by decide +kernel
theorem dX10_reduceColumns_44 : decode cX10_reduceColumns 44 = .ok (.lload_n 2, 1) := by decide +kernel
theorem dX10_reduceColumns_45 : decode cX10_reduceColumns 45 = .ok (.ldiv, 1) := by decide +kernel
theorem dX10_reduceColumns_46 : decode cX10_reduceColumns 46 = .ok (.lstore 5, 2) := by decide +kernel
theorem dX10_reduceColumns_48 : decode cX10_reduceColumns 48 = .ok (.iload_n 1, 1) := by decide +kernel
theorem dX10_reduceColumns_49 : decode cX10_reduceColumns 49 = .ok (.istore 7, 2) := by decide +kernel
theorem dX10_reduceColumns_51 : decode cX10_reduceColumns 51 = .ok (.iload 7, 2) := by decide +kernel
theorem dX10_reduceColumns_53 : decode cX10_reduceColumns 53 = .ok (.aload_n 0, 1) := by decide +kernel
theorem dX10_reduceColumns_54 : decode cX10_reduceColumns 54 = .ok (.getfield 37, 3) := by decide +kernel
theorem dX10_reduceColumns_57 : decode cX10_reduceColumns 57 = .ok (.if_icmp .ge 47, 3) := by decide +kernel
theorem dX10_reduceColumns_60 : decode cX10_reduceColumns 60 = .ok (.lload 5, 2) := by decide +kernel
theorem dX10_reduceColumns_62 : decode cX10_reduceColumns 62 = .ok (.lconst 0, 1) := by decide +kernel
theorem dX10_reduceColumns_63 : decode cX10_reduceColumns 63 = .ok (.lcmp, 1) := by decide +kernel
theorem dX10_reduceColumns_64 : decode cX10_reduceColumns 64 = .ok (.ifCond .eq 40, 3) := by decide +kernel
theorem dX10_reduceColumns_67 : decode cX10_reduceColumns 67 = .ok (.aload_n 0, 1) := by decide +kernel
theorem dX10_reduceColumns_68 : decode cX10_reduceColumns 68 = .ok (.getfield 15, 3) := by decide +kernel
theorem dX10_reduceColumns_71 : decode cX10_reduceColumns 71 = .ok (.bipush 9, 2) := by decide +kernel
theorem dX10_reduceColumns_73 : decode cX10_reduceColumns 73 = .ok (.iload 7, 2) := by decide +kernel
theorem dX10_reduceColumns_75 : decode cX10_reduceColumns 75 = .ok (.imul, 1) := by decide +kernel
theorem dX10_reduceColumns_76 : decode cX10_reduceColumns 76 = .ok (.iload 4, 2) := by decide +kernel
theorem dX10_reduceColumns_78 : decode cX10_reduceColumns 78 = .ok (.iadd, 1) := by decide +kernel
theorem dX10_reduceColumns_79 : decode cX10_reduceColumns 79 = .ok (.dup2, 1) := by decide +kernel
theorem dX10_reduceColumns_80 : decode cX10_reduceColumns 80 = .ok (.laload, 1) := by decide +kernel
theorem dX10_reduceColumns_81 : decode cX10_reduceColumns 81 = .ok (.lload 5, 2) := by decide +kernel
theorem dX10_reduceColumns_83 : decode cX10_reduceColumns 83 = .ok (.aload_n 0, 1) := by decide +kernel
theorem dX10_reduceColumns_84 : decode cX10_reduceColumns 84 = .ok (.getfield 15, 3) := by decide +kernel
theorem dX10_reduceColumns_87 : decode cX10_reduceColumns 87 = .ok (.bipush 9, 2) := by decide +kernel
theorem dX10_reduceColumns_89 : decode cX10_reduceColumns 89 = .ok (.iload 7, 2) := by decide +kernel
theorem dX10_reduceColumns_91 : decode cX10_reduceColumns 91 = .ok (.imul, 1) := by decide +kernel
theorem dX10_reduceColumns_92 : decode cX10_reduceColumns 92 = .ok (.iload_n 1, 1) := by decide +kernel
theorem dX10_reduceColumns_93 : decode cX10_reduceColumns 93 = .ok (.iadd, 1) := by decide +kernel
theorem dX10_reduceColumns_94 : decode cX10_reduceColumns 94 = .ok (.laload, 1) := by decide +kernel
theorem dX10_reduceColumns_95 : decode cX10_reduceColumns 95 = .ok (.lmul, 1) := by decide +kernel
theorem dX10_reduceColumns_96 : decode cX10_reduceColumns 96 = .ok (.lsub, 1) := by decide +kernel
theorem dX10_reduceColumns_97 : decode cX10_reduceColumns 97 = .ok (.lastore, 1) := by decide +kernel
theorem dX10_reduceColumns_98 : decode cX10_reduceColumns 98 = .ok (.iinc 7 1, 3) := by decide +kernel
theorem dX10_reduceColumns_101 : decode cX10_reduceColumns 101 = .ok (.goto (-50), 3) := by decide +kernel
theorem dX10_reduceColumns_104 : decode cX10_reduceColumns 104 = .ok (.iinc 4 1, 3) := by decide +kernel
theorem dX10_reduceColumns_107 : decode cX10_reduceColumns 107 = .ok (.goto (-90), 3) := by decide +kernel
theorem dX10_reduceColumns_110 : decode cX10_reduceColumns 110 = .ok (.return_, 1) := by decide +kernel
theorem dX10_isAlone_0 : decode cX10_isAlone 0 = .ok (.iload_n 1, 1) := by decide +kernel
theorem dX10_isAlone_1 : decode cX10_isAlone 1 = .ok (.iconst 1, 1) := by decide +kernel
theorem dX10_isAlone_2 : decode cX10_isAlone 2 = .ok (.iadd, 1) := by decide +kernel
theorem dX10_isAlone_3 : decode cX10_isAlone 3 = .ok (.istore_n 2, 1) := by decide +kernel
theorem dX10_isAlone_4 : decode cX10_isAlone 4 = .ok (.iload_n 2, 1) := by decide +kernel
theorem dX10_isAlone_5 : decode cX10_isAlone 5 = .ok (.aload_n 0, 1) := by decide +kernel
theorem dX10_isAlone_6 : decode cX10_isAlone 6 = .ok (.getfield 37, 3) := by decide +kernel
theorem dX10_isAlone_9 : decode cX10_isAlone 9 = .ok (.if_icmp .ge 27, 3) := by decide +kernel
theorem dX10_isAlone_12 : decode cX10_isAlone 12 = .ok (.aload_n 0, 1) := by decide +kernel
theorem dX10_isAlone_13 : decode cX10_isAlone 13 = .ok (.getfield 15, 3) := by decide +kernel
theorem dX10_isAlone_16 : decode cX10_isAlone 16 = .ok (.bipush 9, 2) := by decide +kernel
theorem dX10_isAlone_18 : decode cX10_isAlone 18 = .ok (.iload_n 2, 1) := by decide +kernel
theorem dX10_isAlone_19 : decode cX10_isAlone 19 = .ok (.imul, 1) := by decide +kernel
theorem dX10_isAlone_20 : decode cX10_isAlone 20 = .ok (.iload_n 1, 1) := by decide +kernel
theorem dX10_isAlone_21 : decode cX10_isAlone 21 = .ok (.iadd, 1) := by decide +kernel
theorem dX10_isAlone_22 : decode cX10_isAlone 22 = .ok (.laload, 1) := by decide +kernel
theorem dX10_isAlone_23 : decode cX10_isAlone 23 = .ok (.lconst 0, 1) := by decide +kernel
theorem dX10_isAlone_24 : decode cX10_isAlone 24 = .ok (.lcmp, 1) := by decide +kernel
theorem dX10_isAlone_25 : decode cX10_isAlone 25 = .ok (.ifCond .eq 5, 3) := by decide +kernel
theorem dX10_isAlone_28 : decode cX10_isAlone 28 = .ok (.iconst 0, 1) := by decide +kernel
theorem dX10_isAlone_29 : decode cX10_isAlone 29 = .ok (.ireturn, 1) := by decide +kernel
theorem dX10_isAlone_30 : decode cX10_isAlone 30 = .ok (.iinc 2 1, 3) := by decide +kernel
theorem dX10_isAlone_33 : decode cX10_isAlone 33 = .ok (.goto (-29), 3) := by decide +kernel
theorem dX10_isAlone_36 : decode cX10_isAlone 36 = .ok (.iload_n 1, 1) := by decide +kernel
theorem dX10_isAlone_37 : decode cX10_isAlone 37 = .ok (.iconst 1, 1) := by decide +kernel
theorem dX10_isAlone_38 : decode cX10_isAlone 38 = .ok (.iadd, 1) := by decide +kernel
theorem dX10_isAlone_39 : decode cX10_isAlone 39 = .ok (.istore_n 2, 1) := by decide +kernel
theorem dX10_isAlone_40 : decode cX10_isAlone 40 = .ok (.iload_n 2, 1) := by decide +kernel
theorem dX10_isAlone_41 : decode cX10_isAlone 41 = .ok (.aload_n 0, 1) := by decide +kernel
theorem dX10_isAlone_42 : decode cX10_isAlone 42 = .ok (.getfield 34, 3) := by decide +kernel
theorem dX10_isAlone_45 : decode cX10_isAlone 45 = .ok (.if_icmp .ge 27, 3) := by decide +kernel
theorem dX10_isAlone_48 : decode cX10_isAlone 48 = .ok (.aload_n 0, 1) := by decide +kernel
theorem dX10_isAlone_49 : decode cX10_isAlone 49 = .ok (.getfield 15, 3) := by decide +kernel
theorem dX10_isAlone_52 : decode cX10_isAlone 52 = .ok (.bipush 9, 2) := by decide +kernel
theorem dX10_isAlone_54 : decode cX10_isAlone 54 = .ok (.iload_n 1, 1) := by decide +kernel
theorem dX10_isAlone_55 : decode cX10_isAlone 55 = .ok (.imul, 1) := by decide +kernel
theorem dX10_isAlone_56 : decode cX10_isAlone 56 = .ok (.iload_n 2, 1) := by decide +kernel
theorem dX10_isAlone_57 : decode cX10_isAlone 57 = .ok (.iadd, 1) := by decide +kernel
theorem dX10_isAlone_58 : decode cX10_isAlone 58 = .ok (.laload, 1) := by decide +kernel
theorem dX10_isAlone_59 : decode cX10_isAlone 59 = .ok (.lconst 0, 1) := by decide +kernel
theorem dX10_isAlone_60 : decode cX10_isAlone 60 = .ok (.lcmp, 1) := by decide +kernel
theorem dX10_isAlone_61 : decode cX10_isAlone 61 = .ok (.ifCond .eq 5, 3) := by decide +kernel
theorem dX10_isAlone_64 : decode cX10_isAlone 64 = .ok (.iconst 0, 1) := by decide +kernel
theorem dX10_isAlone_65 : decode cX10_isAlone 65 = .ok (.ireturn, 1) := by decide +kernel
theorem dX10_isAlone_66 : decode cX10_isAlone 66 = .ok (.iinc 2 1, 3) := by decide +kernel
theorem dX10_isAlone_69 : decode cX10_isAlone 69 = .ok (.goto (-29), 3) := by decide +kernel
theorem dX10_isAlone_72 : decode cX10_isAlone 72 = .ok (.iconst 1, 1) := by decide +kernel
theorem dX10_isAlone_73 : decode cX10_isAlone 73 = .ok (.ireturn, 1) := by decide +kernel
theorem dX10_rowNotDivided_0 : decode cX10_rowNotDivided 0 = .ok (.aload_n 0, 1) := by decide +kernel
theorem dX10_rowNotDivided_1 : decode cX10_rowNotDivided 1 = .ok (.getfield 15, 3) := by decide +kernel
theorem dX10_rowNotDivided_4 : decode cX10_rowNotDivided 4 = .ok (.bipush 9, 2) := by decide +kernel
theorem dX10_rowNotDivided_6 : decode cX10_rowNotDivided 6 = .ok (.iload_n 1, 1) := by decide +kernel
theorem dX10_rowNotDivided_7 : decode cX10_rowNotDivided 7 = .ok (.imul, 1) := by decide +kernel
theorem dX10_rowNotDivided_8 : decode cX10_rowNotDivided 8 = .ok (.iload_n 1, 1) := by decide +kernel
theorem dX10_rowNotDivided_9 : decode cX10_rowNotDivided 9 = .ok (.iadd, 1) := by decide +kernel
theorem dX10_rowNotDivided_10 : decode cX10_rowNotDivided 10 = .ok (.laload, 1) := by decide +kernel
theorem dX10_rowNotDivided_11 : decode cX10_rowNotDivided 11 = .ok (.lstore_n 2, 1) := by decide +kernel
theorem dX10_rowNotDivided_12 : decode cX10_rowNotDivided 12 = .ok (.iload_n 1, 1) := by decide +kernel
theorem dX10_rowNotDivided_13 : decode cX10_rowNotDivided 13 = .ok (.iconst 1, 1) := by decide +kernel
theorem dX10_rowNotDivided_14 : decode cX10_rowNotDivided 14 = .ok (.iadd, 1) := by decide +kernel
theorem dX10_rowNotDivided_15 : decode cX10_rowNotDivided 15 = .ok (.istore 4, 2) := by decide +kernel
theorem dX10_rowNotDivided_17 : decode cX10_rowNotDivided 17 = .ok (.iload 4, 2) := by decide +kernel
theorem dX10_rowNotDivided_19 : decode cX10_rowNotDivided 19 = .ok (.aload_n 0, 1) := by decide +kernel
theorem dX10_rowNotDivided_20 : decode cX10_rowNotDivided 20 = .ok (.getfield 37, 3) := by decide +kernel
theorem dX10_rowNotDivided_23 : decode cX10_rowNotDivided 23 = .ok (.if_icmp .ge 58, 3) := by decide +kernel
theorem dX10_rowNotDivided_26 : decode cX10_rowNotDivided 26 = .ok (.lload_n 2, 1) := by decide +kernel
theorem dX10_rowNotDivided_27 : decode cX10_rowNotDivided 27 = .ok (.lconst 0, 1) := by decide +kernel
theorem dX10_rowNotDivided_28 : decode cX10_rowNotDivided 28 = .ok (.lcmp, 1) := by decide +kernel
theorem dX10_rowNotDivided_29 : decode cX10_rowNotDivided 29 = .ok (.ifCond .eq 52, 3) := by decide +kernel
theorem dX10_rowNotDivided_32 : decode cX10_rowNotDivided 32 = .ok (.iload_n 1, 1) := by decide +kernel
theorem dX10_rowNotDivided_33 : decode cX10_rowNotDivided 33 = .ok (.iconst 1, 1) := by decide +kernel
theorem dX10_rowNotDivided_34 : decode cX10_rowNotDivided 34 = .ok (.iadd, 1) := by decide +kernel
theorem dX10_rowNotDivided_35 : decode cX10_rowNotDivided 35 = .ok (.istore 5, 2) := by decide +kernel
theorem dX10_rowNotDivided_37 : decode cX10_rowNotDivided 37 = .ok (.iload 5, 2) := by decide +kernel
theorem dX10_rowNotDivided_39 : decode cX10_rowNotDivided 39 = .ok (.aload_n 0, 1) := by decide +kernel
theorem dX10_rowNotDivided_40 : decode cX10_rowNotDivided 40 = .ok (.getfield 34, 3) := by decide +kernel
theorem dX10_rowNotDivided_43 : decode cX10_rowNotDivided 43 = .ok (.if_icmp .ge 32, 3) := by decide +kernel
theorem dX10_rowNotDivided_46 : decode cX10_rowNotDivided 46 = .ok (.aload_n 0, 1) := by decide +kernel
theorem dX10_rowNotDivided_47 : decode cX10_rowNotDivided 47 = .ok (.getfield 15, 3) := by decide +kernel
theorem dX10_rowNotDivided_50 : decode cX10_rowNotDivided 50 = .ok (.bipush 9, 2) := by decide +kernel
theorem dX10_rowNotDivided_52 : decode cX10_rowNotDivided 52 = .ok (.iload 4, 2) := by decide +kernel
theorem dX10_rowNotDivided_54 : decode cX10_rowNotDivided 54 = .ok (.imul, 1) := by decide +kernel
theorem dX10_rowNotDivided_55 : decode cX10_rowNotDivided 55 = .ok (.iload 5, 2) := by decide +kernel
theorem dX10_rowNotDivided_57 : decode cX10_rowNotDivided 57 = .ok (.iadd, 1) := by decide +kernel
theorem dX10_rowNotDivided_58 : decode cX10_rowNotDivided 58 = .ok (.laload, 1) := by decide +kernel
theorem dX10_rowNotDivided_59 : decode cX10_rowNotDivided 59 = .ok (.lload_n 2, 1) := by decide +kernel
theorem dX10_rowNotDivided_60 : decode cX10_rowNotDivided 60 = .ok (.lrem, 1) := by decide +kernel
theorem dX10_rowNotDivided_61 : decode cX10_rowNotDivided 61 = .ok (.lconst 0, 1) := by decide +kernel
theorem dX10_rowNotDivided_62 : decode cX10_rowNotDivided 62 = .ok (.lcmp, 1) := by decide +kernel
theorem dX10_rowNotDivided_63 : decode cX10_rowNotDivided 63 = .ok (.ifCond .eq 6, 3) := by decide +kernel
theorem dX10_rowNotDivided_66 : decode cX10_rowNotDivided 66 = .ok (.iload 4, 2) := by decide +kernel
theorem dX10_rowNotDivided_68 : decode cX10_rowNotDivided 68 = .ok (.ireturn, 1) := by decide +kernel
theorem dX10_rowNotDivided_69 : decode cX10_rowNotDivided 69 = .ok (.iinc 5 1, 3) := by decide +kernel
theorem dX10_rowNotDivided_72 : decode cX10_rowNotDivided 72 = .ok (.goto (-35), 3) := by decide +kernel
theorem dX10_rowNotDivided_75 : decode cX10_rowNotDivided 75 = .ok (.iinc 4 1, 3) := by decide +kernel
theorem dX10_rowNotDivided_78 : decode cX10_rowNotDivided 78 = .ok (.goto (-61), 3) := by decide +kernel
theorem dX10_rowNotDivided_81 : decode cX10_rowNotDivided 81 = .ok (.iconst (-1), 1) := by decide +kernel
theorem dX10_rowNotDivided_82 : decode cX10_rowNotDivided 82 = .ok (.ireturn, 1) := by decide +kernel
theorem dX10_addRow_0 : decode cX10_addRow 0 = .ok (.iconst 0, 1) := by decide +kernel
theorem dX10_addRow_1 : decode cX10_addRow 1 = .ok (.istore_n 3, 1) := by decide +kernel
theorem dX10_addRow_2 : decode cX10_addRow 2 = .ok (.iload_n 3, 1) := by decide +kernel
theorem dX10_addRow_3 : decode cX10_addRow 3 = .ok (.aload_n 0, 1) := by decide +kernel
theorem dX10_addRow_4 : decode cX10_addRow 4 = .ok (.getfield 34, 3) := by decide +kernel
theorem dX10_addRow_7 : decode cX10_addRow 7 = .ok (.if_icmp .ge 34, 3) := by decide +kernel
theorem dX10_addRow_10 : decode cX10_addRow 10 = .ok (.aload_n 0, 1) := by decide +kernel
theorem dX10_addRow_11 : decode cX10_addRow 11 = .ok (.getfield 15, 3) := by decide +kernel
theorem dX10_addRow_14 : decode cX10_addRow 14 = .ok (.bipush 9, 2) := by decide +kernel
theorem dX10_addRow_16 : decode cX10_addRow 16 = .ok (.iload_n 2, 1) := by decide +kernel
theorem dX10_addRow_17 : decode cX10_addRow 17 = .ok (.imul, 1) := by decide +kernel
theorem dX10_addRow_18 : decode cX10_addRow 18 = .ok (.iload_n 3, 1) := by decide +kernel
theorem dX10_addRow_19 : decode cX10_addRow 19 = .ok (.iadd, 1) := by decide +kernel
theorem dX10_addRow_20 : decode cX10_addRow 20 = .ok (.dup2, 1) := by decide +kernel
theorem dX10_addRow_21 : decode cX10_addRow 21 = .ok (.laload, 1) := by decide +kernel
theorem dX10_addRow_22 : decode cX10_addRow 22 = .ok (.aload_n 0, 1) := by decide +kernel
theorem dX10_addRow_23 : decode cX10_addRow 23 = .ok (.getfield 15, 3) := by decide +kernel
theorem dX10_addRow_26 : decode cX10_addRow 26 = .ok (.bipush 9, 2) := by decide +kernel
theorem dX10_addRow_28 : decode cX10_addRow 28 = .ok (.iload_n 1, 1) := by decide +kernel
theorem dX10_addRow_29 : decode cX10_addRow 29 = .ok (.imul, 1) := by decide +kernel
theorem dX10_addRow_30 : decode cX10_addRow 30 = .ok (.iload_n 3, 1) := by decide +kernel
theorem dX10_addRow_31 : decode cX10_addRow 31 = .ok (.iadd, 1) := by decide +kernel
theorem dX10_addRow_32 : decode cX10_addRow 32 = .ok (.laload, 1) := by decide +kernel
theorem dX10_addRow_33 : decode cX10_addRow 33 = .ok (.ladd, 1) := by decide +kernel
theorem dX10_addRow_34 : decode cX10_addRow 34 = .ok (.lastore, 1) := by decide +kernel
theorem dX10_addRow_35 : decode cX10_addRow 35 = .ok (.iinc 3 1, 3) := by decide +kernel
theorem dX10_addRow_38 : decode cX10_addRow 38 = .ok (.goto (-36), 3) := by decide +kernel
theorem dX10_addRow_41 : decode cX10_addRow 41 = .ok (.return_, 1) := by decide +kernel
theorem dX11_init_0 : decode cX11_init 0 = .ok (.aload_n 0, 1) := by decide +kernel
theorem dX11_init_1 : decode cX11_init 1 = .ok (.invokespecial 1, 3) := by decide +kernel
theorem dX11_init_4 : decode cX11_init 4 = .ok (.aload_n 0, 1) := by decide +kernel
theorem dX11_init_5 : decode cX11_init 5 = .ok (.new 7, 3) := by decide +kernel
theorem dX11_init_8 : decode cX11_init 8 = .ok (.dup, 1) := by decide +kernel
theorem dX11_init_9 : decode cX11_init 9 = .ok (.invokespecial 9, 3) := by decide +kernel
theorem dX11_init_12 : decode cX11_init 12 = .ok (.putfield 10, 3) := by decide +kernel
theorem dX11_init_15 : decode cX11_init 15 = .ok (.aload_n 0, 1) := by decide +kernel
theorem dX11_init_16 : decode cX11_init 16 = .ok (.new 7, 3) := by decide +kernel
theorem dX11_init_19 : decode cX11_init 19 = .ok (.dup, 1) := by decide +kernel
theorem dX11_init_20 : decode cX11_init 20 = .ok (.invokespecial 9, 3) := by decide +kernel
theorem dX11_init_23 : decode cX11_init 23 = .ok (.putfield 16, 3) := by decide +kernel
theorem dX11_init_26 : decode cX11_init 26 = .ok (.aload_n 0, 1) := by decide +kernel
theorem dX11_init_27 : decode cX11_init 27 = .ok (.new 7, 3) := by decide +kernel
theorem dX11_init_30 : decode cX11_init 30 = .ok (.dup, 1) := by decide +kernel
theorem dX11_init_31 : decode cX11_init 31 = .ok (.invokespecial 9, 3) := by decide +kernel
theorem dX11_init_34 : decode cX11_init 34 = .ok (.putfield 19, 3) := by decide +kernel
theorem dX11_init_37 : decode cX11_init 37 = .ok (.aload_n 0, 1) := by decide +kernel
theorem dX11_init_38 : decode cX11_init 38 = .ok (.iconst 2, 1) := by decide +kernel
theorem dX11_init_39 : decode cX11_init 39 = .ok (.anewarray 7, 3) := by decide +kernel
theorem dX11_init_42 : decode cX11_init 42 = .ok (.putfield 22, 3) := by decide +kernel
theorem dX11_init_45 : decode cX11_init 45 = .ok (.iconst 0, 1) := by decide +kernel
theorem dX11_init_46 : decode cX11_init 46 = .ok (.istore_n 1, 1) := by decide +kernel
theorem dX11_init_47 : decode cX11_init 47 = .ok (.iload_n 1, 1) := by decide +kernel
theorem dX11_init_48 : decode cX11_init 48 = .ok (.iconst 2, 1) := by decide +kernel
theorem dX11_init_49 : decode cX11_init 49 = .ok (.if_icmp .ge 22, 3) := by decide +kernel
theorem dX11_init_52 : decode cX11_init 52 = .ok (.aload_n 0, 1) := by decide +kernel
theorem dX11_init_53 : decode cX11_init 53 = .ok (.getfield 22, 3) := by decide +kernel
theorem dX11_init_56 : decode cX11_init 56 = .ok (.iload_n 1, 1) := by decide +kernel
theorem dX11_init_57 : decode cX11_init 57 = .ok (.new 7, 3) := by decide +kernel
theorem dX11_init_60 : decode cX11_init 60 = .ok (.dup, 1) := by decide +kernel
theorem dX11_init_61 : decode cX11_init 61 = .ok (.invokespecial 9, 3) := by decide +kernel
theorem dX11_init_64 : decode cX11_init 64 = .ok (.aastore, 1) := by decide +kernel
theorem dX11_init_65 : decode cX11_init 65 = .ok (.iinc 1 1, 3) := by decide +kernel
theorem dX11_init_68 : decode cX11_init 68 = .ok (.goto (-21), 3) := by decide +kernel
theorem dX11_init_71 : decode cX11_init 71 = .ok (.aload_n 0, 1) := by decide +kernel
theorem dX11_init_72 : decode cX11_init 72 = .ok (.iconst 2, 1) := by decide +kernel
theorem dX11_init_73 : decode cX11_init 73 = .ok (.newarray .boolean, 2) := by decide +kernel
theorem dX11_init_75 : decode cX11_init 75 = .ok (.putfield 26, 3) := by decide +kernel
theorem dX11_init_78 : decode cX11_init 78 = .ok (.aload_n 0, 1) := by decide +kernel
theorem dX11_init_79 : decode cX11_init 79 = .ok (.new 30, 3) := by decide +kernel
theorem dX11_init_82 : decode cX11_init 82 = .ok (.dup, 1) := by decide +kernel
theorem dX11_init_83 : decode cX11_init 83 = .ok (.invokespecial 32, 3) := by decide +kernel
theorem dX11_init_86 : decode cX11_init 86 = .ok (.putfield 33, 3) := by decide +kernel
theorem dX11_init_89 : decode cX11_init 89 = .ok (.aload_n 0, 1) := by decide +kernel
theorem dX11_init_90 : decode cX11_init 90 = .ok (.new 37, 3) := by decide +kernel
theorem dX11_init_93 : decode cX11_init 93 = .ok (.dup, 1) := by decide +kernel
theorem dX11_init_94 : decode cX11_init 94 = .ok (.invokespecial 39, 3) := by decide +kernel
theorem dX11_init_97 : decode cX11_init 97 = .ok (.putfield 40, 3) := by decide +kernel
theorem dX11_init_100 : decode cX11_init 100 = .ok (.aload_n 0, 1) := by decide +kernel
theorem dX11_init_101 : decode cX11_init 101 = .ok (.new 44, 3) := by decide +kernel
theorem dX11_init_104 : decode cX11_init 104 = .ok (.dup, 1) := by decide +kernel
theorem dX11_init_105 : decode cX11_init 105 = .ok (.invokespecial 46, 3) := by decide +kernel
theorem dX11_init_108 : decode cX11_init 108 = .ok (.putfield 47, 3) := by decide +kernel
theorem dX11_init_111 : decode cX11_init 111 = .ok (.aload_n 0, 1) := by decide +kernel
theorem dX11_init_112 : decode cX11_init 112 = .ok (.new 51, 3) := by decide +kernel
theorem dX11_init_115 : decode cX11_init 115 = .ok (.dup, 1) := by decide +kernel
theorem dX11_init_116 : decode cX11_init 116 = .ok (.invokespecial 53, 3) := by decide +kernel
theorem dX11_init_119 : decode cX11_init 119 = .ok (.putfield 54, 3) := by decide +kernel
theorem dX11_init_122 : decode cX11_init 122 = .ok (.aload_n 0, 1) := by decide +kernel
theorem dX11_init_123 : decode cX11_init 123 = .ok (.new 58, 3) := by decide +kernel
theorem dX11_init_126 : decode cX11_init 126 = .ok (.dup, 1) := by decide +kernel
theorem dX11_init_127 : decode cX11_init 127 = .ok (.invokespecial 60, 3) := by decide +kernel
theorem dX11_init_130 : decode cX11_init 130 = .ok (.putfield 61, 3) := by decide +kernel
theorem dX11_init_133 : decode cX11_init 133 = .ok (.aload_n 0, 1) := by decide +kernel
theorem dX11_init_134 : decode cX11_init 134 = .ok (.new 65, 3) := by decide +kernel
theorem dX11_init_137 : decode cX11_init 137 = .ok (.dup, 1) := by decide +kernel
theorem dX11_init_138 : decode cX11_init 138 = .ok (.invokespecial 67, 3) := by decide +kernel
theorem dX11_init_141 : decode cX11_init 141 = .ok (.putfield 68, 3) := by decide +kernel
theorem dX11_init_144 : decode cX11_init 144 = .ok (.aload_n 0, 1) := by decide +kernel
theorem dX11_init_145 : decode cX11_init 145 = .ok (.new 72, 3) := by decide +kernel
theorem dX11_init_148 : decode cX11_init 148 = .ok (.dup, 1) := by decide +kernel
theorem dX11_init_149 : decode cX11_init 149 = .ok (.aload_n 0, 1) := by decide +kernel
theorem dX11_init_150 : decode cX11_init 150 = .ok (.getfield 68, 3) := by decide +kernel
theorem dX11_init_153 : decode cX11_init 153 = .ok (.aload_n 0, 1) := by decide +kernel
theorem dX11_init_154 : decode cX11_init 154 = .ok (.getfield 61, 3) := by decide +kernel
theorem dX11_init_157 : decode cX11_init 157 = .ok (.invokespecial 74, 3) := by decide +kernel
theorem dX11_init_160 : decode cX11_init 160 = .ok (.putfield 77, 3) := by decide +kernel
theorem dX11_init_163 : decode cX11_init 163 = .ok (.aload_n 0, 1) := by decide +kernel
theorem dX11_init_164 : decode cX11_init 164 = .ok (.new 81, 3) := by decide +kernel
theorem dX11_init_167 : decode cX11_init 167 = .ok (.dup, 1) := by decide +kernel
theorem dX11_init_168 : decode cX11_init 168 = .ok (.aload_n 0, 1) := by decide +kernel
theorem dX11_init_169 : decode cX11_init 169 = .ok (.getfield 77, 3) := by decide +kernel
theorem dX11_init_172 : decode cX11_init 172 = .ok (.aload_n 0, 1) := by decide +kernel
theorem dX11_init_173 : decode cX11_init 173 = .ok (.getfield 68, 3) := by decide +kernel
theorem dX11_init_176 : decode cX11_init 176 = .ok (.invokespecial 83, 3) := by decide +kernel
theorem dX11_init_179 : decode cX11_init 179 = .ok (.putfield 86, 3) := by decide +kernel
theorem dX11_init_182 : decode cX11_init 182 = .ok (.aload_n 0, 1) := by decide +kernel
theorem dX11_init_183 : decode cX11_init 183 = .ok (.new 90, 3) := by decide +kernel
theorem dX11_init_186 : decode cX11_init 186 = .ok (.dup, 1) := by decide +kernel
theorem dX11_init_187 : decode cX11_init 187 = .ok (.invokespecial 92, 3) := by decide +kernel
theorem dX11_init_190 : decode cX11_init 190 = .ok (.putfield 93, 3) := by decide +kernel
theorem dX11_init_193 : decode cX11_init 193 = .ok (.return_, 1) := by decide +kernel
theorem dX11_sign_0 : decode cX11_sign 0 = .ok (.aload_n 0, 1) := by decide +kernel
theorem dX11_sign_1 : decode cX11_sign 1 = .ok (.getfield 47, 3) := by decide +kernel
theorem dX11_sign_4 : decode cX11_sign 4 = .ok (.iload_n 1, 1) := by decide +kernel
theorem dX11_sign_5 : decode cX11_sign 5 = .ok (.invokevirtual 97, 3) := by decide +kernel
theorem dX11_sign_8 : decode cX11_sign 8 = .ok (.ireturn, 1) := by decide +kernel
theorem dX11_end_0 : decode cX11_end 0 = .ok (.aload_n 0, 1) := by decide +kernel
theorem dX11_end_1 : decode cX11_end 1 = .ok (.getfield 47, 3) := by decide +kernel
theorem dX11_end_4 : decode cX11_end 4 = .ok (.iload_n 1, 1) := by decide +kernel
theorem dX11_end_5 : decode cX11_end 5 = .ok (.invokevirtual 101, 3) := by decide +kernel
theorem dX11_end_8 : decode cX11_end 8 = .ok (.ireturn, 1) := by decide +kernel
theorem dX11_solid_0 : decode cX11_solid 0 = .ok (.aload_n 0, 1) := by decide +kernel
theorem dX11_solid_1 : decode cX11_solid 1 = .ok (.getfield 47, 3) := by decide +kernel
theorem dX11_solid_4 : decode cX11_solid 4 = .ok (.aload_n 0, 1) := by decide +kernel
theorem dX11_solid_5 : decode cX11_solid 5 = .ok (.getfield 19, 3) := by decide +kernel
theorem dX11_solid_8 : decode cX11_solid 8 = .ok (.invokevirtual 105, 3) := by decide +kernel
theorem dX11_solid_11 : decode cX11_solid 11 = .ok (.istore_n 1, 1) := by decide +kernel
theorem dX11_solid_12 : decode cX11_solid 12 = .ok (.aload_n 0, 1) := by decide +kernel
theorem dX11_solid_13 : decode cX11_solid 13 = .ok (.getfield 47, 3) := by decide +kernel
theorem dX11_solid_16 : decode cX11_solid 16 = .ok (.iconst 0, 1) := by decide +kernel
theorem dX11_solid_17 : decode cX11_solid 17 = .ok (.invokevirtual 101, 3) := by decide +kernel
theorem dX11_solid_20 : decode cX11_solid 20 = .ok (.pop, 1) := by decide +kernel
theorem dX11_solid_21 : decode cX11_solid 21 = .ok (.iload_n 1, 1) := by decide +kernel
theorem dX11_solid_22 : decode cX11_solid 22 = .ok (.ifCond .ge 5, 3) := by decide +kernel
theorem dX11_solid_25 : decode cX11_solid 25 = .ok (.iload_n 1, 1) := by decide +kernel
theorem dX11_solid_26 : decode cX11_solid 26 = .ok (.ireturn, 1) := by decide +kernel
theorem dX11_solid_27 : decode cX11_solid 27 = .ok (.aload_n 0, 1) := by decide +kernel
theorem dX11_solid_28 : decode cX11_solid 28 = .ok (.getfield 19, 3) := by decide +kernel
theorem dX11_solid_31 : decode cX11_solid 31 = .ok (.invokevirtual 109, 3) := by decide +kernel
theorem dX11_solid_34 : decode cX11_solid 34 = .ok (.ifCond .ne 7, 3) := by decide +kernel
theorem dX11_solid_37 : decode cX11_solid 37 = .ok (.sipush (-200), 3) := by decide +kernel
theorem dX11_solid_40 : decode cX11_solid 40 = .ok (.ireturn, 1) := by decide +kernel
theorem dX11_solid_41 : decode cX11_solid 41 = .ok (.aload_n 0, 1) := by decide +kernel
theorem dX11_solid_42 : decode cX11_solid 42 = .ok (.getfield 33, 3) := by decide +kernel
theorem dX11_solid_45 : decode cX11_solid 45 = .ok (.aload_n 0, 1) := by decide +kernel
theorem dX11_solid_46 : decode cX11_solid 46 = .ok (.getfield 10, 3) := by decide +kernel
theorem dX11_solid_49 : decode cX11_solid 49 = .ok (.invokevirtual 113, 3) := by decide +kernel
theorem dX11_solid_52 : decode cX11_solid 52 = .ok (.aload_n 0, 1) := by decide +kernel
theorem dX11_solid_53 : decode cX11_solid 53 = .ok (.getfield 61, 3) := by decide +kernel
theorem dX11_solid_56 : decode cX11_solid 56 = .ok (.aload_n 0, 1) := by decide +kernel
theorem dX11_solid_57 : decode cX11_solid 57 = .ok (.getfield 19, 3) := by decide +kernel
theorem dX11_solid_60 : decode cX11_solid 60 = .ok (.invokevirtual 117, 3) := by decide +kernel
theorem dX11_solid_63 : decode cX11_solid 63 = .ok (.pop, 1) := by decide +kernel
theorem dX11_solid_64 : decode cX11_solid 64 = .ok (.aload_n 0, 1) := by decide +kernel
theorem dX11_solid_65 : decode cX11_solid 65 = .ok (.getfield 10, 3) := by decide +kernel
theorem dX11_solid_68 : decode cX11_solid 68 = .ok (.aload_n 0, 1) := by decide +kernel
theorem dX11_solid_69 : decode cX11_solid 69 = .ok (.getfield 19, 3) := by decide +kernel
theorem dX11_solid_72 : decode cX11_solid 72 = .ok (.invokevirtual 120, 3) := by decide +kernel
theorem dX11_solid_75 : decode cX11_solid 75 = .ok (.aload_n 0, 1) := by decide +kernel
theorem dX11_solid_76 : decode cX11_solid 76 = .ok (.getfield 10, 3) := by decide +kernel
theorem dX11_solid_79 : decode cX11_solid 79 = .ok (.getfield 123, 3) := by decide +kernel
theorem dX11_solid_82 : decode cX11_solid 82 = .ok (.ireturn, 1) := by decide +kernel
theorem dX11_glued_0 : decode cX11_glued 0 = .ok (.aload_n 0, 1) := by decide +kernel
theorem dX11_glued_1 : decode cX11_glued 1 = .ok (.getfield 10, 3) := by decide +kernel
theorem dX11_glued_4 : decode cX11_glued 4 = .ok (.iload_n 1, 1) := by decide +kernel
theorem dX11_glued_5 : decode cX11_glued 5 = .ok (.iload_n 2, 1) := by decide +kernel
theorem dX11_glued_6 : decode cX11_glued 6 = .ok (.invokevirtual 127, 3) := by decide +kernel
theorem dX11_glued_9 : decode cX11_glued 9 = .ok (.ifCond .eq 12, 3) := by decide +kernel
theorem dX11_glued_12 : decode cX11_glued 12 = .ok (.iload_n 3, 1) := by decide +kernel
theorem dX11_glued_13 : decode cX11_glued 13 = .ok (.ifCond .lt 8, 3) := by decide +kernel
theorem dX11_glued_16 : decode cX11_glued 16 = .ok (.iload_n 3, 1) := by decide +kernel
theorem dX11_glued_17 : decode cX11_glued 17 = .ok (.iconst 2, 1) := by decide +kernel
theorem dX11_glued_18 : decode cX11_glued 18 = .ok (.if_icmp .le 11, 3) := by decide +kernel
theorem dX11_glued_21 : decode cX11_glued 21 = .ok (.new 131, 3) := by decide +kernel
theorem dX11_glued_24 : decode cX11_glued 24 = .ok (.dup, 1) := by decide +kernel
theorem dX11_glued_25 : decode cX11_glued 25 = .ok (.invokespecial 133, 3) := by decide +kernel
theorem dX11_glued_28 : decode cX11_glued 28 = .ok (.athrow, 1) := by decide +kernel
theorem dX11_glued_29 : decode cX11_glued 29 = .ok (.aload_n 0, 1) := by decide +kernel
theorem dX11_glued_30 : decode cX11_glued 30 = .ok (.getfield 10, 3) := by decide +kernel
theorem dX11_glued_33 : decode cX11_glued 33 = .ok (.getfield 134, 3) := by decide +kernel
theorem dX11_glued_36 : decode cX11_glued 36 = .ok (.iconst 4, 1) := by decide +kernel
theorem dX11_glued_37 : decode cX11_glued 37 = .ok (.iload_n 1, 1) := by decide +kernel
theorem dX11_glued_38 : decode cX11_glued 38 = .ok (.imul, 1) := by decide +kernel
theorem dX11_glued_39 : decode cX11_glued 39 = .ok (.iload_n 2, 1) := by decide +kernel
theorem dX11_glued_40 : decode cX11_glued 40 = .ok (.iadd, 1) := by decide +kernel
theorem dX11_glued_41 : decode cX11_glued 41 = .ok (.iaload, 1) := by decide +kernel
theorem dX11_glued_42 : decode cX11_glued 42 = .ok (.istore 4, 2) := by decide +kernel
theorem dX11_glued_44 : decode cX11_glued 44 = .ok (.iload 4, 2) := by decide +kernel
theorem dX11_glued_46 : decode cX11_glued 46 = .ok (.ifCond .ge 5, 3) := by decide +kernel
theorem dX11_glued_49 : decode cX11_glued 49 = .ok (.iconst (-1), 1) := by decide +kernel
theorem dX11_glued_50 : decode cX11_glued 50 = .ok (.ireturn, 1) := by decide +kernel
theorem dX11_glued_51 : decode cX11_glued 51 = .ok (.iload_n 3, 1) := by decide +kernel
theorem dX11_glued_52 : decode cX11_glued 52 = .ok (.ifCond .ne 8, 3) := by decide +kernel
theorem dX11_glued_55 : decode cX11_glued 55 = .ok (.iload 4, 2) := by decide +kernel
theorem dX11_glued_57 : decode cX11_glued 57 = .ok (.iconst 5, 1) := by decide +kernel
theorem dX11_glued_58 : decode cX11_glued 58 = .ok (.ishr, 1) := by decide +kernel
theorem dX11_glued_59 : decode cX11_glued 59 = .ok (.ireturn, 1) := by decide +kernel
theorem dX11_glued_60 : decode cX11_glued 60 = .ok (.iload_n 3, 1) := by decide +kernel
theorem dX11_glued_61 : decode cX11_glued 61 = .ok (.iconst 1, 1) := by decide +kernel
theorem dX11_glued_62 : decode cX11_glued 62 = .ok (.if_icmp .ne 11, 3) := by decide +kernel
theorem dX11_glued_65 : decode cX11_glued 65 = .ok (.iload 4, 2) := by decide +kernel
theorem dX11_glued_67 : decode cX11_glued 67 = .ok (.bipush 31, 2) := by decide +kernel
theorem dX11_glued_69 : decode cX11_glued 69 = .ok (.iand, 1) := by decide +kernel
theorem dX11_glued_70 : decode cX11_glued 70 = .ok (.goto 16, 3) := by decide +kernel
theorem dX11_glued_73 : decode cX11_glued 73 = .ok (.getstatic 138, 3) := by decide +kernel
theorem dX11_glued_76 : decode cX11_glued 76 = .ok (.iconst 4, 1) := by decide +kernel
theorem dX11_glued_77 : decode cX11_glued 77 = .ok (.iload 4, 2) := by decide +kernel
theorem dX11_glued_79 : decode cX11_glued 79 = .ok (.bipush 31, 2) := by decide +kernel
theorem dX11_glued_81 : decode cX11_glued 81 = .ok (.iand, 1) := by decide +kernel
theorem dX11_glued_82 : decode cX11_glued 82 = .ok (.imul, 1) := by decide +kernel
theorem dX11_glued_83 : decode cX11_glued 83 = .ok (.iload_n 2, 1) := by decide +kernel
theorem dX11_glued_84 : decode cX11_glued 84 = .ok (.iadd, 1) := by decide +kernel
theorem dX11_glued_85 : decode cX11_glued 85 = .ok (.iaload, 1) := by decide +kernel
theorem dX11_glued_86 : decode cX11_glued 86 = .ok (.ireturn, 1) := by decide +kernel
theorem dX11_shows_0 : decode cX11_shows 0 = .ok (.aload_n 0, 1) := by decide +kernel
theorem dX11_shows_1 : decode cX11_shows 1 = .ok (.getfield 40, 3) := by decide +kernel
theorem dX11_shows_4 : decode cX11_shows 4 = .ok (.invokevirtual 141, 3) := by decide +kernel
theorem dX11_shows_7 : decode cX11_shows 7 = .ok (.aload_n 0, 1) := by decide +kernel
theorem dX11_shows_8 : decode cX11_shows 8 = .ok (.getfield 40, 3) := by decide +kernel
theorem dX11_shows_11 : decode cX11_shows 11 = .ok (.bipush 48, 2) := by decide +kernel
theorem dX11_shows_13 : decode cX11_shows 13 = .ok (.aload_n 0, 1) := by decide +kernel
theorem dX11_shows_14 : decode cX11_shows 14 = .ok (.getfield 10, 3) := by decide +kernel
theorem dX11_shows_17 : decode cX11_shows 17 = .ok (.getfield 123, 3) := by decide +kernel
theorem dX11_shows_20 : decode cX11_shows 20 = .ok (.iadd, 1) := by decide +kernel
theorem dX11_shows_21 : decode cX11_shows 21 = .ok (.i2l, 1) := by decide +kernel
theorem dX11_shows_22 : decode cX11_shows 22 = .ok (.invokevirtual 144, 3) := by decide +kernel
theorem dX11_shows_25 : decode cX11_shows 25 = .ok (.iconst 0, 1) := by decide +kernel
theorem dX11_shows_26 : decode cX11_shows 26 = .ok (.istore_n 1, 1) := by decide +kernel
theorem dX11_shows_27 : decode cX11_shows 27 = .ok (.iload_n 1, 1) := by decide +kernel
theorem dX11_shows_28 : decode cX11_shows 28 = .ok (.iconst 4, 1) := by decide +kernel
theorem dX11_shows_29 : decode cX11_shows 29 = .ok (.aload_n 0, 1) := by decide +kernel
theorem dX11_shows_30 : decode cX11_shows 30 = .ok (.getfield 10, 3) := by decide +kernel
theorem dX11_shows_33 : decode cX11_shows 33 = .ok (.getfield 123, 3) := by decide +kernel
theorem dX11_shows_36 : decode cX11_shows 36 = .ok (.imul, 1) := by decide +kernel
theorem dX11_shows_37 : decode cX11_shows 37 = .ok (.if_icmp .ge 94, 3) := by decide +kernel
theorem dX11_shows_40 : decode cX11_shows 40 = .ok (.aload_n 0, 1) := by decide +kernel
theorem dX11_shows_41 : decode cX11_shows 41 = .ok (.getfield 10, 3) := by decide +kernel
theorem dX11_shows_44 : decode cX11_shows 44 = .ok (.iload_n 1, 1) := by decide +kernel
theorem dX11_shows_45 : decode cX11_shows 45 = .ok (.invokevirtual 148, 3) := by decide +kernel
theorem dX11_shows_48 : decode cX11_shows 48 = .ok (.iload_n 1, 1) := by decide +kernel
theorem dX11_shows_49 : decode cX11_shows 49 = .ok (.if_icmp .le 76, 3) := by decide +kernel
theorem dX11_shows_52 : decode cX11_shows 52 = .ok (.aload_n 0, 1) := by decide +kernel
theorem dX11_shows_53 : decode cX11_shows 53 = .ok (.getfield 40, 3) := by decide +kernel
theorem dX11_shows_56 : decode cX11_shows 56 = .ok (.bipush 48, 2) := by decide +kernel
theorem dX11_shows_58 : decode cX11_shows 58 = .ok (.iload_n 1, 1) := by decide +kernel
theorem dX11_shows_59 : decode cX11_shows 59 = .ok (.iconst 2, 1) := by decide +kernel
theorem dX11_shows_60 : decode cX11_shows 60 = .ok (.ishr, 1) := by decide +kernel
theorem dX11_shows_61 : decode cX11_shows 61 = .ok (.iadd, 1) := by decide +kernel
theorem dX11_shows_62 : decode cX11_shows 62 = .ok (.i2l, 1) := by decide +kernel
theorem dX11_shows_63 : decode cX11_shows 63 = .ok (.invokevirtual 144, 3) := by decide +kernel
theorem dX11_shows_66 : decode cX11_shows 66 = .ok (.aload_n 0, 1) := by decide +kernel
theorem dX11_shows_67 : decode cX11_shows 67 = .ok (.getfield 40, 3) := by decide +kernel
theorem dX11_shows_70 : decode cX11_shows 70 = .ok (.bipush 48, 2) := by decide +kernel
theorem dX11_shows_72 : decode cX11_shows 72 = .ok (.iload_n 1, 1) := by decide +kernel
theorem dX11_shows_73 : decode cX11_shows 73 = .ok (.iconst 3, 1) := by decide +kernel
theorem dX11_shows_74 : decode cX11_shows 74 = .ok (.iand, 1) := by decide +kernel
theorem dX11_shows_75 : decode cX11_shows 75 = .ok (.iadd, 1) := by decide +kernel
theorem dX11_shows_76 : decode cX11_shows 76 = .ok (.i2l, 1) := by decide +kernel
theorem dX11_shows_77 : decode cX11_shows 77 = .ok (.invokevirtual 144, 3) := by decide +kernel
theorem dX11_shows_80 : decode cX11_shows 80 = .ok (.aload_n 0, 1) := by decide +kernel
theorem dX11_shows_81 : decode cX11_shows 81 = .ok (.getfield 40, 3) := by decide +kernel
theorem dX11_shows_84 : decode cX11_shows 84 = .ok (.bipush 48, 2) := by decide +kernel
theorem dX11_shows_86 : decode cX11_shows 86 = .ok (.aload_n 0, 1) := by decide +kernel
theorem dX11_shows_87 : decode cX11_shows 87 = .ok (.getfield 10, 3) := by decide +kernel
theorem dX11_shows_90 : decode cX11_shows 90 = .ok (.getfield 134, 3) := by decide +kernel
theorem dX11_shows_93 : decode cX11_shows 93 = .ok (.iload_n 1, 1) := by decide +kernel
theorem dX11_shows_94 : decode cX11_shows 94 = .ok (.iaload, 1) := by decide +kernel
theorem dX11_shows_95 : decode cX11_shows 95 = .ok (.iconst 5, 1) := by decide +kernel
theorem dX11_shows_96 : decode cX11_shows 96 = .ok (.ishr, 1) := by decide +kernel
theorem dX11_shows_97 : decode cX11_shows 97 = .ok (.iadd, 1) := by decide +kernel
theorem dX11_shows_98 : decode cX11_shows 98 = .ok (.i2l, 1) := by decide +kernel
theorem dX11_shows_99 : decode cX11_shows 99 = .ok (.invokevirtual 144, 3) := by decide +kernel
theorem dX11_shows_102 : decode cX11_shows 102 = .ok (.aload_n 0, 1) := by decide +kernel
theorem dX11_shows_103 : decode cX11_shows 103 = .ok (.getfield 40, 3) := by decide +kernel
theorem dX11_shows_106 : decode cX11_shows 106 = .ok (.bipush 97, 2) := by decide +kernel
theorem dX11_shows_108 : decode cX11_shows 108 = .ok (.aload_n 0, 1) := by decide +kernel
theorem dX11_shows_109 : decode cX11_shows 109 = .ok (.getfield 10, 3) := by decide +kernel
theorem dX11_shows_112 : decode cX11_shows 112 = .ok (.getfield 134, 3) := by decide +kernel
theorem dX11_shows_115 : decode cX11_shows 115 = .ok (.iload_n 1, 1) := by decide +kernel
theorem dX11_shows_116 : decode cX11_shows 116 = .ok (.iaload, 1) := by decide +kernel
theorem dX11_shows_117 : decode cX11_shows 117 = .ok (.bipush 31, 2) := by decide +kernel
theorem dX11_shows_119 : decode cX11_shows 119 = .ok (.iand, 1) := by decide +kernel
theorem dX11_shows_120 : decode cX11_shows 120 = .ok (.iadd, 1) := by decide +kernel
theorem dX11_shows_121 : decode cX11_shows 121 = .ok (.i2l, 1) := by decide +kernel
theorem dX11_shows_122 : decode cX11_shows 122 = .ok (.invokevirtual 144, 3) := by decide +kernel
theorem dX11_shows_125 : decode cX11_shows 125 = .ok (.iinc 1 1, 3) := by decide +kernel
theorem dX11_shows_128 : decode cX11_shows 128 = .ok (.goto (-101), 3) := by decide +kernel
theorem dX11_shows_131 : decode cX11_shows 131 = .ok (.aload_n 0, 1) := by decide +kernel
theorem dX11_shows_132 : decode cX11_shows 132 = .ok (.getfield 40, 3) := by decide +kernel
theorem dX11_shows_135 : decode cX11_shows 135 = .ok (.getfield 151, 3) := by decide +kernel
theorem dX11_shows_138 : decode cX11_shows 138 = .ok (.ireturn, 1) := by decide +kernel
theorem dX11_sheet_0 : decode cX11_sheet 0 = .ok (.iload_n 1, 1) := by decide +kernel
theorem dX11_sheet_1 : decode cX11_sheet 1 = .ok (.ifCond .lt 14, 3) := by decide +kernel
theorem dX11_sheet_4 : decode cX11_sheet 4 = .ok (.iload_n 1, 1) := by decide +kernel
theorem dX11_sheet_5 : decode cX11_sheet 5 = .ok (.iconst 3, 1) := by decide +kernel
theorem dX11_sheet_6 : decode cX11_sheet 6 = .ok (.if_icmp .gt 9, 3) := by decide +kernel
theorem dX11_sheet_9 : decode cX11_sheet 9 = .ok (.iload_n 2, 1) := by decide +kernel
theorem dX11_sheet_10 : decode cX11_sheet 10 = .ok (.bipush 32, 2) := by decide +kernel
theorem dX11_sheet_12 : decode cX11_sheet 12 = .ok (.if_icmp .le 5, 3) := by decide +kernel
theorem dX11_sheet_15 : decode cX11_sheet 15 = .ok (.iconst (-1), 1) := by decide +kernel
theorem dX11_sheet_16 : decode cX11_sheet 16 = .ok (.ireturn, 1) := by decide +kernel
theorem dX11_sheet_17 : decode cX11_sheet 17 = .ok (.iload_n 1, 1) := by decide +kernel
theorem dX11_sheet_18 : decode cX11_sheet 18 = .ok (.iconst 3, 1) := by decide +kernel
theorem dX11_sheet_19 : decode cX11_sheet 19 = .ok (.if_icmp .ne 6, 3) := by decide +kernel
theorem dX11_sheet_22 : decode cX11_sheet 22 = .ok (.bipush (-3), 2) := by decide +kernel
theorem dX11_sheet_24 : decode cX11_sheet 24 = .ok (.ireturn, 1) := by decide +kernel
theorem dX11_sheet_25 : decode cX11_sheet 25 = .ok (.iload_n 2, 1) := by decide +kernel
theorem dX11_sheet_26 : decode cX11_sheet 26 = .ok (.ifCond .ge 6, 3) := by decide +kernel
theorem dX11_sheet_29 : decode cX11_sheet 29 = .ok (.bipush (-2), 2) := by decide +kernel
theorem dX11_sheet_31 : decode cX11_sheet 31 = .ok (.ireturn, 1) := by decide +kernel
theorem dX11_sheet_32 : decode cX11_sheet 32 = .ok (.aload_n 0, 1) := by decide +kernel
theorem dX11_sheet_33 : decode cX11_sheet 33 = .ok (.getfield 19, 3) := by decide +kernel
theorem dX11_sheet_36 : decode cX11_sheet 36 = .ok (.aload_n 0, 1) := by decide +kernel
theorem dX11_sheet_37 : decode cX11_sheet 37 = .ok (.getfield 10, 3) := by decide +kernel
theorem dX11_sheet_40 : decode cX11_sheet 40 = .ok (.invokevirtual 120, 3) := by decide +kernel
theorem dX11_sheet_43 : decode cX11_sheet 43 = .ok (.iconst 0, 1) := by decide +kernel
theorem dX11_sheet_44 : decode cX11_sheet 44 = .ok (.istore 5, 2) := by decide +kernel
theorem dX11_sheet_46 : decode cX11_sheet 46 = .ok (.iload 5, 2) := by decide +kernel
theorem dX11_sheet_48 : decode cX11_sheet 48 = .ok (.iconst 4, 1) := by decide +kernel
theorem dX11_sheet_49 : decode cX11_sheet 49 = .ok (.aload_n 0, 1) := by decide +kernel
theorem dX11_sheet_50 : decode cX11_sheet 50 = .ok (.getfield 10, 3) := by decide +kernel
theorem dX11_sheet_53 : decode cX11_sheet 53 = .ok (.getfield 123, 3) := by decide +kernel
theorem dX11_sheet_56 : decode cX11_sheet 56 = .ok (.imul, 1) := by decide +kernel
theorem dX11_sheet_57 : decode cX11_sheet 57 = .ok (.if_icmp .ge 38, 3) := by decide +kernel
theorem dX11_sheet_60 : decode cX11_sheet 60 = .ok (.iload 5, 2) := by decide +kernel
theorem dX11_sheet_62 : decode cX11_sheet 62 = .ok (.iload_n 2, 1) := by decide +kernel
theorem dX11_sheet_63 : decode cX11_sheet 63 = .ok (.if_icmp .ge 17, 3) := by decide +kernel
theorem dX11_sheet_66 : decode cX11_sheet 66 = .ok (.iload_n 1, 1) := by decide +kernel
theorem dX11_sheet_67 : decode cX11_sheet 67 = .ok (.iload_n 3, 1) := by decide +kernel
theorem dX11_sheet_68 : decode cX11_sheet 68 = .ok (.iload 5, 2) := by decide +kernel
theorem dX11_sheet_70 : decode cX11_sheet 70 = .ok (.iload 4, 2) := by decide +kernel
theorem dX11_sheet_72 : decode cX11_sheet 72 = .ok (.imul, 1) := by decide +kernel
theorem dX11_sheet_73 : decode cX11_sheet 73 = .ok (.iadd, 1) := by decide +kernel
theorem dX11_sheet_74 : decode cX11_sheet 74 = .ok (.invokestatic 154, 3) := by decide +kernel
theorem dX11_sheet_77 : decode cX11_sheet 77 = .ok (.ifCond .ge 12, 3) := by decide +kernel
theorem dX11_sheet_80 : decode cX11_sheet 80 = .ok (.aload_n 0, 1) := by decide +kernel
theorem dX11_sheet_81 : decode cX11_sheet 81 = .ok (.getfield 19, 3) := by decide +kernel
theorem dX11_sheet_84 : decode cX11_sheet 84 = .ok (.iload 5, 2) := by decide +kernel
theorem dX11_sheet_86 : decode cX11_sheet 86 = .ok (.invokevirtual 158, 3) := by decide +kernel
theorem dX11_sheet_89 : decode cX11_sheet 89 = .ok (.iinc 5 1, 3) := by decide +kernel
theorem dX11_sheet_92 : decode cX11_sheet 92 = .ok (.goto (-46), 3) := by decide +kernel
theorem dX11_sheet_95 : decode cX11_sheet 95 = .ok (.aload_n 0, 1) := by decide +kernel
theorem dX11_sheet_96 : decode cX11_sheet 96 = .ok (.getfield 19, 3) := by decide +kernel
theorem dX11_sheet_99 : decode cX11_sheet 99 = .ok (.invokevirtual 109, 3) := by decide +kernel
theorem dX11_sheet_102 : decode cX11_sheet 102 = .ok (.ifCond .ne 6, 3) := by decide +kernel
theorem dX11_sheet_105 : decode cX11_sheet 105 = .ok (.bipush (-4), 2) := by decide +kernel
theorem dX11_sheet_107 : decode cX11_sheet 107 = .ok (.ireturn, 1) := by decide +kernel
theorem dX11_sheet_108 : decode cX11_sheet 108 = .ok (.aload_n 0, 1) := by decide +kernel
theorem dX11_sheet_109 : decode cX11_sheet 109 = .ok (.getfield 61, 3) := by decide +kernel
theorem dX11_sheet_112 : decode cX11_sheet 112 = .ok (.aload_n 0, 1) := by decide +kernel
theorem dX11_sheet_113 : decode cX11_sheet 113 = .ok (.getfield 19, 3) := by decide +kernel
theorem dX11_sheet_116 : decode cX11_sheet 116 = .ok (.invokevirtual 117, 3) := by decide +kernel
theorem dX11_sheet_119 : decode cX11_sheet 119 = .ok (.pop, 1) := by decide +kernel
theorem dX11_sheet_120 : decode cX11_sheet 120 = .ok (.aload_n 0, 1) := by decide +kernel
theorem dX11_sheet_121 : decode cX11_sheet 121 = .ok (.getfield 10, 3) := by decide +kernel
theorem dX11_sheet_124 : decode cX11_sheet 124 = .ok (.aload_n 0, 1) := by decide +kernel
theorem dX11_sheet_125 : decode cX11_sheet 125 = .ok (.getfield 19, 3) := by decide +kernel
theorem dX11_sheet_128 : decode cX11_sheet 128 = .ok (.invokevirtual 120, 3) := by decide +kernel
theorem dX11_sheet_131 : decode cX11_sheet 131 = .ok (.aload_n 0, 1) := by decide +kernel
theorem dX11_sheet_132 : decode cX11_sheet 132 = .ok (.getfield 10, 3) := by decide +kernel
theorem dX11_sheet_135 : decode cX11_sheet 135 = .ok (.invokevirtual 162, 3) := by decide +kernel
theorem dX11_sheet_138 : decode cX11_sheet 138 = .ok (.ireturn, 1) := by decide +kernel
theorem dX11_sheetEntry_0 : decode cX11_sheetEntry 0 = .ok (.iload_n 0, 1) := by decide +kernel
theorem dX11_sheetEntry_1 : decode cX11_sheetEntry 1 = .ok (.ifCond .ne 6, 3) := by decide +kernel
theorem dX11_sheetEntry_4 : decode cX11_sheetEntry 4 = .ok (.iload_n 1, 1) := by decide +kernel
theorem dX11_sheetEntry_5 : decode cX11_sheetEntry 5 = .ok (.i2b, 1) := by decide +kernel
theorem dX11_sheetEntry_6 : decode cX11_sheetEntry 6 = .ok (.ireturn, 1) := by decide +kernel
theorem dX11_sheetEntry_7 : decode cX11_sheetEntry 7 = .ok (.iload_n 0, 1) := by decide +kernel
theorem dX11_sheetEntry_8 : decode cX11_sheetEntry 8 = .ok (.iconst 1, 1) := by decide +kernel
theorem dX11_sheetEntry_9 : decode cX11_sheetEntry 9 = .ok (.if_icmp .ne 8, 3) := by decide +kernel
theorem dX11_sheetEntry_12 : decode cX11_sheetEntry 12 = .ok (.iload_n 1, 1) := by decide +kernel
theorem dX11_sheetEntry_13 : decode cX11_sheetEntry 13 = .ok (.i2s, 1) := by decide +kernel
theorem dX11_sheetEntry_14 : decode cX11_sheetEntry 14 = .ok (.goto 4, 3) := by decide +kernel
theorem dX11_sheetEntry_17 : decode cX11_sheetEntry 17 = .ok (.iload_n 1, 1) := by decide +kernel
theorem dX11_sheetEntry_18 : decode cX11_sheetEntry 18 = .ok (.ireturn, 1) := by decide +kernel
theorem dX11_degree_0 : decode cX11_degree 0 = .ok (.aload_n 0, 1) := by decide +kernel
theorem dX11_degree_1 : decode cX11_degree 1 = .ok (.getfield 10, 3) := by decide +kernel
theorem dX11_degree_4 : decode cX11_degree 4 = .ok (.iload_n 1, 1) := by decide +kernel
theorem dX11_degree_5 : decode cX11_degree 5 = .ok (.iload_n 2, 1) := by decide +kernel
theorem dX11_degree_6 : decode cX11_degree 6 = .ok (.iload_n 3, 1) := by decide +kernel
theorem dX11_degree_7 : decode cX11_degree 7 = .ok (.invokevirtual 166, 3) := by decide +kernel
theorem dX11_degree_10 : decode cX11_degree 10 = .ok (.ifCond .ne 5, 3) := by decide +kernel
theorem dX11_degree_13 : decode cX11_degree 13 = .ok (.iconst (-1), 1) := by decide +kernel
theorem dX11_degree_14 : decode cX11_degree 14 = .ok (.ireturn, 1) := by decide +kernel
theorem dX11_degree_15 : decode cX11_degree 15 = .ok (.aload_n 0, 1) := by decide +kernel
theorem dX11_degree_16 : decode cX11_degree 16 = .ok (.getfield 68, 3) := by decide +kernel
theorem dX11_degree_19 : decode cX11_degree 19 = .ok (.aload_n 0, 1) := by decide +kernel
theorem dX11_degree_20 : decode cX11_degree 20 = .ok (.getfield 10, 3) := by decide +kernel
theorem dX11_degree_23 : decode cX11_degree 23 = .ok (.invokevirtual 170, 3) := by decide +kernel
theorem dX11_degree_26 : decode cX11_degree 26 = .ok (.aload_n 0, 1) := by decide +kernel
theorem dX11_degree_27 : decode cX11_degree 27 = .ok (.getfield 68, 3) := by decide +kernel
theorem dX11_degree_30 : decode cX11_degree 30 = .ok (.getfield 173, 3) := by decide +kernel
theorem dX11_degree_33 : decode cX11_degree 33 = .ok (.bipush 16, 2) := by decide +kernel
theorem dX11_degree_35 : decode cX11_degree 35 = .ok (.iload_n 1, 1) := by decide +kernel
theorem dX11_degree_36 : decode cX11_degree 36 = .ok (.imul, 1) := by decide +kernel
theorem dX11_degree_37 : decode cX11_degree 37 = .ok (.iconst 4, 1) := by decide +kernel
theorem dX11_degree_38 : decode cX11_degree 38 = .ok (.iload_n 2, 1) := by decide +kernel
theorem dX11_degree_39 : decode cX11_degree 39 = .ok (.imul, 1) := by decide +kernel
theorem dX11_degree_40 : decode cX11_degree 40 = .ok (.iadd, 1) := by decide +kernel
theorem dX11_degree_41 : decode cX11_degree 41 = .ok (.iload_n 3, 1) := by decide +kernel
theorem dX11_degree_42 : decode cX11_degree 42 = .ok (.iadd, 1) := by decide +kernel
theorem dX11_degree_43 : decode cX11_degree 43 = .ok (.iaload, 1) := by decide +kernel
theorem dX11_degree_44 : decode cX11_degree 44 = .ok (.istore 4, 2) := by decide +kernel
theorem dX11_degree_46 : decode cX11_degree 46 = .ok (.aload_n 0, 1) := by decide +kernel
theorem dX11_degree_47 : decode cX11_degree 47 = .ok (.getfield 40, 3) := by decide +kernel
theorem dX11_degree_50 : decode cX11_degree 50 = .ok (.invokevirtual 141, 3) := by decide +kernel
theorem dX11_degree_53 : decode cX11_degree 53 = .ok (.aload_n 0, 1) := by decide +kernel
theorem dX11_degree_54 : decode cX11_degree 54 = .ok (.getfield 40, 3) := by decide +kernel
theorem dX11_degree_57 : decode cX11_degree 57 = .ok (.aload_n 0, 1) := by decide +kernel
theorem dX11_degree_58 : decode cX11_degree 58 = .ok (.getfield 68, 3) := by decide +kernel
theorem dX11_degree_61 : decode cX11_degree 61 = .ok (.getfield 176, 3) := by decide +kernel
theorem dX11_degree_64 : decode cX11_degree 64 = .ok (.iload 4, 2) := by decide +kernel
theorem dX11_degree_66 : decode cX11_degree 66 = .ok (.baload, 1) := by decide +kernel
theorem dX11_degree_67 : decode cX11_degree 67 = .ok (.invokevirtual 179, 3) := by decide +kernel
theorem dX11_degree_70 : decode cX11_degree 70 = .ok (.aload_n 0, 1) := by decide +kernel
theorem dX11_degree_71 : decode cX11_degree 71 = .ok (.getfield 40, 3) := by decide +kernel
theorem dX11_degree_74 : decode cX11_degree 74 = .ok (.aload_n 0, 1) := by decide +kernel
theorem dX11_degree_75 : decode cX11_degree 75 = .ok (.getfield 68, 3) := by decide +kernel
theorem dX11_degree_78 : decode cX11_degree 78 = .ok (.iload 4, 2) := by decide +kernel
theorem dX11_degree_80 : decode cX11_degree 80 = .ok (.invokevirtual 183, 3) := by decide +kernel
theorem dX11_degree_83 : decode cX11_degree 83 = .ok (.invokevirtual 179, 3) := by decide +kernel
theorem dX11_degree_86 : decode cX11_degree 86 = .ok (.aload_n 0, 1) := by decide +kernel
theorem dX11_degree_87 : decode cX11_degree 87 = .ok (.getfield 68, 3) := by decide +kernel
theorem dX11_degree_90 : decode cX11_degree 90 = .ok (.getfield 186, 3) := by decide +kernel
theorem dX11_degree_93 : decode cX11_degree 93 = .ok (.iload 4, 2) := by decide +kernel
theorem dX11_degree_95 : decode cX11_degree 95 = .ok (.iaload, 1) := by decide +kernel
theorem dX11_degree_96 : decode cX11_degree 96 = .ok (.ireturn, 1) := by decide +kernel
theorem dX11_point_0 : decode cX11_point 0 = .ok (.aload_n 0, 1) := by decide +kernel
theorem dX11_point_1 : decode cX11_point 1 = .ok (.getfield 10, 3) := by decide +kernel
theorem dX11_point_4 : decode cX11_point 4 = .ok (.iload_n 1, 1) := by decide +kernel
theorem dX11_point_5 : decode cX11_point 5 = .ok (.iload_n 2, 1) := by decide +kernel
theorem dX11_point_6 : decode cX11_point 6 = .ok (.invokevirtual 127, 3) := by decide +kernel
theorem dX11_point_9 : decode cX11_point 9 = .ok (.ifCond .ne 5, 3) := by decide +kernel
theorem dX11_point_12 : decode cX11_point 12 = .ok (.iconst (-1), 1) := by decide +kernel
theorem dX11_point_13 : decode cX11_point 13 = .ok (.ireturn, 1) := by decide +kernel
theorem dX11_point_14 : decode cX11_point 14 = .ok (.aload_n 0, 1) := by decide +kernel
theorem dX11_point_15 : decode cX11_point 15 = .ok (.getfield 68, 3) := by decide +kernel
theorem dX11_point_18 : decode cX11_point 18 = .ok (.aload_n 0, 1) := by decide +kernel
theorem dX11_point_19 : decode cX11_point 19 = .ok (.getfield 10, 3) := by decide +kernel
theorem dX11_point_22 : decode cX11_point 22 = .ok (.invokevirtual 170, 3) := by decide +kernel
theorem dX11_point_25 : decode cX11_point 25 = .ok (.aload_n 0, 1) := by decide +kernel
theorem dX11_point_26 : decode cX11_point 26 = .ok (.getfield 68, 3) := by decide +kernel
theorem dX11_point_29 : decode cX11_point 29 = .ok (.getfield 189, 3) := by decide +kernel
theorem dX11_point_32 : decode cX11_point 32 = .ok (.iconst 4, 1) := by decide +kernel
theorem dX11_point_33 : decode cX11_point 33 = .ok (.iload_n 1, 1) := by decide +kernel
theorem dX11_point_34 : decode cX11_point 34 = .ok (.imul, 1) := by decide +kernel
theorem dX11_point_35 : decode cX11_point 35 = .ok (.iload_n 2, 1) := by decide +kernel
theorem dX11_point_36 : decode cX11_point 36 = .ok (.iadd, 1) := by decide +kernel
theorem dX11_point_37 : decode cX11_point 37 = .ok (.iaload, 1) := by decide +kernel
theorem dX11_point_38 : decode cX11_point 38 = .ok (.istore_n 3, 1) := by decide +kernel
theorem dX11_point_39 : decode cX11_point 39 = .ok (.aload_n 0, 1) := by decide +kernel
theorem dX11_point_40 : decode cX11_point 40 = .ok (.getfield 40, 3) := by decide +kernel
theorem dX11_point_43 : decode cX11_point 43 = .ok (.invokevirtual 141, 3) := by decide +kernel
theorem dX11_point_46 : decode cX11_point 46 = .ok (.aload_n 0, 1) := by decide +kernel
theorem dX11_point_47 : decode cX11_point 47 = .ok (.getfield 40, 3) := by decide +kernel
theorem dX11_point_50 : decode cX11_point 50 = .ok (.aload_n 0, 1) := by decide +kernel
theorem dX11_point_51 : decode cX11_point 51 = .ok (.getfield 68, 3) := by decide +kernel
theorem dX11_point_54 : decode cX11_point 54 = .ok (.getfield 192, 3) := by decide +kernel
theorem dX11_point_57 : decode cX11_point 57 = .ok (.iload_n 3, 1) := by decide +kernel
theorem dX11_point_58 : decode cX11_point 58 = .ok (.iaload, 1) := by decide +kernel
theorem dX11_point_59 : decode cX11_point 59 = .ok (.i2l, 1) := by decide +kernel
theorem dX11_point_60 : decode cX11_point 60 = .ok (.invokevirtual 144, 3) := by decide +kernel
theorem dX11_point_63 : decode cX11_point 63 = .ok (.aload_n 0, 1) := by decide +kernel
theorem dX11_point_64 : decode cX11_point 64 = .ok (.getfield 40, 3) := by decide +kernel
theorem dX11_point_67 : decode cX11_point 67 = .ok (.aload_n 0, 1) := by decide +kernel
theorem dX11_point_68 : decode cX11_point 68 = .ok (.getfield 68, 3) := by decide +kernel
theorem dX11_point_71 : decode cX11_point 71 = .ok (.iload_n 3, 1) := by decide +kernel
theorem dX11_point_72 : decode cX11_point 72 = .ok (.invokevirtual 195, 3) := by decide +kernel
theorem dX11_point_75 : decode cX11_point 75 = .ok (.i2l, 1) := by decide +kernel
theorem dX11_point_76 : decode cX11_point 76 = .ok (.invokevirtual 144, 3) := by decide +kernel
theorem dX11_point_79 : decode cX11_point 79 = .ok (.aload_n 0, 1) := by decide +kernel
theorem dX11_point_80 : decode cX11_point 80 = .ok (.getfield 40, 3) := by decide +kernel
theorem dX11_point_83 : decode cX11_point 83 = .ok (.aload_n 0, 1) := by decide +kernel
theorem dX11_point_84 : decode cX11_point 84 = .ok (.getfield 68, 3) := by decide +kernel
theorem dX11_point_87 : decode cX11_point 87 = .ok (.iload_n 3, 1) := by decide +kernel
theorem dX11_point_88 : decode cX11_point 88 = .ok (.invokevirtual 198, 3) := by decide +kernel
theorem dX11_point_91 : decode cX11_point 91 = .ok (.invokevirtual 179, 3) := by decide +kernel
theorem dX11_point_94 : decode cX11_point 94 = .ok (.aload_n 0, 1) := by decide +kernel
theorem dX11_point_95 : decode cX11_point 95 = .ok (.getfield 68, 3) := by decide +kernel
theorem dX11_point_98 : decode cX11_point 98 = .ok (.getfield 201, 3) := by decide +kernel
theorem dX11_point_101 : decode cX11_point 101 = .ok (.iload_n 3, 1) := by decide +kernel
theorem dX11_point_102 : decode cX11_point 102 = .ok (.iaload, 1) := by decide +kernel
theorem dX11_point_103 : decode cX11_point 103 = .ok (.ireturn, 1) := by decide +kernel
theorem dX11_edges_0 : decode cX11_edges 0 = .ok (.aload_n 0, 1) := by decide +kernel
theorem dX11_edges_1 : decode cX11_edges 1 = .ok (.getfield 68, 3) := by decide +kernel
theorem dX11_edges_4 : decode cX11_edges 4 = .ok (.aload_n 0, 1) := by decide +kernel
theorem dX11_edges_5 : decode cX11_edges 5 = .ok (.getfield 10, 3) := by decide +kernel
theorem dX11_edges_8 : decode cX11_edges 8 = .ok (.invokevirtual 170, 3) := by decide +kernel
theorem dX11_edges_11 : decode cX11_edges 11 = .ok (.aload_n 0, 1) := by decide +kernel
theorem dX11_edges_12 : decode cX11_edges 12 = .ok (.getfield 68, 3) := by decide +kernel
theorem dX11_edges_15 : decode cX11_edges 15 = .ok (.invokevirtual 203, 3) := by decide +kernel
theorem dX11_edges_18 : decode cX11_edges 18 = .ok (.istore_n 1, 1) := by decide +kernel
theorem dX11_edges_19 : decode cX11_edges 19 = .ok (.aload_n 0, 1) := by decide +kernel
theorem dX11_edges_20 : decode cX11_edges 20 = .ok (.getfield 68, 3) := by decide +kernel
theorem dX11_edges_23 : decode cX11_edges 23 = .ok (.invokevirtual 206, 3) := by decide +kernel
theorem dX11_edges_26 : decode cX11_edges 26 = .ok (.istore_n 2, 1) := by decide +kernel
theorem dX11_edges_27 : decode cX11_edges 27 = .ok (.aload_n 0, 1) := by decide +kernel
theorem dX11_edges_28 : decode cX11_edges 28 = .ok (.getfield 40, 3) := by decide +kernel
theorem dX11_edges_31 : decode cX11_edges 31 = .ok (.invokevirtual 141, 3) := by decide +kernel
theorem dX11_edges_34 : decode cX11_edges 34 = .ok (.aload_n 0, 1) := by decide +kernel
theorem dX11_edges_35 : decode cX11_edges 35 = .ok (.getfield 40, 3) := by decide +kernel
theorem dX11_edges_38 : decode cX11_edges 38 = .ok (.iload_n 1, 1) := by decide +kernel
theorem dX11_edges_39 : decode cX11_edges 39 = .ok (.i2l, 1) := by decide +kernel
theorem dX11_edges_40 : decode cX11_edges 40 = .ok (.invokevirtual 144, 3) := by decide +kernel
theorem dX11_edges_43 : decode cX11_edges 43 = .ok (.aload_n 0, 1) := by decide +kernel
theorem dX11_edges_44 : decode cX11_edges 44 = .ok (.getfield 40, 3) := by decide +kernel
theorem dX11_edges_47 : decode cX11_edges 47 = .ok (.aload_n 0, 1) := by decide +kernel
theorem dX11_edges_48 : decode cX11_edges 48 = .ok (.getfield 68, 3) := by decide +kernel
theorem dX11_edges_51 : decode cX11_edges 51 = .ok (.iload_n 1, 1) := by decide +kernel
theorem dX11_edges_52 : decode cX11_edges 52 = .ok (.invokevirtual 209, 3) := by decide +kernel
theorem dX11_edges_55 : decode cX11_edges 55 = .ok (.i2l, 1) := by decide +kernel
theorem dX11_edges_56 : decode cX11_edges 56 = .ok (.invokevirtual 144, 3) := by decide +kernel
theorem dX11_edges_59 : decode cX11_edges 59 = .ok (.aload_n 0, 1) := by decide +kernel
theorem dX11_edges_60 : decode cX11_edges 60 = .ok (.getfield 40, 3) := by decide +kernel
theorem dX11_edges_63 : decode cX11_edges 63 = .ok (.iload_n 2, 1) := by decide +kernel
theorem dX11_edges_64 : decode cX11_edges 64 = .ok (.i2l, 1) := by decide +kernel
theorem dX11_edges_65 : decode cX11_edges 65 = .ok (.invokevirtual 144, 3) := by decide +kernel
theorem dX11_edges_68 : decode cX11_edges 68 = .ok (.aload_n 0, 1) := by decide +kernel
theorem dX11_edges_69 : decode cX11_edges 69 = .ok (.getfield 40, 3) := by decide +kernel
theorem dX11_edges_72 : decode cX11_edges 72 = .ok (.aload_n 0, 1) := by decide +kernel
theorem dX11_edges_73 : decode cX11_edges 73 = .ok (.getfield 68, 3) := by decide +kernel
theorem dX11_edges_76 : decode cX11_edges 76 = .ok (.iload_n 2, 1) := by decide +kernel
theorem dX11_edges_77 : decode cX11_edges 77 = .ok (.invokevirtual 209, 3) := by decide +kernel
theorem dX11_edges_80 : decode cX11_edges 80 = .ok (.i2l, 1) := by decide +kernel
theorem dX11_edges_81 : decode cX11_edges 81 = .ok (.invokevirtual 144, 3) := by decide +kernel
theorem dX11_edges_84 : decode cX11_edges 84 = .ok (.aload_n 0, 1) := by decide +kernel
theorem dX11_edges_85 : decode cX11_edges 85 = .ok (.getfield 40, 3) := by decide +kernel
theorem dX11_edges_88 : decode cX11_edges 88 = .ok (.aload_n 0, 1) := by decide +kernel
theorem dX11_edges_89 : decode cX11_edges 89 = .ok (.getfield 68, 3) := by decide +kernel
theorem dX11_edges_92 : decode cX11_edges 92 = .ok (.invokevirtual 212, 3) := by decide +kernel
theorem dX11_edges_95 : decode cX11_edges 95 = .ok (.i2l, 1) := by decide +kernel
theorem dX11_edges_96 : decode cX11_edges 96 = .ok (.invokevirtual 144, 3) := by decide +kernel
theorem dX11_edges_99 : decode cX11_edges 99 = .ok (.aload_n 0, 1) := by decide +kernel
theorem dX11_edges_100 : decode cX11_edges 100 = .ok (.getfield 68, 3) := by decide +kernel
theorem dX11_edges_103 : decode cX11_edges 103 = .ok (.getfield 215, 3) := by decide +kernel
theorem dX11_edges_106 : decode cX11_edges 106 = .ok (.ireturn, 1) := by decide +kernel
theorem dX11_points_0 : decode cX11_points 0 = .ok (.aload_n 0, 1) := by decide +kernel
theorem dX11_points_1 : decode cX11_points 1 = .ok (.getfield 68, 3) := by decide +kernel
theorem dX11_points_4 : decode cX11_points 4 = .ok (.aload_n 0, 1) := by decide +kernel
theorem dX11_points_5 : decode cX11_points 5 = .ok (.getfield 10, 3) := by decide +kernel
theorem dX11_points_8 : decode cX11_points 8 = .ok (.invokevirtual 170, 3) := by decide +kernel
theorem dX11_points_11 : decode cX11_points 11 = .ok (.aload_n 0, 1) := by decide +kernel
theorem dX11_points_12 : decode cX11_points 12 = .ok (.getfield 40, 3) := by decide +kernel
theorem dX11_points_15 : decode cX11_points 15 = .ok (.invokevirtual 141, 3) := by decide +kernel
theorem dX11_points_18 : decode cX11_points 18 = .ok (.aload_n 0, 1) := by decide +kernel
theorem dX11_points_19 : decode cX11_points 19 = .ok (.getfield 40, 3) := by decide +kernel
theorem dX11_points_22 : decode cX11_points 22 = .ok (.aload_n 0, 1) := by decide +kernel
theorem dX11_points_23 : decode cX11_points 23 = .ok (.getfield 68, 3) := by decide +kernel
theorem dX11_points_26 : decode cX11_points 26 = .ok (.invokevirtual 218, 3) := by decide +kernel
theorem dX11_points_29 : decode cX11_points 29 = .ok (.i2l, 1) := by decide +kernel
theorem dX11_points_30 : decode cX11_points 30 = .ok (.invokevirtual 144, 3) := by decide +kernel
theorem dX11_points_33 : decode cX11_points 33 = .ok (.aload_n 0, 1) := by decide +kernel
theorem dX11_points_34 : decode cX11_points 34 = .ok (.getfield 40, 3) := by decide +kernel
theorem dX11_points_37 : decode cX11_points 37 = .ok (.aload_n 0, 1) := by decide +kernel
theorem dX11_points_38 : decode cX11_points 38 = .ok (.getfield 68, 3) := by decide +kernel
theorem dX11_points_41 : decode cX11_points 41 = .ok (.invokevirtual 221, 3) := by decide +kernel
theorem dX11_points_44 : decode cX11_points 44 = .ok (.i2l, 1) := by decide +kernel
theorem dX11_points_45 : decode cX11_points 45 = .ok (.invokevirtual 144, 3) := by decide +kernel
theorem dX11_points_48 : decode cX11_points 48 = .ok (.aload_n 0, 1) := by decide +kernel
theorem dX11_points_49 : decode cX11_points 49 = .ok (.getfield 68, 3) := by decide +kernel
theorem dX11_points_52 : decode cX11_points 52 = .ok (.getfield 224, 3) := by decide +kernel
theorem dX11_points_55 : decode cX11_points 55 = .ok (.ireturn, 1) := by decide +kernel
theorem dX11_manifold_0 : decode cX11_manifold 0 = .ok (.aload_n 0, 1) := by decide +kernel
theorem dX11_manifold_1 : decode cX11_manifold 1 = .ok (.getfield 68, 3) := by decide +kernel
theorem dX11_manifold_4 : decode cX11_manifold 4 = .ok (.aload_n 0, 1) := by decide +kernel
theorem dX11_manifold_5 : decode cX11_manifold 5 = .ok (.getfield 10, 3) := by decide +kernel
theorem dX11_manifold_8 : decode cX11_manifold 8 = .ok (.invokevirtual 170, 3) := by decide +kernel
theorem dX11_manifold_11 : decode cX11_manifold 11 = .ok (.aload_n 0, 1) := by decide +kernel
theorem dX11_manifold_12 : decode cX11_manifold 12 = .ok (.getfield 40, 3) := by decide +kernel
theorem dX11_manifold_15 : decode cX11_manifold 15 = .ok (.invokevirtual 141, 3) := by decide +kernel
theorem dX11_manifold_18 : decode cX11_manifold 18 = .ok (.aload_n 0, 1) := by decide +kernel
theorem dX11_manifold_19 : decode cX11_manifold 19 = .ok (.getfield 40, 3) := by decide +kernel
theorem dX11_manifold_22 : decode cX11_manifold 22 = .ok (.aload_n 0, 1) := by decide +kernel
theorem dX11_manifold_23 : decode cX11_manifold 23 = .ok (.getfield 10, 3) := by decide +kernel
theorem dX11_manifold_26 : decode cX11_manifold 26 = .ok (.invokevirtual 162, 3) := by decide +kernel
theorem dX11_manifold_29 : decode cX11_manifold 29 = .ok (.i2l, 1) := by decide +kernel
theorem dX11_manifold_30 : decode cX11_manifold 30 = .ok (.invokevirtual 144, 3) := by decide +kernel
theorem dX11_manifold_33 : decode cX11_manifold 33 = .ok (.aload_n 0, 1) := by decide +kernel
theorem dX11_manifold_34 : decode cX11_manifold 34 = .ok (.getfield 40, 3) := by decide +kernel
theorem dX11_manifold_37 : decode cX11_manifold 37 = .ok (.aload_n 0, 1) := by decide +kernel
theorem dX11_manifold_38 : decode cX11_manifold 38 = .ok (.getfield 68, 3) := by decide +kernel
theorem dX11_manifold_41 : decode cX11_manifold 41 = .ok (.invokevirtual 212, 3) := by decide +kernel
theorem dX11_manifold_44 : decode cX11_manifold 44 = .ok (.i2l, 1) := by decide +kernel
theorem dX11_manifold_45 : decode cX11_manifold 45 = .ok (.invokevirtual 144, 3) := by decide +kernel
theorem dX11_manifold_48 : decode cX11_manifold 48 = .ok (.aload_n 0, 1) := by decide +kernel
theorem dX11_manifold_49 : decode cX11_manifold 49 = .ok (.getfield 40, 3) := by decide +kernel
theorem dX11_manifold_52 : decode cX11_manifold 52 = .ok (.aload_n 0, 1) := by decide +kernel
theorem dX11_manifold_53 : decode cX11_manifold 53 = .ok (.getfield 68, 3) := by decide +kernel
theorem dX11_manifold_56 : decode cX11_manifold 56 = .ok (.getfield 224, 3) := by decide +kernel
theorem dX11_manifold_59 : decode cX11_manifold 59 = .ok (.aload_n 0, 1) := by decide +kernel
theorem dX11_manifold_60 : decode cX11_manifold 60 = .ok (.getfield 68, 3) := by decide +kernel
theorem dX11_manifold_63 : decode cX11_manifold 63 = .ok (.invokevirtual 218, 3) := by decide +kernel
theorem dX11_manifold_66 : decode cX11_manifold 66 = .ok (.isub, 1) := by decide +kernel
theorem dX11_manifold_67 : decode cX11_manifold 67 = .ok (.i2l, 1) := by decide +kernel
theorem dX11_manifold_68 : decode cX11_manifold 68 = .ok (.invokevirtual 144, 3) := by decide +kernel
theorem dX11_manifold_71 : decode cX11_manifold 71 = .ok (.aload_n 0, 1) := by decide +kernel
theorem dX11_manifold_72 : decode cX11_manifold 72 = .ok (.aload_n 0, 1) := by decide +kernel
theorem dX11_manifold_73 : decode cX11_manifold 73 = .ok (.getfield 10, 3) := by decide +kernel
theorem dX11_manifold_76 : decode cX11_manifold 76 = .ok (.invokevirtual 227, 3) := by decide +kernel
theorem dX11_manifold_79 : decode cX11_manifold 79 = .ok (.ifCond .eq 7, 3) := by decide +kernel
theorem dX11_manifold_82 : decode cX11_manifold 82 = .ok (.iconst 1, 1) := by decide +kernel
theorem dX11_manifold_83 : decode cX11_manifold 83 = .ok (.goto 4, 3) := by decide +kernel
theorem dX11_manifold_86 : decode cX11_manifold 86 = .ok (.iconst 0, 1) := by decide +kernel
theorem dX11_manifold_87 : decode cX11_manifold 87 = .ok (.ireturn, 1) := by decide +kernel
theorem dX11_isManifold_0 : decode cX11_isManifold 0 = .ok (.aload_n 1, 1) := by decide +kernel
theorem dX11_isManifold_1 : decode cX11_isManifold 1 = .ok (.invokevirtual 162, 3) := by decide +kernel
theorem dX11_isManifold_4 : decode cX11_isManifold 4 = .ok (.ifCond .ne 34, 3) := by decide +kernel
theorem dX11_isManifold_7 : decode cX11_isManifold 7 = .ok (.aload_n 0, 1) := by decide +kernel
theorem dX11_isManifold_8 : decode cX11_isManifold 8 = .ok (.getfield 68, 3) := by decide +kernel
theorem dX11_isManifold_11 : decode cX11_isManifold 11 = .ok (.invokevirtual 212, 3) := by decide +kernel
theorem dX11_isManifold_14 : decode cX11_isManifold 14 = .ok (.ifCond .ne 24, 3) := by decide +kernel
theorem dX11_isManifold_17 : decode cX11_isManifold 17 = .ok (.aload_n 0, 1) := by decide +kernel
theorem dX11_isManifold_18 : decode cX11_isManifold 18 = .ok (.getfield 68, 3) := by decide +kernel
theorem dX11_isManifold_21 : decode cX11_isManifold 21 = .ok (.invokevirtual 218, 3) := by decide +kernel
theorem dX11_isManifold_24 : decode cX11_isManifold 24 = .ok (.aload_n 0, 1) := by decide +kernel
theorem dX11_isManifold_25 : decode cX11_isManifold 25 = .ok (.getfield 68, 3) := by decide +kernel
theorem dX11_isManifold_28 : decode cX11_isManifold 28 = .ok (.getfield 224, 3) := by decide +kernel
theorem dX11_isManifold_31 : decode cX11_isManifold 31 = .ok (.if_icmp .ne 7, 3) := by decide +kernel
theorem dX11_isManifold_34 : decode cX11_isManifold 34 = .ok (.iconst 1, 1) := by decide +kernel
theorem dX11_isManifold_35 : decode cX11_isManifold 35 = .ok (.goto 4, 3) := by decide +kernel
theorem dX11_isManifold_38 : decode cX11_isManifold 38 = .ok (.iconst 0, 1) := by decide +kernel
theorem dX11_isManifold_39 : decode cX11_isManifold 39 = .ok (.ireturn, 1) := by decide +kernel
theorem dX11_sides_0 : decode cX11_sides 0 = .ok (.aload_n 0, 1) := by decide +kernel
theorem dX11_sides_1 : decode cX11_sides 1 = .ok (.getfield 10, 3) := by decide +kernel
theorem dX11_sides_4 : decode cX11_sides 4 = .ok (.invokevirtual 231, 3) := by decide +kernel
theorem dX11_sides_7 : decode cX11_sides 7 = .ok (.istore_n 1, 1) := by decide +kernel
theorem dX11_sides_8 : decode cX11_sides 8 = .ok (.aload_n 0, 1) := by decide +kernel
theorem dX11_sides_9 : decode cX11_sides 9 = .ok (.getfield 40, 3) := by decide +kernel
theorem dX11_sides_12 : decode cX11_sides 12 = .ok (.invokevirtual 141, 3) := by decide +kernel
theorem dX11_sides_15 : decode cX11_sides 15 = .ok (.iload_n 1, 1) := by decide +kernel
theorem dX11_sides_16 : decode cX11_sides 16 = .ok (.ifCond .ge 5, 3) := by decide +kernel
theorem dX11_sides_19 : decode cX11_sides 19 = .ok (.iconst 0, 1) := by decide +kernel
theorem dX11_sides_20 : decode cX11_sides 20 = .ok (.ireturn, 1) := by decide +kernel
theorem dX11_sides_21 : decode cX11_sides 21 = .ok (.aload_n 0, 1) := by decide +kernel
theorem dX11_sides_22 : decode cX11_sides 22 = .ok (.getfield 40, 3) := by decide +kernel
theorem dX11_sides_25 : decode cX11_sides 25 = .ok (.iload_n 1, 1) := by decide +kernel
theorem dX11_sides_26 : decode cX11_sides 26 = .ok (.i2l, 1) := by decide +kernel
theorem dX11_sides_27 : decode cX11_sides 27 = .ok (.invokevirtual 144, 3) := by decide +kernel
theorem dX11_sides_30 : decode cX11_sides 30 = .ok (.iconst 1, 1) := by decide +kernel
theorem dX11_sides_31 : decode cX11_sides 31 = .ok (.ireturn, 1) := by decide +kernel
theorem dX11_group_0 : decode cX11_group 0 = .ok (.aload_n 0, 1) := by decide +kernel
theorem dX11_group_1 : decode cX11_group 1 = .ok (.getfield 68, 3) := by decide +kernel
theorem dX11_group_4 : decode cX11_group 4 = .ok (.aload_n 0, 1) := by decide +kernel
theorem dX11_group_5 : decode cX11_group 5 = .ok (.getfield 10, 3) := by decide +kernel
theorem dX11_group_8 : decode cX11_group 8 = .ok (.invokevirtual 170, 3) := by decide +kernel
theorem dX11_group_11 : decode cX11_group 11 = .ok (.aload_n 0, 1) := by decide +kernel
theorem dX11_group_12 : decode cX11_group 12 = .ok (.getfield 93, 3) := by decide +kernel
theorem dX11_group_15 : decode cX11_group 15 = .ok (.aload_n 0, 1) := by decide +kernel
theorem dX11_group_16 : decode cX11_group 16 = .ok (.getfield 10, 3) := by decide +kernel
theorem dX11_group_19 : decode cX11_group 19 = .ok (.aload_n 0, 1) := by decide +kernel
theorem dX11_group_20 : decode cX11_group 20 = .ok (.getfield 68, 3) := by decide +kernel
theorem dX11_group_23 : decode cX11_group 23 = .ok (.invokevirtual 234, 3) := by decide +kernel
theorem dX11_group_26 : decode cX11_group 26 = .ok (.istore_n 1, 1) := by decide +kernel
theorem dX11_group_27 : decode cX11_group 27 = .ok (.aload_n 0, 1) := by decide +kernel
theorem dX11_group_28 : decode cX11_group 28 = .ok (.getfield 40, 3) := by decide +kernel
theorem dX11_group_31 : decode cX11_group 31 = .ok (.invokevirtual 141, 3) := by decide +kernel
theorem dX11_group_34 : decode cX11_group 34 = .ok (.iconst 0, 1) := by decide +kernel
theorem dX11_group_35 : decode cX11_group 35 = .ok (.istore_n 2, 1) := by decide +kernel
theorem dX11_group_36 : decode cX11_group 36 = .ok (.iload_n 2, 1) := by decide +kernel
theorem dX11_group_37 : decode cX11_group 37 = .ok (.aload_n 0, 1) := by decide +kernel
theorem dX11_group_38 : decode cX11_group 38 = .ok (.getfield 93, 3) := by decide +kernel
theorem dX11_group_41 : decode cX11_group 41 = .ok (.getfield 238, 3) := by decide +kernel
theorem dX11_group_44 : decode cX11_group 44 = .ok (.if_icmp .ge 25, 3) := by decide +kernel
theorem dX11_group_47 : decode cX11_group 47 = .ok (.aload_n 0, 1) := by decide +kernel
theorem dX11_group_48 : decode cX11_group 48 = .ok (.getfield 40, 3) := by decide +kernel
theorem dX11_group_51 : decode cX11_group 51 = .ok (.aload_n 0, 1) := by decide +kernel
theorem dX11_group_52 : decode cX11_group 52 = .ok (.getfield 93, 3) := by decide +kernel
theorem dX11_group_55 : decode cX11_group 55 = .ok (.getfield 241, 3) := by decide +kernel
theorem dX11_group_58 : decode cX11_group 58 = .ok (.iload_n 2, 1) := by decide +kernel
theorem dX11_group_59 : decode cX11_group 59 = .ok (.laload, 1) := by decide +kernel
theorem dX11_group_60 : decode cX11_group 60 = .ok (.invokevirtual 144, 3) := by decide +kernel
theorem dX11_group_63 : decode cX11_group 63 = .ok (.iinc 2 1, 3) := by decide +kernel
theorem dX11_group_66 : decode cX11_group 66 = .ok (.goto (-30), 3) := by decide +kernel
theorem dX11_group_69 : decode cX11_group 69 = .ok (.iload_n 1, 1) := by decide +kernel
theorem dX11_group_70 : decode cX11_group 70 = .ok (.ireturn, 1) := by decide +kernel
theorem dX11_euler_0 : decode cX11_euler 0 = .ok (.aload_n 0, 1) := by decide +kernel
theorem dX11_euler_1 : decode cX11_euler 1 = .ok (.getfield 68, 3) := by decide +kernel
theorem dX11_euler_4 : decode cX11_euler 4 = .ok (.aload_n 0, 1) := by decide +kernel
theorem dX11_euler_5 : decode cX11_euler 5 = .ok (.getfield 10, 3) := by decide +kernel
theorem dX11_euler_8 : decode cX11_euler 8 = .ok (.invokevirtual 170, 3) := by decide +kernel
theorem dX11_euler_11 : decode cX11_euler 11 = .ok (.iconst 4, 1) := by decide +kernel
theorem dX11_euler_12 : decode cX11_euler 12 = .ok (.aload_n 0, 1) := by decide +kernel
theorem dX11_euler_13 : decode cX11_euler 13 = .ok (.getfield 10, 3) := by decide +kernel
theorem dX11_euler_16 : decode cX11_euler 16 = .ok (.getfield 123, 3) := by decide +kernel
theorem dX11_euler_19 : decode cX11_euler 19 = .ok (.imul, 1) := by decide +kernel
theorem dX11_euler_20 : decode cX11_euler 20 = .ok (.aload_n 0, 1) := by decide +kernel
theorem dX11_euler_21 : decode cX11_euler 21 = .ok (.getfield 10, 3) := by decide +kernel
theorem dX11_euler_24 : decode cX11_euler 24 = .ok (.invokevirtual 162, 3) := by decide +kernel
theorem dX11_euler_27 : decode cX11_euler 27 = .ok (.iadd, 1) := by decide +kernel
theorem dX11_euler_28 : decode cX11_euler 28 = .ok (.iconst 2, 1) := by decide +kernel
theorem dX11_euler_29 : decode cX11_euler 29 = .ok (.idiv, 1) := by decide +kernel
theorem dX11_euler_30 : decode cX11_euler 30 = .ok (.istore_n 1, 1) := by decide +kernel
theorem dX11_euler_31 : decode cX11_euler 31 = .ok (.bipush 100, 2) := by decide +kernel
theorem dX11_euler_33 : decode cX11_euler 33 = .ok (.aload_n 0, 1) := by decide +kernel
theorem dX11_euler_34 : decode cX11_euler 34 = .ok (.getfield 68, 3) := by decide +kernel
theorem dX11_euler_37 : decode cX11_euler 37 = .ok (.getfield 224, 3) := by decide +kernel
theorem dX11_euler_40 : decode cX11_euler 40 = .ok (.iadd, 1) := by decide +kernel
theorem dX11_euler_41 : decode cX11_euler 41 = .ok (.aload_n 0, 1) := by decide +kernel
theorem dX11_euler_42 : decode cX11_euler 42 = .ok (.getfield 68, 3) := by decide +kernel
theorem dX11_euler_45 : decode cX11_euler 45 = .ok (.getfield 215, 3) := by decide +kernel
theorem dX11_euler_48 : decode cX11_euler 48 = .ok (.isub, 1) := by decide +kernel
theorem dX11_euler_49 : decode cX11_euler 49 = .ok (.iload_n 1, 1) := by decide +kernel
theorem dX11_euler_50 : decode cX11_euler 50 = .ok (.iadd, 1) := by decide +kernel
theorem dX11_euler_51 : decode cX11_euler 51 = .ok (.aload_n 0, 1) := by decide +kernel
theorem dX11_euler_52 : decode cX11_euler 52 = .ok (.getfield 10, 3) := by decide +kernel
theorem dX11_euler_55 : decode cX11_euler 55 = .ok (.getfield 123, 3) := by decide +kernel
theorem dX11_euler_58 : decode cX11_euler 58 = .ok (.isub, 1) := by decide +kernel
theorem dX11_euler_59 : decode cX11_euler 59 = .ok (.ireturn, 1) := by decide +kernel
theorem dX11_alike_0 : decode cX11_alike 0 = .ok (.aload_n 0, 1) := by decide +kernel
theorem dX11_alike_1 : decode cX11_alike 1 = .ok (.getfield 19, 3) := by decide +kernel
theorem dX11_alike_4 : decode cX11_alike 4 = .ok (.aload_n 0, 1) := by decide +kernel
theorem dX11_alike_5 : decode cX11_alike 5 = .ok (.getfield 10, 3) := by decide +kernel
theorem dX11_alike_8 : decode cX11_alike 8 = .ok (.invokevirtual 120, 3) := by decide +kernel
theorem dX11_alike_11 : decode cX11_alike 11 = .ok (.aload_n 0, 1) := by decide +kernel
theorem dX11_alike_12 : decode cX11_alike 12 = .ok (.getfield 61, 3) := by decide +kernel
theorem dX11_alike_15 : decode cX11_alike 15 = .ok (.aload_n 0, 1) := by decide +kernel
theorem dX11_alike_16 : decode cX11_alike 16 = .ok (.getfield 19, 3) := by decide +kernel
theorem dX11_alike_19 : decode cX11_alike 19 = .ok (.invokevirtual 117, 3) := by decide +kernel
theorem dX11_alike_22 : decode cX11_alike 22 = .ok (.ireturn, 1) := by decide +kernel
theorem dX11_two_0 : decode cX11_two 0 = .ok (.aload_n 0, 1) := by decide +kernel
theorem dX11_two_1 : decode cX11_two 1 = .ok (.iconst 0, 1) := by decide +kernel
theorem dX11_two_2 : decode cX11_two 2 = .ok (.iload_n 1, 1) := by decide +kernel
theorem dX11_two_3 : decode cX11_two 3 = .ok (.iload_n 2, 1) := by decide +kernel
theorem dX11_two_4 : decode cX11_two 4 = .ok (.iconst 0, 1) := by decide +kernel
theorem dX11_two_5 : decode cX11_two 5 = .ok (.invokevirtual 245, 3) := by decide +kernel
theorem dX11_two_8 : decode cX11_two 8 = .ok (.ireturn, 1) := by decide +kernel
theorem dX11_three_0 : decode cX11_three 0 = .ok (.aload_n 0, 1) := by decide +kernel
theorem dX11_three_1 : decode cX11_three 1 = .ok (.iconst 1, 1) := by decide +kernel
theorem dX11_three_2 : decode cX11_three 2 = .ok (.iload_n 1, 1) := by decide +kernel
theorem dX11_three_3 : decode cX11_three 3 = .ok (.iload_n 2, 1) := by decide +kernel
theorem dX11_three_4 : decode cX11_three 4 = .ok (.iload_n 3, 1) := by decide +kernel
theorem dX11_three_5 : decode cX11_three 5 = .ok (.invokevirtual 245, 3) := by decide +kernel
theorem dX11_three_8 : decode cX11_three 8 = .ok (.ireturn, 1) := by decide +kernel
theorem dX11_one_0 : decode cX11_one 0 = .ok (.aload_n 0, 1) := by decide +kernel
theorem dX11_one_1 : decode cX11_one 1 = .ok (.iconst 2, 1) := by decide +kernel
theorem dX11_one_2 : decode cX11_one 2 = .ok (.iload_n 1, 1) := by decide +kernel
theorem dX11_one_3 : decode cX11_one 3 = .ok (.iconst 0, 1) := by decide +kernel
theorem dX11_one_4 : decode cX11_one 4 = .ok (.iconst 0, 1) := by decide +kernel
theorem dX11_one_5 : decode cX11_one 5 = .ok (.invokevirtual 245, 3) := by decide +kernel
theorem dX11_one_8 : decode cX11_one 8 = .ok (.ireturn, 1) := by decide +kernel
theorem dX11_four_0 : decode cX11_four 0 = .ok (.aload_n 0, 1) := by decide +kernel
theorem dX11_four_1 : decode cX11_four 1 = .ok (.iconst 3, 1) := by decide +kernel
theorem dX11_four_2 : decode cX11_four 2 = .ok (.iload_n 1, 1) := by decide +kernel
theorem dX11_four_3 : decode cX11_four 3 = .ok (.iload_n 2, 1) := by decide +kernel
theorem dX11_four_4 : decode cX11_four 4 = .ok (.iconst 0, 1) := by decide +kernel
theorem dX11_four_5 : decode cX11_four 5 = .ok (.invokevirtual 245, 3) := by decide +kernel
theorem dX11_four_8 : decode cX11_four 8 = .ok (.ireturn, 1) := by decide +kernel
theorem dX11_moveNow_0 : decode cX11_moveNow 0 = .ok (.aload_n 0, 1) := by decide +kernel
theorem dX11_moveNow_1 : decode cX11_moveNow 1 = .ok (.getfield 16, 3) := by decide +kernel
theorem dX11_moveNow_4 : decode cX11_moveNow 4 = .ok (.aload_n 0, 1) := by decide +kernel
theorem dX11_moveNow_5 : decode cX11_moveNow 5 = .ok (.getfield 10, 3) := by decide +kernel
theorem dX11_moveNow_8 : decode cX11_moveNow 8 = .ok (.invokevirtual 120, 3) := by decide +kernel
theorem dX11_moveNow_11 : decode cX11_moveNow 11 = .ok (.aload_n 0, 1) := by decide +kernel
theorem dX11_moveNow_12 : decode cX11_moveNow 12 = .ok (.getfield 77, 3) := by decide +kernel
theorem dX11_moveNow_15 : decode cX11_moveNow 15 = .ok (.aload_n 0, 1) := by decide +kernel
theorem dX11_moveNow_16 : decode cX11_moveNow 16 = .ok (.getfield 10, 3) := by decide +kernel
theorem dX11_moveNow_19 : decode cX11_moveNow 19 = .ok (.iload_n 1, 1) := by decide +kernel
theorem dX11_moveNow_20 : decode cX11_moveNow 20 = .ok (.iload_n 2, 1) := by decide +kernel
theorem dX11_moveNow_21 : decode cX11_moveNow 21 = .ok (.iload_n 3, 1) := by decide +kernel
theorem dX11_moveNow_22 : decode cX11_moveNow 22 = .ok (.iload 4, 2) := by decide +kernel
theorem dX11_moveNow_24 : decode cX11_moveNow 24 = .ok (.invokevirtual 249, 3) := by decide +kernel
theorem dX11_moveNow_27 : decode cX11_moveNow 27 = .ok (.istore 5, 2) := by decide +kernel
theorem dX11_moveNow_29 : decode cX11_moveNow 29 = .ok (.iload 5, 2) := by decide +kernel
theorem dX11_moveNow_31 : decode cX11_moveNow 31 = .ok (.ifCond .lt 14, 3) := by decide +kernel
theorem dX11_moveNow_34 : decode cX11_moveNow 34 = .ok (.aload_n 0, 1) := by decide +kernel
theorem dX11_moveNow_35 : decode cX11_moveNow 35 = .ok (.getfield 33, 3) := by decide +kernel
theorem dX11_moveNow_38 : decode cX11_moveNow 38 = .ok (.aload_n 0, 1) := by decide +kernel
theorem dX11_moveNow_39 : decode cX11_moveNow 39 = .ok (.getfield 16, 3) := by decide +kernel
theorem dX11_moveNow_42 : decode cX11_moveNow 42 = .ok (.invokevirtual 113, 3) := by decide +kernel
theorem dX11_moveNow_45 : decode cX11_moveNow 45 = .ok (.iload 5, 2) := by decide +kernel
theorem dX11_moveNow_47 : decode cX11_moveNow 47 = .ok (.ireturn, 1) := by decide +kernel
theorem dX11_trail_0 : decode cX11_trail 0 = .ok (.aload_n 0, 1) := by decide +kernel
theorem dX11_trail_1 : decode cX11_trail 1 = .ok (.getfield 47, 3) := by decide +kernel
theorem dX11_trail_4 : decode cX11_trail 4 = .ok (.invokevirtual 253, 3) := by decide +kernel
theorem dX11_trail_7 : decode cX11_trail 7 = .ok (.istore_n 1, 1) := by decide +kernel
theorem dX11_trail_8 : decode cX11_trail 8 = .ok (.aload_n 0, 1) := by decide +kernel
theorem dX11_trail_9 : decode cX11_trail 9 = .ok (.getfield 47, 3) := by decide +kernel
theorem dX11_trail_12 : decode cX11_trail 12 = .ok (.iconst 0, 1) := by decide +kernel
theorem dX11_trail_13 : decode cX11_trail 13 = .ok (.invokevirtual 101, 3) := by decide +kernel
theorem dX11_trail_16 : decode cX11_trail 16 = .ok (.pop, 1) := by decide +kernel
theorem dX11_trail_17 : decode cX11_trail 17 = .ok (.iload_n 1, 1) := by decide +kernel
theorem dX11_trail_18 : decode cX11_trail 18 = .ok (.ifCond .ge 5, 3) := by decide +kernel
theorem dX11_trail_21 : decode cX11_trail 21 = .ok (.iload_n 1, 1) := by decide +kernel
theorem dX11_trail_22 : decode cX11_trail 22 = .ok (.ireturn, 1) := by decide +kernel
theorem dX11_trail_23 : decode cX11_trail 23 = .ok (.aload_n 0, 1) := by decide +kernel
theorem dX11_trail_24 : decode cX11_trail 24 = .ok (.getfield 16, 3) := by decide +kernel
theorem dX11_trail_27 : decode cX11_trail 27 = .ok (.aload_n 0, 1) := by decide +kernel
theorem dX11_trail_28 : decode cX11_trail 28 = .ok (.getfield 10, 3) := by decide +kernel
theorem dX11_trail_31 : decode cX11_trail 31 = .ok (.invokevirtual 120, 3) := by decide +kernel
theorem dX11_trail_34 : decode cX11_trail 34 = .ok (.aload_n 0, 1) := by decide +kernel
theorem dX11_trail_35 : decode cX11_trail 35 = .ok (.aload_n 0, 1) := by decide +kernel
theorem dX11_trail_36 : decode cX11_trail 36 = .ok (.getfield 10, 3) := by decide +kernel
theorem dX11_trail_39 : decode cX11_trail 39 = .ok (.invokevirtual 256, 3) := by decide +kernel
theorem dX11_trail_42 : decode cX11_trail 42 = .ok (.istore_n 2, 1) := by decide +kernel
theorem dX11_trail_43 : decode cX11_trail 43 = .ok (.iload_n 2, 1) := by decide +kernel
theorem dX11_trail_44 : decode cX11_trail 44 = .ok (.ifCond .le 14, 3) := by decide +kernel
theorem dX11_trail_47 : decode cX11_trail 47 = .ok (.aload_n 0, 1) := by decide +kernel
theorem dX11_trail_48 : decode cX11_trail 48 = .ok (.getfield 33, 3) := by decide +kernel
theorem dX11_trail_51 : decode cX11_trail 51 = .ok (.aload_n 0, 1) := by decide +kernel
theorem dX11_trail_52 : decode cX11_trail 52 = .ok (.getfield 16, 3) := by decide +kernel
theorem dX11_trail_55 : decode cX11_trail 55 = .ok (.invokevirtual 113, 3) := by decide +kernel
theorem dX11_trail_58 : decode cX11_trail 58 = .ok (.aload_n 0, 1) := by decide +kernel
theorem dX11_trail_59 : decode cX11_trail 59 = .ok (.getfield 40, 3) := by decide +kernel
theorem dX11_trail_62 : decode cX11_trail 62 = .ok (.invokevirtual 141, 3) := by decide +kernel
theorem dX11_trail_65 : decode cX11_trail 65 = .ok (.aload_n 0, 1) := by decide +kernel
theorem dX11_trail_66 : decode cX11_trail 66 = .ok (.getfield 40, 3) := by decide +kernel
theorem dX11_trail_69 : decode cX11_trail 69 = .ok (.iload_n 2, 1) := by decide +kernel
theorem dX11_trail_70 : decode cX11_trail 70 = .ok (.aload_n 0, 1) := by decide +kernel
theorem dX11_trail_71 : decode cX11_trail 71 = .ok (.getfield 47, 3) := by decide +kernel
theorem dX11_trail_74 : decode cX11_trail 74 = .ok (.getfield 259, 3) := by decide +kernel
theorem dX11_trail_77 : decode cX11_trail 77 = .ok (.if_icmp .ge 7, 3) := by decide +kernel
theorem dX11_trail_80 : decode cX11_trail 80 = .ok (.iconst 1, 1) := by decide +kernel
theorem dX11_trail_81 : decode cX11_trail 81 = .ok (.goto 4, 3) := by decide +kernel
theorem dX11_trail_84 : decode cX11_trail 84 = .ok (.iconst 0, 1) := by decide +kernel
theorem dX11_trail_85 : decode cX11_trail 85 = .ok (.invokevirtual 179, 3) := by decide +kernel
theorem dX11_trail_88 : decode cX11_trail 88 = .ok (.aload_n 0, 1) := by decide +kernel
theorem dX11_trail_89 : decode cX11_trail 89 = .ok (.getfield 40, 3) := by decide +kernel
theorem dX11_trail_92 : decode cX11_trail 92 = .ok (.aload_n 0, 1) := by decide +kernel
theorem dX11_trail_93 : decode cX11_trail 93 = .ok (.getfield 10, 3) := by decide +kernel
theorem dX11_trail_96 : decode cX11_trail 96 = .ok (.getfield 123, 3) := by decide +kernel
theorem dX11_trail_99 : decode cX11_trail 99 = .ok (.i2l, 1) := by decide +kernel
theorem dX11_trail_100 : decode cX11_trail 100 = .ok (.invokevirtual 144, 3) := by decide +kernel
theorem dX11_trail_103 : decode cX11_trail 103 = .ok (.iload_n 2, 1) := by decide +kernel
theorem dX11_trail_104 : decode cX11_trail 104 = .ok (.ireturn, 1) := by decide +kernel
theorem dX11_tries_0 : decode cX11_tries 0 = .ok (.aload_n 0, 1) := by decide +kernel
theorem dX11_tries_1 : decode cX11_tries 1 = .ok (.getfield 47, 3) := by decide +kernel
theorem dX11_tries_4 : decode cX11_tries 4 = .ok (.invokevirtual 253, 3) := by decide +kernel
theorem dX11_tries_7 : decode cX11_tries 7 = .ok (.istore_n 1, 1) := by decide +kernel
theorem dX11_tries_8 : decode cX11_tries 8 = .ok (.aload_n 0, 1) := by decide +kernel
theorem dX11_tries_9 : decode cX11_tries 9 = .ok (.getfield 47, 3) := by decide +kernel
theorem dX11_tries_12 : decode cX11_tries 12 = .ok (.iconst 0, 1) := by decide +kernel
theorem dX11_tries_13 : decode cX11_tries 13 = .ok (.invokevirtual 101, 3) := by decide +kernel
theorem dX11_tries_16 : decode cX11_tries 16 = .ok (.pop, 1) := by decide +kernel
theorem dX11_tries_17 : decode cX11_tries 17 = .ok (.iload_n 1, 1) := by decide +kernel
theorem dX11_tries_18 : decode cX11_tries 18 = .ok (.ifCond .ge 5, 3) := by decide +kernel
theorem dX11_tries_21 : decode cX11_tries 21 = .ok (.iload_n 1, 1) := by decide +kernel
theorem dX11_tries_22 : decode cX11_tries 22 = .ok (.ireturn, 1) := by decide +kernel
theorem dX11_tries_23 : decode cX11_tries 23 = .ok (.aload_n 0, 1) := by decide +kernel
theorem dX11_tries_24 : decode cX11_tries 24 = .ok (.getfield 19, 3) := by decide +kernel
theorem dX11_tries_27 : decode cX11_tries 27 = .ok (.aload_n 0, 1) := by decide +kernel
theorem dX11_tries_28 : decode cX11_tries 28 = .ok (.getfield 10, 3) := by decide +kernel
theorem dX11_tries_31 : decode cX11_tries 31 = .ok (.invokevirtual 120, 3) := by decide +kernel
theorem dX11_tries_34 : decode cX11_tries 34 = .ok (.aload_n 0, 1) := by decide +kernel
theorem dX11_tries_35 : decode cX11_tries 35 = .ok (.aload_n 0, 1) := by decide +kernel
theorem dX11_tries_36 : decode cX11_tries 36 = .ok (.getfield 19, 3) := by decide +kernel
theorem dX11_tries_39 : decode cX11_tries 39 = .ok (.invokevirtual 256, 3) := by decide +kernel
theorem dX11_tries_42 : decode cX11_tries 42 = .ok (.istore_n 2, 1) := by decide +kernel
theorem dX11_tries_43 : decode cX11_tries 43 = .ok (.aload_n 0, 1) := by decide +kernel
theorem dX11_tries_44 : decode cX11_tries 44 = .ok (.getfield 40, 3) := by decide +kernel
theorem dX11_tries_47 : decode cX11_tries 47 = .ok (.invokevirtual 141, 3) := by decide +kernel
theorem dX11_tries_50 : decode cX11_tries 50 = .ok (.aload_n 0, 1) := by decide +kernel
theorem dX11_tries_51 : decode cX11_tries 51 = .ok (.getfield 40, 3) := by decide +kernel
theorem dX11_tries_54 : decode cX11_tries 54 = .ok (.iload_n 2, 1) := by decide +kernel
theorem dX11_tries_55 : decode cX11_tries 55 = .ok (.i2l, 1) := by decide +kernel
theorem dX11_tries_56 : decode cX11_tries 56 = .ok (.invokevirtual 144, 3) := by decide +kernel
theorem dX11_tries_59 : decode cX11_tries 59 = .ok (.aload_n 0, 1) := by decide +kernel
theorem dX11_tries_60 : decode cX11_tries 60 = .ok (.getfield 40, 3) := by decide +kernel
theorem dX11_tries_63 : decode cX11_tries 63 = .ok (.aload_n 0, 1) := by decide +kernel
theorem dX11_tries_64 : decode cX11_tries 64 = .ok (.getfield 19, 3) := by decide +kernel
theorem dX11_tries_67 : decode cX11_tries 67 = .ok (.aload_n 0, 1) := by decide +kernel
theorem dX11_tries_68 : decode cX11_tries 68 = .ok (.getfield 10, 3) := by decide +kernel
theorem dX11_tries_71 : decode cX11_tries 71 = .ok (.invokevirtual 262, 3) := by decide +kernel
theorem dX11_tries_74 : decode cX11_tries 74 = .ok (.invokevirtual 179, 3) := by decide +kernel
theorem dX11_tries_77 : decode cX11_tries 77 = .ok (.aload_n 0, 1) := by decide +kernel
theorem dX11_tries_78 : decode cX11_tries 78 = .ok (.getfield 19, 3) := by decide +kernel
theorem dX11_tries_81 : decode cX11_tries 81 = .ok (.getfield 123, 3) := by decide +kernel
theorem dX11_tries_84 : decode cX11_tries 84 = .ok (.ireturn, 1) := by decide +kernel
theorem dX11_follow_0 : decode cX11_follow 0 = .ok (.iconst 0, 1) := by decide +kernel
