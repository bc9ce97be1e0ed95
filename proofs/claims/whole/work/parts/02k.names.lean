theorem dX4_swap_19 : decode cX4_swap 19 = .ok (.iconst 1, 1) := by decide +kernel
theorem dX4_swap_20 : decode cX4_swap 20 = .ok (.goto 4, 3) := by decide +kernel
theorem dX4_swap_23 : decode cX4_swap 23 = .ok (.iconst 0, 1) := by decide +kernel
theorem dX4_swap_24 : decode cX4_swap 24 = .ok (.iconst 0, 1) := by decide +kernel
theorem dX4_swap_25 : decode cX4_swap 25 = .ok (.invokevirtual 153, 3) := by decide +kernel
theorem dX4_swap_28 : decode cX4_swap 28 = .ok (.ifCond .eq 5, 3) := by decide +kernel
theorem dX4_swap_31 : decode cX4_swap 31 = .ok (.iconst 0, 1) := by decide +kernel
theorem dX4_swap_32 : decode cX4_swap 32 = .ok (.ireturn, 1) := by decide +kernel
theorem dX4_swap_33 : decode cX4_swap 33 = .ok (.bipush 12, 2) := by decide +kernel
theorem dX4_swap_35 : decode cX4_swap 35 = .ok (.iload_n 1, 1) := by decide +kernel
theorem dX4_swap_36 : decode cX4_swap 36 = .ok (.imul, 1) := by decide +kernel
theorem dX4_swap_37 : decode cX4_swap 37 = .ok (.iload_n 2, 1) := by decide +kernel
theorem dX4_swap_38 : decode cX4_swap 38 = .ok (.iadd, 1) := by decide +kernel
theorem dX4_swap_39 : decode cX4_swap 39 = .ok (.istore 4, 2) := by decide +kernel
theorem dX4_swap_41 : decode cX4_swap 41 = .ok (.bipush 12, 2) := by decide +kernel
theorem dX4_swap_43 : decode cX4_swap 43 = .ok (.iload_n 1, 1) := by decide +kernel
theorem dX4_swap_44 : decode cX4_swap 44 = .ok (.imul, 1) := by decide +kernel
theorem dX4_swap_45 : decode cX4_swap 45 = .ok (.iload_n 3, 1) := by decide +kernel
theorem dX4_swap_46 : decode cX4_swap 46 = .ok (.iadd, 1) := by decide +kernel
theorem dX4_swap_47 : decode cX4_swap 47 = .ok (.istore 5, 2) := by decide +kernel
theorem dX4_swap_49 : decode cX4_swap 49 = .ok (.aload_n 0, 1) := by decide +kernel
theorem dX4_swap_50 : decode cX4_swap 50 = .ok (.getfield 36, 3) := by decide +kernel
theorem dX4_swap_53 : decode cX4_swap 53 = .ok (.iload 4, 2) := by decide +kernel
theorem dX4_swap_55 : decode cX4_swap 55 = .ok (.iaload, 1) := by decide +kernel
theorem dX4_swap_56 : decode cX4_swap 56 = .ok (.aload_n 0, 1) := by decide +kernel
theorem dX4_swap_57 : decode cX4_swap 57 = .ok (.getfield 36, 3) := by decide +kernel
theorem dX4_swap_60 : decode cX4_swap 60 = .ok (.iload 5, 2) := by decide +kernel
theorem dX4_swap_62 : decode cX4_swap 62 = .ok (.iaload, 1) := by decide +kernel
theorem dX4_swap_63 : decode cX4_swap 63 = .ok (.if_icmp .ne 38, 3) := by decide +kernel
theorem dX4_swap_66 : decode cX4_swap 66 = .ok (.aload_n 0, 1) := by decide +kernel
theorem dX4_swap_67 : decode cX4_swap 67 = .ok (.getfield 39, 3) := by decide +kernel
theorem dX4_swap_70 : decode cX4_swap 70 = .ok (.iload 4, 2) := by decide +kernel
theorem dX4_swap_72 : decode cX4_swap 72 = .ok (.laload, 1) := by decide +kernel
theorem dX4_swap_73 : decode cX4_swap 73 = .ok (.aload_n 0, 1) := by decide +kernel
theorem dX4_swap_74 : decode cX4_swap 74 = .ok (.getfield 39, 3) := by decide +kernel
theorem dX4_swap_77 : decode cX4_swap 77 = .ok (.iload 5, 2) := by decide +kernel
theorem dX4_swap_79 : decode cX4_swap 79 = .ok (.laload, 1) := by decide +kernel
theorem dX4_swap_80 : decode cX4_swap 80 = .ok (.lcmp, 1) := by decide +kernel
theorem dX4_swap_81 : decode cX4_swap 81 = .ok (.ifCond .ne 20, 3) := by decide +kernel
theorem dX4_swap_84 : decode cX4_swap 84 = .ok (.aload_n 0, 1) := by decide +kernel
theorem dX4_swap_85 : decode cX4_swap 85 = .ok (.getfield 45, 3) := by decide +kernel
theorem dX4_swap_88 : decode cX4_swap 88 = .ok (.iload 4, 2) := by decide +kernel
theorem dX4_swap_90 : decode cX4_swap 90 = .ok (.baload, 1) := by decide +kernel
theorem dX4_swap_91 : decode cX4_swap 91 = .ok (.aload_n 0, 1) := by decide +kernel
theorem dX4_swap_92 : decode cX4_swap 92 = .ok (.getfield 45, 3) := by decide +kernel
theorem dX4_swap_95 : decode cX4_swap 95 = .ok (.iload 5, 2) := by decide +kernel
theorem dX4_swap_97 : decode cX4_swap 97 = .ok (.baload, 1) := by decide +kernel
theorem dX4_swap_98 : decode cX4_swap 98 = .ok (.if_icmp .eq 7, 3) := by decide +kernel
theorem dX4_swap_101 : decode cX4_swap 101 = .ok (.iconst 1, 1) := by decide +kernel
theorem dX4_swap_102 : decode cX4_swap 102 = .ok (.goto 4, 3) := by decide +kernel
theorem dX4_swap_105 : decode cX4_swap 105 = .ok (.iconst 0, 1) := by decide +kernel
theorem dX4_swap_106 : decode cX4_swap 106 = .ok (.istore 6, 2) := by decide +kernel
theorem dX4_swap_108 : decode cX4_swap 108 = .ok (.aload_n 0, 1) := by decide +kernel
theorem dX4_swap_109 : decode cX4_swap 109 = .ok (.getfield 36, 3) := by decide +kernel
theorem dX4_swap_112 : decode cX4_swap 112 = .ok (.iload 4, 2) := by decide +kernel
theorem dX4_swap_114 : decode cX4_swap 114 = .ok (.iaload, 1) := by decide +kernel
theorem dX4_swap_115 : decode cX4_swap 115 = .ok (.istore 7, 2) := by decide +kernel
theorem dX4_swap_117 : decode cX4_swap 117 = .ok (.aload_n 0, 1) := by decide +kernel
theorem dX4_swap_118 : decode cX4_swap 118 = .ok (.getfield 39, 3) := by decide +kernel
theorem dX4_swap_121 : decode cX4_swap 121 = .ok (.iload 4, 2) := by decide +kernel
theorem dX4_swap_123 : decode cX4_swap 123 = .ok (.laload, 1) := by decide +kernel
theorem dX4_swap_124 : decode cX4_swap 124 = .ok (.lstore 8, 2) := by decide +kernel
theorem dX4_swap_126 : decode cX4_swap 126 = .ok (.aload_n 0, 1) := by decide +kernel
theorem dX4_swap_127 : decode cX4_swap 127 = .ok (.getfield 45, 3) := by decide +kernel
theorem dX4_swap_130 : decode cX4_swap 130 = .ok (.iload 4, 2) := by decide +kernel
theorem dX4_swap_132 : decode cX4_swap 132 = .ok (.baload, 1) := by decide +kernel
theorem dX4_swap_133 : decode cX4_swap 133 = .ok (.istore 10, 2) := by decide +kernel
theorem dX4_swap_135 : decode cX4_swap 135 = .ok (.aload_n 0, 1) := by decide +kernel
theorem dX4_swap_136 : decode cX4_swap 136 = .ok (.getfield 36, 3) := by decide +kernel
theorem dX4_swap_139 : decode cX4_swap 139 = .ok (.iload 4, 2) := by decide +kernel
theorem dX4_swap_141 : decode cX4_swap 141 = .ok (.aload_n 0, 1) := by decide +kernel
theorem dX4_swap_142 : decode cX4_swap 142 = .ok (.getfield 36, 3) := by decide +kernel
theorem dX4_swap_145 : decode cX4_swap 145 = .ok (.iload 5, 2) := by decide +kernel
theorem dX4_swap_147 : decode cX4_swap 147 = .ok (.iaload, 1) := by decide +kernel
theorem dX4_swap_148 : decode cX4_swap 148 = .ok (.iastore, 1) := by decide +kernel
theorem dX4_swap_149 : decode cX4_swap 149 = .ok (.aload_n 0, 1) := by decide +kernel
theorem dX4_swap_150 : decode cX4_swap 150 = .ok (.getfield 39, 3) := by decide +kernel
theorem dX4_swap_153 : decode cX4_swap 153 = .ok (.iload 4, 2) := by decide +kernel
theorem dX4_swap_155 : decode cX4_swap 155 = .ok (.aload_n 0, 1) := by decide +kernel
theorem dX4_swap_156 : decode cX4_swap 156 = .ok (.getfield 39, 3) := by decide +kernel
theorem dX4_swap_159 : decode cX4_swap 159 = .ok (.iload 5, 2) := by decide +kernel
theorem dX4_swap_161 : decode cX4_swap 161 = .ok (.laload, 1) := by decide +kernel
theorem dX4_swap_162 : decode cX4_swap 162 = .ok (.lastore, 1) := by decide +kernel
theorem dX4_swap_163 : decode cX4_swap 163 = .ok (.aload_n 0, 1) := by decide +kernel
theorem dX4_swap_164 : decode cX4_swap 164 = .ok (.getfield 45, 3) := by decide +kernel
theorem dX4_swap_167 : decode cX4_swap 167 = .ok (.iload 4, 2) := by decide +kernel
theorem dX4_swap_169 : decode cX4_swap 169 = .ok (.aload_n 0, 1) := by decide +kernel
theorem dX4_swap_170 : decode cX4_swap 170 = .ok (.getfield 45, 3) := by decide +kernel
theorem dX4_swap_173 : decode cX4_swap 173 = .ok (.iload 5, 2) := by decide +kernel
theorem dX4_swap_175 : decode cX4_swap 175 = .ok (.baload, 1) := by decide +kernel
theorem dX4_swap_176 : decode cX4_swap 176 = .ok (.bastore, 1) := by decide +kernel
theorem dX4_swap_177 : decode cX4_swap 177 = .ok (.aload_n 0, 1) := by decide +kernel
theorem dX4_swap_178 : decode cX4_swap 178 = .ok (.getfield 36, 3) := by decide +kernel
theorem dX4_swap_181 : decode cX4_swap 181 = .ok (.iload 5, 2) := by decide +kernel
theorem dX4_swap_183 : decode cX4_swap 183 = .ok (.iload 7, 2) := by decide +kernel
theorem dX4_swap_185 : decode cX4_swap 185 = .ok (.iastore, 1) := by decide +kernel
theorem dX4_swap_186 : decode cX4_swap 186 = .ok (.aload_n 0, 1) := by decide +kernel
theorem dX4_swap_187 : decode cX4_swap 187 = .ok (.getfield 39, 3) := by decide +kernel
theorem dX4_swap_190 : decode cX4_swap 190 = .ok (.iload 5, 2) := by decide +kernel
theorem dX4_swap_192 : decode cX4_swap 192 = .ok (.lload 8, 2) := by decide +kernel
theorem dX4_swap_194 : decode cX4_swap 194 = .ok (.lastore, 1) := by decide +kernel
theorem dX4_swap_195 : decode cX4_swap 195 = .ok (.aload_n 0, 1) := by decide +kernel
theorem dX4_swap_196 : decode cX4_swap 196 = .ok (.getfield 45, 3) := by decide +kernel
theorem dX4_swap_199 : decode cX4_swap 199 = .ok (.iload 5, 2) := by decide +kernel
theorem dX4_swap_201 : decode cX4_swap 201 = .ok (.iload 10, 2) := by decide +kernel
theorem dX4_swap_203 : decode cX4_swap 203 = .ok (.bastore, 1) := by decide +kernel
theorem dX4_swap_204 : decode cX4_swap 204 = .ok (.aload_n 0, 1) := by decide +kernel
theorem dX4_swap_205 : decode cX4_swap 205 = .ok (.getfield 29, 3) := by decide +kernel
theorem dX4_swap_208 : decode cX4_swap 208 = .ok (.iload_n 1, 1) := by decide +kernel
theorem dX4_swap_209 : decode cX4_swap 209 = .ok (.iconst 0, 1) := by decide +kernel
theorem dX4_swap_210 : decode cX4_swap 210 = .ok (.bastore, 1) := by decide +kernel
theorem dX4_swap_211 : decode cX4_swap 211 = .ok (.iload 6, 2) := by decide +kernel
theorem dX4_swap_213 : decode cX4_swap 213 = .ok (.ireturn, 1) := by decide +kernel
set_option maxRecDepth 20000 in
theorem ggX4_round_X4_works : GoodIn wsX4_round wsX4_works := goodIn_r _ [16, 17, 18, 15, 19, 20, 21, 22, 23, 24, 25, 26, 27, 28, 29, 30, 31, 32, 33, 34, 35, 36, 37, 38, 39, 40, 41, 42, 43, 44, 45, 46, 47, 48, 49, 50, 51, 52, 53, 54, 55, 56] (by decide +kernel) (by decide +kernel)
set_option maxRecDepth 20000 in
theorem gX4_round_X4_works : GoodIn wsX4_round (va_wsS RX4 171 yX4_works wsX4_works) := goodIn_app (goodIn_of _ (by decide +kernel)) ggX4_round_X4_works
set_option maxRecDepth 20000 in
theorem ggX4_round_X4_order : GoodIn wsX4_round wsX4_order := goodIn_r _ [41, 42, 43, 15, 44, 27, 28, 29, 30, 31, 35, 36, 37, 38, 23, 24, 25, 26] (by decide +kernel) (by decide +kernel)
set_option maxRecDepth 20000 in
theorem gX4_round_X4_order : GoodIn wsX4_round (va_wsS RX4 116 yX4_order wsX4_order) := goodIn_app (goodIn_of _ (by decide +kernel)) ggX4_round_X4_order
theorem dX4_round_0 : decode cX4_round 0 = .ok (.iconst 0, 1) := by decide +kernel
theorem dX4_round_1 : decode cX4_round 1 = .ok (.istore_n 2, 1) := by decide +kernel
theorem dX4_round_2 : decode cX4_round 2 = .ok (.aload_n 0, 1) := by decide +kernel
theorem dX4_round_3 : decode cX4_round 3 = .ok (.getfield 13, 3) := by decide +kernel
theorem dX4_round_6 : decode cX4_round 6 = .ok (.iload_n 1, 1) := by decide +kernel
theorem dX4_round_7 : decode cX4_round 7 = .ok (.laload, 1) := by decide +kernel
theorem dX4_round_8 : decode cX4_round 8 = .ok (.lstore_n 3, 1) := by decide +kernel
theorem dX4_round_9 : decode cX4_round 9 = .ok (.bipush 12, 2) := by decide +kernel
theorem dX4_round_11 : decode cX4_round 11 = .ok (.iload_n 1, 1) := by decide +kernel
theorem dX4_round_12 : decode cX4_round 12 = .ok (.imul, 1) := by decide +kernel
theorem dX4_round_13 : decode cX4_round 13 = .ok (.istore 5, 2) := by decide +kernel
theorem dX4_round_15 : decode cX4_round 15 = .ok (.iload 5, 2) := by decide +kernel
theorem dX4_round_17 : decode cX4_round 17 = .ok (.bipush 12, 2) := by decide +kernel
theorem dX4_round_19 : decode cX4_round 19 = .ok (.iload_n 1, 1) := by decide +kernel
theorem dX4_round_20 : decode cX4_round 20 = .ok (.imul, 1) := by decide +kernel
theorem dX4_round_21 : decode cX4_round 21 = .ok (.aload_n 0, 1) := by decide +kernel
theorem dX4_round_22 : decode cX4_round 22 = .ok (.getfield 26, 3) := by decide +kernel
theorem dX4_round_25 : decode cX4_round 25 = .ok (.iload_n 1, 1) := by decide +kernel
theorem dX4_round_26 : decode cX4_round 26 = .ok (.iaload, 1) := by decide +kernel
theorem dX4_round_27 : decode cX4_round 27 = .ok (.iadd, 1) := by decide +kernel
theorem dX4_round_28 : decode cX4_round 28 = .ok (.if_icmp .ge 90, 3) := by decide +kernel
theorem dX4_round_31 : decode cX4_round 31 = .ok (.aload_n 0, 1) := by decide +kernel
theorem dX4_round_32 : decode cX4_round 32 = .ok (.getfield 45, 3) := by decide +kernel
theorem dX4_round_35 : decode cX4_round 35 = .ok (.iload 5, 2) := by decide +kernel
theorem dX4_round_37 : decode cX4_round 37 = .ok (.baload, 1) := by decide +kernel
theorem dX4_round_38 : decode cX4_round 38 = .ok (.ifCond .eq 25, 3) := by decide +kernel
theorem dX4_round_41 : decode cX4_round 41 = .ok (.iload_n 1, 1) := by decide +kernel
theorem dX4_round_42 : decode cX4_round 42 = .ok (.aload_n 0, 1) := by decide +kernel
theorem dX4_round_43 : decode cX4_round 43 = .ok (.getfield 36, 3) := by decide +kernel
theorem dX4_round_46 : decode cX4_round 46 = .ok (.iload 5, 2) := by decide +kernel
theorem dX4_round_48 : decode cX4_round 48 = .ok (.iaload, 1) := by decide +kernel
theorem dX4_round_49 : decode cX4_round 49 = .ok (.lload_n 3, 1) := by decide +kernel
theorem dX4_round_50 : decode cX4_round 50 = .ok (.aload_n 0, 1) := by decide +kernel
theorem dX4_round_51 : decode cX4_round 51 = .ok (.getfield 39, 3) := by decide +kernel
theorem dX4_round_54 : decode cX4_round 54 = .ok (.iload 5, 2) := by decide +kernel
theorem dX4_round_56 : decode cX4_round 56 = .ok (.laload, 1) := by decide +kernel
theorem dX4_round_57 : decode cX4_round 57 = .ok (.invokestatic 171, 3) := by decide +kernel
theorem dX4_round_60 : decode cX4_round 60 = .ok (.goto 4, 3) := by decide +kernel
theorem dX4_round_63 : decode cX4_round 63 = .ok (.lload_n 3, 1) := by decide +kernel
theorem dX4_round_64 : decode cX4_round 64 = .ok (.lstore 6, 2) := by decide +kernel
theorem dX4_round_66 : decode cX4_round 66 = .ok (.aload_n 0, 1) := by decide +kernel
theorem dX4_round_67 : decode cX4_round 67 = .ok (.getfield 48, 3) := by decide +kernel
theorem dX4_round_70 : decode cX4_round 70 = .ok (.iload 5, 2) := by decide +kernel
theorem dX4_round_72 : decode cX4_round 72 = .ok (.lload 6, 2) := by decide +kernel
theorem dX4_round_74 : decode cX4_round 74 = .ok (.lload_n 3, 1) := by decide +kernel
theorem dX4_round_75 : decode cX4_round 75 = .ok (.lcmp, 1) := by decide +kernel
theorem dX4_round_76 : decode cX4_round 76 = .ok (.ifCond .eq 7, 3) := by decide +kernel
theorem dX4_round_79 : decode cX4_round 79 = .ok (.iconst 1, 1) := by decide +kernel
theorem dX4_round_80 : decode cX4_round 80 = .ok (.goto 4, 3) := by decide +kernel
theorem dX4_round_83 : decode cX4_round 83 = .ok (.iconst 0, 1) := by decide +kernel
theorem dX4_round_84 : decode cX4_round 84 = .ok (.bastore, 1) := by decide +kernel
theorem dX4_round_85 : decode cX4_round 85 = .ok (.aload_n 0, 1) := by decide +kernel
theorem dX4_round_86 : decode cX4_round 86 = .ok (.getfield 42, 3) := by decide +kernel
theorem dX4_round_89 : decode cX4_round 89 = .ok (.iload 5, 2) := by decide +kernel
theorem dX4_round_91 : decode cX4_round 91 = .ok (.lload 6, 2) := by decide +kernel
theorem dX4_round_93 : decode cX4_round 93 = .ok (.lastore, 1) := by decide +kernel
theorem dX4_round_94 : decode cX4_round 94 = .ok (.iload_n 2, 1) := by decide +kernel
theorem dX4_round_95 : decode cX4_round 95 = .ok (.lload 6, 2) := by decide +kernel
theorem dX4_round_97 : decode cX4_round 97 = .ok (.lload_n 3, 1) := by decide +kernel
theorem dX4_round_98 : decode cX4_round 98 = .ok (.lcmp, 1) := by decide +kernel
theorem dX4_round_99 : decode cX4_round 99 = .ok (.ifCond .eq 7, 3) := by decide +kernel
theorem dX4_round_102 : decode cX4_round 102 = .ok (.iconst 1, 1) := by decide +kernel
theorem dX4_round_103 : decode cX4_round 103 = .ok (.goto 4, 3) := by decide +kernel
theorem dX4_round_106 : decode cX4_round 106 = .ok (.iconst 0, 1) := by decide +kernel
theorem dX4_round_107 : decode cX4_round 107 = .ok (.iadd, 1) := by decide +kernel
theorem dX4_round_108 : decode cX4_round 108 = .ok (.istore_n 2, 1) := by decide +kernel
theorem dX4_round_109 : decode cX4_round 109 = .ok (.lload 6, 2) := by decide +kernel
theorem dX4_round_111 : decode cX4_round 111 = .ok (.lstore_n 3, 1) := by decide +kernel
theorem dX4_round_112 : decode cX4_round 112 = .ok (.iinc 5 1, 3) := by decide +kernel
theorem dX4_round_115 : decode cX4_round 115 = .ok (.goto (-100), 3) := by decide +kernel
theorem dX4_round_118 : decode cX4_round 118 = .ok (.aload_n 0, 1) := by decide +kernel
theorem dX4_round_119 : decode cX4_round 119 = .ok (.getfield 13, 3) := by decide +kernel
theorem dX4_round_122 : decode cX4_round 122 = .ok (.iload_n 1, 1) := by decide +kernel
theorem dX4_round_123 : decode cX4_round 123 = .ok (.lload_n 3, 1) := by decide +kernel
theorem dX4_round_124 : decode cX4_round 124 = .ok (.lastore, 1) := by decide +kernel
theorem dX4_round_125 : decode cX4_round 125 = .ok (.aload_n 0, 1) := by decide +kernel
theorem dX4_round_126 : decode cX4_round 126 = .ok (.getfield 33, 3) := by decide +kernel
theorem dX4_round_129 : decode cX4_round 129 = .ok (.iload_n 1, 1) := by decide +kernel
theorem dX4_round_130 : decode cX4_round 130 = .ok (.baload, 1) := by decide +kernel
theorem dX4_round_131 : decode cX4_round 131 = .ok (.ifCond .eq 17, 3) := by decide +kernel
theorem dX4_round_134 : decode cX4_round 134 = .ok (.iload_n 1, 1) := by decide +kernel
theorem dX4_round_135 : decode cX4_round 135 = .ok (.lload_n 3, 1) := by decide +kernel
theorem dX4_round_136 : decode cX4_round 136 = .ok (.aload_n 0, 1) := by decide +kernel
theorem dX4_round_137 : decode cX4_round 137 = .ok (.getfield 16, 3) := by decide +kernel
theorem dX4_round_140 : decode cX4_round 140 = .ok (.iload_n 1, 1) := by decide +kernel
theorem dX4_round_141 : decode cX4_round 141 = .ok (.laload, 1) := by decide +kernel
theorem dX4_round_142 : decode cX4_round 142 = .ok (.invokestatic 116, 3) := by decide +kernel
theorem dX4_round_145 : decode cX4_round 145 = .ok (.ifCond .le 10, 3) := by decide +kernel
theorem dX4_round_148 : decode cX4_round 148 = .ok (.aload_n 0, 1) := by decide +kernel
theorem dX4_round_149 : decode cX4_round 149 = .ok (.getfield 16, 3) := by decide +kernel
theorem dX4_round_152 : decode cX4_round 152 = .ok (.iload_n 1, 1) := by decide +kernel
theorem dX4_round_153 : decode cX4_round 153 = .ok (.lload_n 3, 1) := by decide +kernel
theorem dX4_round_154 : decode cX4_round 154 = .ok (.lastore, 1) := by decide +kernel
theorem dX4_round_155 : decode cX4_round 155 = .ok (.aload_n 0, 1) := by decide +kernel
theorem dX4_round_156 : decode cX4_round 156 = .ok (.getfield 33, 3) := by decide +kernel
theorem dX4_round_159 : decode cX4_round 159 = .ok (.iload_n 1, 1) := by decide +kernel
theorem dX4_round_160 : decode cX4_round 160 = .ok (.baload, 1) := by decide +kernel
theorem dX4_round_161 : decode cX4_round 161 = .ok (.ifCond .eq 17, 3) := by decide +kernel
theorem dX4_round_164 : decode cX4_round 164 = .ok (.iload_n 1, 1) := by decide +kernel
theorem dX4_round_165 : decode cX4_round 165 = .ok (.lload_n 3, 1) := by decide +kernel
theorem dX4_round_166 : decode cX4_round 166 = .ok (.aload_n 0, 1) := by decide +kernel
theorem dX4_round_167 : decode cX4_round 167 = .ok (.getfield 19, 3) := by decide +kernel
theorem dX4_round_170 : decode cX4_round 170 = .ok (.iload_n 1, 1) := by decide +kernel
theorem dX4_round_171 : decode cX4_round 171 = .ok (.laload, 1) := by decide +kernel
theorem dX4_round_172 : decode cX4_round 172 = .ok (.invokestatic 116, 3) := by decide +kernel
theorem dX4_round_175 : decode cX4_round 175 = .ok (.ifCond .ge 10, 3) := by decide +kernel
theorem dX4_round_178 : decode cX4_round 178 = .ok (.aload_n 0, 1) := by decide +kernel
theorem dX4_round_179 : decode cX4_round 179 = .ok (.getfield 19, 3) := by decide +kernel
theorem dX4_round_182 : decode cX4_round 182 = .ok (.iload_n 1, 1) := by decide +kernel
theorem dX4_round_183 : decode cX4_round 183 = .ok (.lload_n 3, 1) := by decide +kernel
theorem dX4_round_184 : decode cX4_round 184 = .ok (.lastore, 1) := by decide +kernel
theorem dX4_round_185 : decode cX4_round 185 = .ok (.aload_n 0, 1) := by decide +kernel
theorem dX4_round_186 : decode cX4_round 186 = .ok (.getfield 33, 3) := by decide +kernel
theorem dX4_round_189 : decode cX4_round 189 = .ok (.iload_n 1, 1) := by decide +kernel
theorem dX4_round_190 : decode cX4_round 190 = .ok (.iconst 1, 1) := by decide +kernel
theorem dX4_round_191 : decode cX4_round 191 = .ok (.bastore, 1) := by decide +kernel
theorem dX4_round_192 : decode cX4_round 192 = .ok (.aload_n 0, 1) := by decide +kernel
theorem dX4_round_193 : decode cX4_round 193 = .ok (.getfield 29, 3) := by decide +kernel
theorem dX4_round_196 : decode cX4_round 196 = .ok (.iload_n 1, 1) := by decide +kernel
theorem dX4_round_197 : decode cX4_round 197 = .ok (.iconst 1, 1) := by decide +kernel
theorem dX4_round_198 : decode cX4_round 198 = .ok (.bastore, 1) := by decide +kernel
theorem dX4_round_199 : decode cX4_round 199 = .ok (.aload_n 0, 1) := by decide +kernel
theorem dX4_round_200 : decode cX4_round 200 = .ok (.getfield 22, 3) := by decide +kernel
theorem dX4_round_203 : decode cX4_round 203 = .ok (.iload_n 1, 1) := by decide +kernel
theorem dX4_round_204 : decode cX4_round 204 = .ok (.dup2, 1) := by decide +kernel
theorem dX4_round_205 : decode cX4_round 205 = .ok (.iaload, 1) := by decide +kernel
theorem dX4_round_206 : decode cX4_round 206 = .ok (.iconst 1, 1) := by decide +kernel
theorem dX4_round_207 : decode cX4_round 207 = .ok (.iadd, 1) := by decide +kernel
theorem dX4_round_208 : decode cX4_round 208 = .ok (.iastore, 1) := by decide +kernel
theorem dX4_round_209 : decode cX4_round 209 = .ok (.iload_n 2, 1) := by decide +kernel
theorem dX4_round_210 : decode cX4_round 210 = .ok (.ireturn, 1) := by decide +kernel
set_option maxRecDepth 20000 in
theorem ggX4_play_X4_isWire : GoodIn wsX4_play wsX4_isWire := goodIn_r _ [4] (by decide +kernel) (by decide +kernel)
set_option maxRecDepth 20000 in
theorem gX4_play_X4_isWire : GoodIn wsX4_play (va_wsS RX4 142 yX4_isWire wsX4_isWire) := goodIn_app (goodIn_of _ (by decide +kernel)) ggX4_play_X4_isWire
set_option maxRecDepth 20000 in
theorem ggX4_play_X4_refuses : GoodIn wsX4_play wsX4_refuses := goodIn_r _ [8, 9, 69, 70, 71, 72, 73, 74, 75, 76, 77, 78, 79, 80, 81, 82, 83, 84, 85, 86] (by decide +kernel) (by decide +kernel)
set_option maxRecDepth 20000 in
theorem gX4_play_X4_refuses : GoodIn wsX4_play (wsV RX4 153 RX4 yX4_refuses wsX4_refuses) := goodIn_app (goodIn_of _ (by decide +kernel)) ggX4_play_X4_refuses
set_option maxRecDepth 20000 in
theorem ggX4_play_X4_round : GoodIn wsX4_play wsX4_round := goodIn_r _ [13, 14, 15, 16, 17, 18, 19, 20, 21, 22, 23, 24, 25, 26, 27, 3, 28, 29, 30, 31, 32, 33, 34, 35, 36, 37, 38, 39, 40, 41, 42, 43, 44, 45, 46, 47, 48, 49, 50, 51, 52, 53, 54, 55, 56, 57, 58, 59, 60, 61, 62, 63, 64, 65, 66, 67, 68, 69, 70, 71, 72, 73, 74, 75, 76, 77, 78, 79, 80, 81, 82, 83, 84, 85, 86] (by decide +kernel) (by decide +kernel)
set_option maxRecDepth 20000 in
theorem gX4_play_X4_round : GoodIn wsX4_play (wsV RX4 175 RX4 yX4_round wsX4_round) := goodIn_app (goodIn_of _ (by decide +kernel)) ggX4_play_X4_round
theorem dX4_play_0 : decode cX4_play 0 = .ok (.aload_n 0, 1) := by decide +kernel
theorem dX4_play_1 : decode cX4_play 1 = .ok (.iload_n 1, 1) := by decide +kernel
theorem dX4_play_2 : decode cX4_play 2 = .ok (.invokestatic 142, 3) := by decide +kernel
theorem dX4_play_5 : decode cX4_play 5 = .ok (.ifCond .eq 14, 3) := by decide +kernel
theorem dX4_play_8 : decode cX4_play 8 = .ok (.iload_n 2, 1) := by decide +kernel
theorem dX4_play_9 : decode cX4_play 9 = .ok (.iconst 1, 1) := by decide +kernel
theorem dX4_play_10 : decode cX4_play 10 = .ok (.if_icmp .lt 9, 3) := by decide +kernel
theorem dX4_play_13 : decode cX4_play 13 = .ok (.iload_n 2, 1) := by decide +kernel
theorem dX4_play_14 : decode cX4_play 14 = .ok (.bipush 50, 2) := by decide +kernel
theorem dX4_play_16 : decode cX4_play 16 = .ok (.if_icmp .le 7, 3) := by decide +kernel
theorem dX4_play_19 : decode cX4_play 19 = .ok (.iconst 1, 1) := by decide +kernel
theorem dX4_play_20 : decode cX4_play 20 = .ok (.goto 4, 3) := by decide +kernel
theorem dX4_play_23 : decode cX4_play 23 = .ok (.iconst 0, 1) := by decide +kernel
theorem dX4_play_24 : decode cX4_play 24 = .ok (.iconst 0, 1) := by decide +kernel
theorem dX4_play_25 : decode cX4_play 25 = .ok (.invokevirtual 153, 3) := by decide +kernel
theorem dX4_play_28 : decode cX4_play 28 = .ok (.ifCond .eq 5, 3) := by decide +kernel
theorem dX4_play_31 : decode cX4_play 31 = .ok (.iconst 0, 1) := by decide +kernel
theorem dX4_play_32 : decode cX4_play 32 = .ok (.ireturn, 1) := by decide +kernel
theorem dX4_play_33 : decode cX4_play 33 = .ok (.iconst 0, 1) := by decide +kernel
theorem dX4_play_34 : decode cX4_play 34 = .ok (.istore_n 3, 1) := by decide +kernel
theorem dX4_play_35 : decode cX4_play 35 = .ok (.iconst 0, 1) := by decide +kernel
theorem dX4_play_36 : decode cX4_play 36 = .ok (.istore 4, 2) := by decide +kernel
theorem dX4_play_38 : decode cX4_play 38 = .ok (.iload 4, 2) := by decide +kernel
theorem dX4_play_40 : decode cX4_play 40 = .ok (.iload_n 2, 1) := by decide +kernel
theorem dX4_play_41 : decode cX4_play 41 = .ok (.if_icmp .ge 17, 3) := by decide +kernel
theorem dX4_play_44 : decode cX4_play 44 = .ok (.iload_n 3, 1) := by decide +kernel
theorem dX4_play_45 : decode cX4_play 45 = .ok (.aload_n 0, 1) := by decide +kernel
theorem dX4_play_46 : decode cX4_play 46 = .ok (.iload_n 1, 1) := by decide +kernel
theorem dX4_play_47 : decode cX4_play 47 = .ok (.invokevirtual 175, 3) := by decide +kernel
theorem dX4_play_50 : decode cX4_play 50 = .ok (.iadd, 1) := by decide +kernel
theorem dX4_play_51 : decode cX4_play 51 = .ok (.istore_n 3, 1) := by decide +kernel
theorem dX4_play_52 : decode cX4_play 52 = .ok (.iinc 4 1, 3) := by decide +kernel
theorem dX4_play_55 : decode cX4_play 55 = .ok (.goto (-17), 3) := by decide +kernel
theorem dX4_play_58 : decode cX4_play 58 = .ok (.iload_n 3, 1) := by decide +kernel
theorem dX4_play_59 : decode cX4_play 59 = .ok (.ireturn, 1) := by decide +kernel
set_option maxRecDepth 20000 in
theorem ggX4_code_X4_isWire : GoodIn wsX4_code wsX4_isWire := goodIn_r _ [9] (by decide +kernel) (by decide +kernel)
set_option maxRecDepth 20000 in
theorem gX4_code_X4_isWire : GoodIn wsX4_code (va_wsS RX4 142 yX4_isWire wsX4_isWire) := goodIn_app (goodIn_of _ (by decide +kernel)) ggX4_code_X4_isWire
set_option maxRecDepth 20000 in
theorem ggX4_code_X4_refuses : GoodIn wsX4_code wsX4_refuses := goodIn_r _ [13, 14, 15, 16, 17, 18, 19, 20, 21, 22, 23, 24, 25, 26, 27, 28, 29, 30, 31, 32] (by decide +kernel) (by decide +kernel)
set_option maxRecDepth 20000 in
theorem gX4_code_X4_refuses : GoodIn wsX4_code (wsV RX4 153 RX4 yX4_refuses wsX4_refuses) := goodIn_app (goodIn_of _ (by decide +kernel)) ggX4_code_X4_refuses
theorem dX4_code_0 : decode cX4_code 0 = .ok (.iload_n 1, 1) := by decide +kernel
theorem dX4_code_1 : decode cX4_code 1 = .ok (.invokestatic 142, 3) := by decide +kernel
theorem dX4_code_4 : decode cX4_code 4 = .ok (.ifCond .eq 12, 3) := by decide +kernel
theorem dX4_code_7 : decode cX4_code 7 = .ok (.iload_n 2, 1) := by decide +kernel
theorem dX4_code_8 : decode cX4_code 8 = .ok (.ifCond .lt 8, 3) := by decide +kernel
theorem dX4_code_11 : decode cX4_code 11 = .ok (.iload_n 2, 1) := by decide +kernel
theorem dX4_code_12 : decode cX4_code 12 = .ok (.iconst 3, 1) := by decide +kernel
theorem dX4_code_13 : decode cX4_code 13 = .ok (.if_icmp .le 7, 3) := by decide +kernel
theorem dX4_code_16 : decode cX4_code 16 = .ok (.iconst 1, 1) := by decide +kernel
theorem dX4_code_17 : decode cX4_code 17 = .ok (.goto 4, 3) := by decide +kernel
theorem dX4_code_20 : decode cX4_code 20 = .ok (.iconst 0, 1) := by decide +kernel
theorem dX4_code_21 : decode cX4_code 21 = .ok (.istore_n 3, 1) := by decide +kernel
theorem dX4_code_22 : decode cX4_code 22 = .ok (.aload_n 0, 1) := by decide +kernel
theorem dX4_code_23 : decode cX4_code 23 = .ok (.iload_n 3, 1) := by decide +kernel
theorem dX4_code_24 : decode cX4_code 24 = .ok (.iload_n 3, 1) := by decide +kernel
theorem dX4_code_25 : decode cX4_code 25 = .ok (.ifCond .ne 29, 3) := by decide +kernel
theorem dX4_code_28 : decode cX4_code 28 = .ok (.iload_n 2, 1) := by decide +kernel
theorem dX4_code_29 : decode cX4_code 29 = .ok (.iconst 1, 1) := by decide +kernel
theorem dX4_code_30 : decode cX4_code 30 = .ok (.if_icmp .le 24, 3) := by decide +kernel
theorem dX4_code_33 : decode cX4_code 33 = .ok (.aload_n 0, 1) := by decide +kernel
theorem dX4_code_34 : decode cX4_code 34 = .ok (.getfield 33, 3) := by decide +kernel
theorem dX4_code_37 : decode cX4_code 37 = .ok (.iload_n 3, 1) := by decide +kernel
theorem dX4_code_38 : decode cX4_code 38 = .ok (.ifCond .eq 7, 3) := by decide +kernel
theorem dX4_code_41 : decode cX4_code 41 = .ok (.iconst 0, 1) := by decide +kernel
theorem dX4_code_42 : decode cX4_code 42 = .ok (.goto 4, 3) := by decide +kernel
theorem dX4_code_45 : decode cX4_code 45 = .ok (.iload_n 1, 1) := by decide +kernel
theorem dX4_code_46 : decode cX4_code 46 = .ok (.baload, 1) := by decide +kernel
theorem dX4_code_47 : decode cX4_code 47 = .ok (.ifCond .ne 7, 3) := by decide +kernel
theorem dX4_code_50 : decode cX4_code 50 = .ok (.iconst 1, 1) := by decide +kernel
theorem dX4_code_51 : decode cX4_code 51 = .ok (.goto 4, 3) := by decide +kernel
theorem dX4_code_54 : decode cX4_code 54 = .ok (.iconst 0, 1) := by decide +kernel
theorem dX4_code_55 : decode cX4_code 55 = .ok (.invokevirtual 153, 3) := by decide +kernel
theorem dX4_code_58 : decode cX4_code 58 = .ok (.ifCond .eq 5, 3) := by decide +kernel
theorem dX4_code_61 : decode cX4_code 61 = .ok (.lconst 0, 1) := by decide +kernel
theorem dX4_code_62 : decode cX4_code 62 = .ok (.lreturn, 1) := by decide +kernel
theorem dX4_code_63 : decode cX4_code 63 = .ok (.iload_n 2, 1) := by decide +kernel
theorem dX4_code_64 : decode cX4_code 64 = .ok (.ifCond .ne 12, 3) := by decide +kernel
theorem dX4_code_67 : decode cX4_code 67 = .ok (.aload_n 0, 1) := by decide +kernel
theorem dX4_code_68 : decode cX4_code 68 = .ok (.getfield 7, 3) := by decide +kernel
theorem dX4_code_71 : decode cX4_code 71 = .ok (.iload_n 1, 1) := by decide +kernel
theorem dX4_code_72 : decode cX4_code 72 = .ok (.laload, 1) := by decide +kernel
theorem dX4_code_73 : decode cX4_code 73 = .ok (.goto 37, 3) := by decide +kernel
theorem dX4_code_76 : decode cX4_code 76 = .ok (.iload_n 2, 1) := by decide +kernel
theorem dX4_code_77 : decode cX4_code 77 = .ok (.iconst 1, 1) := by decide +kernel
theorem dX4_code_78 : decode cX4_code 78 = .ok (.if_icmp .ne 12, 3) := by decide +kernel
theorem dX4_code_81 : decode cX4_code 81 = .ok (.aload_n 0, 1) := by decide +kernel
theorem dX4_code_82 : decode cX4_code 82 = .ok (.getfield 13, 3) := by decide +kernel
theorem dX4_code_85 : decode cX4_code 85 = .ok (.iload_n 1, 1) := by decide +kernel
theorem dX4_code_86 : decode cX4_code 86 = .ok (.laload, 1) := by decide +kernel
theorem dX4_code_87 : decode cX4_code 87 = .ok (.goto 23, 3) := by decide +kernel
theorem dX4_code_90 : decode cX4_code 90 = .ok (.iload_n 2, 1) := by decide +kernel
theorem dX4_code_91 : decode cX4_code 91 = .ok (.iconst 2, 1) := by decide +kernel
theorem dX4_code_92 : decode cX4_code 92 = .ok (.if_icmp .ne 12, 3) := by decide +kernel
theorem dX4_code_95 : decode cX4_code 95 = .ok (.aload_n 0, 1) := by decide +kernel
theorem dX4_code_96 : decode cX4_code 96 = .ok (.getfield 16, 3) := by decide +kernel
theorem dX4_code_99 : decode cX4_code 99 = .ok (.iload_n 1, 1) := by decide +kernel
theorem dX4_code_100 : decode cX4_code 100 = .ok (.laload, 1) := by decide +kernel
theorem dX4_code_101 : decode cX4_code 101 = .ok (.goto 9, 3) := by decide +kernel
theorem dX4_code_104 : decode cX4_code 104 = .ok (.aload_n 0, 1) := by decide +kernel
theorem dX4_code_105 : decode cX4_code 105 = .ok (.getfield 19, 3) := by decide +kernel
theorem dX4_code_108 : decode cX4_code 108 = .ok (.iload_n 1, 1) := by decide +kernel
theorem dX4_code_109 : decode cX4_code 109 = .ok (.laload, 1) := by decide +kernel
theorem dX4_code_110 : decode cX4_code 110 = .ok (.lreturn, 1) := by decide +kernel
set_option maxRecDepth 20000 in
theorem ggX4_trace_X4_isPedal : GoodIn wsX4_trace wsX4_isPedal := goodIn_r _ [7, 8, 9, 10, 6, 11, 17, 18, 19, 20, 21, 22, 23, 24, 25, 26, 27, 28, 29, 30, 31, 32, 33, 34] (by decide +kernel) (by decide +kernel)
set_option maxRecDepth 20000 in
theorem gX4_trace_X4_isPedal : GoodIn wsX4_trace (wsV RX4 168 RX4 yX4_isPedal wsX4_isPedal) := goodIn_app (goodIn_of _ (by decide +kernel)) ggX4_trace_X4_isPedal
set_option maxRecDepth 20000 in
theorem ggX4_trace_X4_refuses : GoodIn wsX4_trace wsX4_refuses := goodIn_r _ [15, 16, 17, 18, 19, 20, 21, 22, 23, 24, 25, 26, 27, 28, 29, 30, 31, 32, 33, 34] (by decide +kernel) (by decide +kernel)
set_option maxRecDepth 20000 in
theorem gX4_trace_X4_refuses : GoodIn wsX4_trace (wsV RX4 153 RX4 yX4_refuses wsX4_refuses) := goodIn_app (goodIn_of _ (by decide +kernel)) ggX4_trace_X4_refuses
theorem dX4_trace_0 : decode cX4_trace 0 = .ok (.aload_n 0, 1) := by decide +kernel
theorem dX4_trace_1 : decode cX4_trace 1 = .ok (.iload_n 1, 1) := by decide +kernel
theorem dX4_trace_2 : decode cX4_trace 2 = .ok (.iload_n 2, 1) := by decide +kernel
theorem dX4_trace_3 : decode cX4_trace 3 = .ok (.invokevirtual 168, 3) := by decide +kernel
theorem dX4_trace_6 : decode cX4_trace 6 = .ok (.ifCond .ne 7, 3) := by decide +kernel
theorem dX4_trace_9 : decode cX4_trace 9 = .ok (.iconst 1, 1) := by decide +kernel
theorem dX4_trace_10 : decode cX4_trace 10 = .ok (.goto 4, 3) := by decide +kernel
theorem dX4_trace_13 : decode cX4_trace 13 = .ok (.iconst 0, 1) := by decide +kernel
theorem dX4_trace_14 : decode cX4_trace 14 = .ok (.istore_n 3, 1) := by decide +kernel
theorem dX4_trace_15 : decode cX4_trace 15 = .ok (.aload_n 0, 1) := by decide +kernel
theorem dX4_trace_16 : decode cX4_trace 16 = .ok (.iload_n 3, 1) := by decide +kernel
theorem dX4_trace_17 : decode cX4_trace 17 = .ok (.iload_n 3, 1) := by decide +kernel
theorem dX4_trace_18 : decode cX4_trace 18 = .ok (.ifCond .ne 24, 3) := by decide +kernel
theorem dX4_trace_21 : decode cX4_trace 21 = .ok (.aload_n 0, 1) := by decide +kernel
theorem dX4_trace_22 : decode cX4_trace 22 = .ok (.getfield 29, 3) := by decide +kernel
theorem dX4_trace_25 : decode cX4_trace 25 = .ok (.iload_n 3, 1) := by decide +kernel
theorem dX4_trace_26 : decode cX4_trace 26 = .ok (.ifCond .eq 7, 3) := by decide +kernel
theorem dX4_trace_29 : decode cX4_trace 29 = .ok (.iconst 0, 1) := by decide +kernel
theorem dX4_trace_30 : decode cX4_trace 30 = .ok (.goto 4, 3) := by decide +kernel
theorem dX4_trace_33 : decode cX4_trace 33 = .ok (.iload_n 1, 1) := by decide +kernel
theorem dX4_trace_34 : decode cX4_trace 34 = .ok (.baload, 1) := by decide +kernel
theorem dX4_trace_35 : decode cX4_trace 35 = .ok (.ifCond .ne 7, 3) := by decide +kernel
theorem dX4_trace_38 : decode cX4_trace 38 = .ok (.iconst 1, 1) := by decide +kernel
theorem dX4_trace_39 : decode cX4_trace 39 = .ok (.goto 4, 3) := by decide +kernel
theorem dX4_trace_42 : decode cX4_trace 42 = .ok (.iconst 0, 1) := by decide +kernel
theorem dX4_trace_43 : decode cX4_trace 43 = .ok (.invokevirtual 153, 3) := by decide +kernel
theorem dX4_trace_46 : decode cX4_trace 46 = .ok (.ifCond .eq 5, 3) := by decide +kernel
theorem dX4_trace_49 : decode cX4_trace 49 = .ok (.lconst 0, 1) := by decide +kernel
theorem dX4_trace_50 : decode cX4_trace 50 = .ok (.lreturn, 1) := by decide +kernel
theorem dX4_trace_51 : decode cX4_trace 51 = .ok (.aload_n 0, 1) := by decide +kernel
theorem dX4_trace_52 : decode cX4_trace 52 = .ok (.getfield 42, 3) := by decide +kernel
theorem dX4_trace_55 : decode cX4_trace 55 = .ok (.bipush 12, 2) := by decide +kernel
theorem dX4_trace_57 : decode cX4_trace 57 = .ok (.iload_n 1, 1) := by decide +kernel
theorem dX4_trace_58 : decode cX4_trace 58 = .ok (.imul, 1) := by decide +kernel
theorem dX4_trace_59 : decode cX4_trace 59 = .ok (.iload_n 2, 1) := by decide +kernel
theorem dX4_trace_60 : decode cX4_trace 60 = .ok (.iadd, 1) := by decide +kernel
theorem dX4_trace_61 : decode cX4_trace 61 = .ok (.laload, 1) := by decide +kernel
theorem dX4_trace_62 : decode cX4_trace 62 = .ok (.lreturn, 1) := by decide +kernel
set_option maxRecDepth 20000 in
theorem ggX4_light_X4_isPedal : GoodIn wsX4_light wsX4_isPedal := goodIn_r _ [8, 9, 10, 11, 7, 12, 13, 14, 15, 16, 17, 18, 19, 20, 21, 22, 23, 24, 25, 26, 27, 28, 29, 30] (by decide +kernel) (by decide +kernel)
set_option maxRecDepth 20000 in
theorem gX4_light_X4_isPedal : GoodIn wsX4_light (wsV RX4 168 RX4 yX4_isPedal wsX4_isPedal) := goodIn_app (goodIn_of _ (by decide +kernel)) ggX4_light_X4_isPedal
