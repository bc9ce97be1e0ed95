theorem dX1_through_91 : decode cX1_through 91 = .ok (.lload_n 2, 1) := by decide +kernel
theorem dX1_through_92 : decode cX1_through 92 = .ok (.invokevirtual 70, 3) := by decide +kernel
theorem dX1_through_95 : decode cX1_through 95 = .ok (.ifCond .eq 7, 3) := by decide +kernel
theorem dX1_through_98 : decode cX1_through 98 = .ok (.lload_n 2, 1) := by decide +kernel
theorem dX1_through_99 : decode cX1_through 99 = .ok (.goto 5, 3) := by decide +kernel
theorem dX1_through_102 : decode cX1_through 102 = .ok (.lload 4, 2) := by decide +kernel
theorem dX1_through_104 : decode cX1_through 104 = .ok (.lreturn, 1) := by decide +kernel
theorem dX1_through_105 : decode cX1_through 105 = .ok (.aload_n 0, 1) := by decide +kernel
theorem dX1_through_106 : decode cX1_through 106 = .ok (.lload 4, 2) := by decide +kernel
theorem dX1_through_108 : decode cX1_through 108 = .ok (.aload_n 0, 1) := by decide +kernel
theorem dX1_through_109 : decode cX1_through 109 = .ok (.iload_n 1, 1) := by decide +kernel
theorem dX1_through_110 : decode cX1_through 110 = .ok (.lload 4, 2) := by decide +kernel
theorem dX1_through_112 : decode cX1_through 112 = .ok (.invokevirtual 74, 3) := by decide +kernel
theorem dX1_through_115 : decode cX1_through 115 = .ok (.invokevirtual 78, 3) := by decide +kernel
theorem dX1_through_118 : decode cX1_through 118 = .ok (.lreturn, 1) := by decide +kernel
theorem dX1_through_119 : decode cX1_through 119 = .ok (.aload_n 0, 1) := by decide +kernel
theorem dX1_through_120 : decode cX1_through 120 = .ok (.lload 4, 2) := by decide +kernel
theorem dX1_through_122 : decode cX1_through 122 = .ok (.invokevirtual 82, 3) := by decide +kernel
theorem dX1_through_125 : decode cX1_through 125 = .ok (.ifCond .eq 8, 3) := by decide +kernel
theorem dX1_through_128 : decode cX1_through 128 = .ok (.lload 4, 2) := by decide +kernel
theorem dX1_through_130 : decode cX1_through 130 = .ok (.goto 13, 3) := by decide +kernel
theorem dX1_through_133 : decode cX1_through 133 = .ok (.aload_n 0, 1) := by decide +kernel
theorem dX1_through_134 : decode cX1_through 134 = .ok (.lload 4, 2) := by decide +kernel
theorem dX1_through_136 : decode cX1_through 136 = .ok (.aload_n 0, 1) := by decide +kernel
theorem dX1_through_137 : decode cX1_through 137 = .ok (.invokevirtual 86, 3) := by decide +kernel
theorem dX1_through_140 : decode cX1_through 140 = .ok (.invokevirtual 78, 3) := by decide +kernel
theorem dX1_through_143 : decode cX1_through 143 = .ok (.lreturn, 1) := by decide +kernel
theorem dX1_through_144 : decode cX1_through 144 = .ok (.aload_n 0, 1) := by decide +kernel
theorem dX1_through_145 : decode cX1_through 145 = .ok (.lload_n 2, 1) := by decide +kernel
theorem dX1_through_146 : decode cX1_through 146 = .ok (.lload 4, 2) := by decide +kernel
theorem dX1_through_148 : decode cX1_through 148 = .ok (.invokevirtual 78, 3) := by decide +kernel
theorem dX1_through_151 : decode cX1_through 151 = .ok (.lreturn, 1) := by decide +kernel
theorem dX1_through_152 : decode cX1_through 152 = .ok (.aload_n 0, 1) := by decide +kernel
theorem dX1_through_153 : decode cX1_through 153 = .ok (.lload 4, 2) := by decide +kernel
theorem dX1_through_155 : decode cX1_through 155 = .ok (.invokevirtual 67, 3) := by decide +kernel
theorem dX1_through_158 : decode cX1_through 158 = .ok (.lreturn, 1) := by decide +kernel
theorem dX1_through_159 : decode cX1_through 159 = .ok (.lload 4, 2) := by decide +kernel
theorem dX1_through_161 : decode cX1_through 161 = .ok (.lreturn, 1) := by decide +kernel
set_option maxRecDepth 20000 in
theorem ggX1_withOtherSign_X1_isWhole : GoodIn wsX1_withOtherSign wsX1_isWhole := goodIn_r _ [7, 8] (by decide +kernel) (by decide +kernel)
set_option maxRecDepth 20000 in
theorem gX1_withOtherSign_X1_isWhole : GoodIn wsX1_withOtherSign (wsV RX1 55 RX1 yX1_isWhole wsX1_isWhole) := goodIn_app (goodIn_of _ (by decide +kernel)) ggX1_withOtherSign_X1_isWhole
set_option maxRecDepth 20000 in
theorem ggX1_withOtherSign_X1_fitted : GoodIn wsX1_withOtherSign wsX1_fitted := goodIn_r _ [12, 13] (by decide +kernel) (by decide +kernel)
set_option maxRecDepth 20000 in
theorem gX1_withOtherSign_X1_fitted : GoodIn wsX1_withOtherSign (wsV RX1 89 RX1 yX1_fitted wsX1_fitted) := goodIn_app (goodIn_of _ (by decide +kernel)) ggX1_withOtherSign_X1_fitted
theorem dX1_withOtherSign_0 : decode cX1_withOtherSign 0 = .ok (.aload_n 0, 1) := by decide +kernel
theorem dX1_withOtherSign_1 : decode cX1_withOtherSign 1 = .ok (.invokevirtual 55, 3) := by decide +kernel
theorem dX1_withOtherSign_4 : decode cX1_withOtherSign 4 = .ok (.ifCond .eq 12, 3) := by decide +kernel
theorem dX1_withOtherSign_7 : decode cX1_withOtherSign 7 = .ok (.aload_n 0, 1) := by decide +kernel
theorem dX1_withOtherSign_8 : decode cX1_withOtherSign 8 = .ok (.lload_n 1, 1) := by decide +kernel
theorem dX1_withOtherSign_9 : decode cX1_withOtherSign 9 = .ok (.lneg, 1) := by decide +kernel
theorem dX1_withOtherSign_10 : decode cX1_withOtherSign 10 = .ok (.invokevirtual 89, 3) := by decide +kernel
theorem dX1_withOtherSign_13 : decode cX1_withOtherSign 13 = .ok (.goto 13, 3) := by decide +kernel
theorem dX1_withOtherSign_16 : decode cX1_withOtherSign 16 = .ok (.lload_n 1, 1) := by decide +kernel
theorem dX1_withOtherSign_17 : decode cX1_withOtherSign 17 = .ok (.aload_n 0, 1) := by decide +kernel
theorem dX1_withOtherSign_18 : decode cX1_withOtherSign 18 = .ok (.getfield 47, 3) := by decide +kernel
theorem dX1_withOtherSign_21 : decode cX1_withOtherSign 21 = .ok (.ldc2_w 92, 3) := by decide +kernel
theorem dX1_withOtherSign_24 : decode cX1_withOtherSign 24 = .ok (.lxor, 1) := by decide +kernel
theorem dX1_withOtherSign_25 : decode cX1_withOtherSign 25 = .ok (.lxor, 1) := by decide +kernel
theorem dX1_withOtherSign_26 : decode cX1_withOtherSign 26 = .ok (.lreturn, 1) := by decide +kernel
theorem dX1_withSignOf_0 : decode cX1_withSignOf 0 = .ok (.lload_n 3, 1) := by decide +kernel
theorem dX1_withSignOf_1 : decode cX1_withSignOf 1 = .ok (.aload_n 0, 1) := by decide +kernel
theorem dX1_withSignOf_2 : decode cX1_withSignOf 2 = .ok (.getfield 47, 3) := by decide +kernel
theorem dX1_withSignOf_5 : decode cX1_withSignOf 5 = .ok (.land, 1) := by decide +kernel
theorem dX1_withSignOf_6 : decode cX1_withSignOf 6 = .ok (.lload_n 1, 1) := by decide +kernel
theorem dX1_withSignOf_7 : decode cX1_withSignOf 7 = .ok (.lconst 0, 1) := by decide +kernel
theorem dX1_withSignOf_8 : decode cX1_withSignOf 8 = .ok (.lcmp, 1) := by decide +kernel
theorem dX1_withSignOf_9 : decode cX1_withSignOf 9 = .ok (.ifCond .ge 14, 3) := by decide +kernel
theorem dX1_withSignOf_12 : decode cX1_withSignOf 12 = .ok (.aload_n 0, 1) := by decide +kernel
theorem dX1_withSignOf_13 : decode cX1_withSignOf 13 = .ok (.getfield 47, 3) := by decide +kernel
theorem dX1_withSignOf_16 : decode cX1_withSignOf 16 = .ok (.ldc2_w 92, 3) := by decide +kernel
theorem dX1_withSignOf_19 : decode cX1_withSignOf 19 = .ok (.lxor, 1) := by decide +kernel
theorem dX1_withSignOf_20 : decode cX1_withSignOf 20 = .ok (.goto 4, 3) := by decide +kernel
theorem dX1_withSignOf_23 : decode cX1_withSignOf 23 = .ok (.lconst 0, 1) := by decide +kernel
theorem dX1_withSignOf_24 : decode cX1_withSignOf 24 = .ok (.lor, 1) := by decide +kernel
theorem dX1_withSignOf_25 : decode cX1_withSignOf 25 = .ok (.lreturn, 1) := by decide +kernel
theorem dX1_fitted_0 : decode cX1_fitted 0 = .ok (.aload_n 0, 1) := by decide +kernel
theorem dX1_fitted_1 : decode cX1_fitted 1 = .ok (.getfield 37, 3) := by decide +kernel
theorem dX1_fitted_4 : decode cX1_fitted 4 = .ok (.bipush 32, 2) := by decide +kernel
theorem dX1_fitted_6 : decode cX1_fitted 6 = .ok (.if_icmp .ne 9, 3) := by decide +kernel
theorem dX1_fitted_9 : decode cX1_fitted 9 = .ok (.lload_n 1, 1) := by decide +kernel
theorem dX1_fitted_10 : decode cX1_fitted 10 = .ok (.l2i, 1) := by decide +kernel
theorem dX1_fitted_11 : decode cX1_fitted 11 = .ok (.i2l, 1) := by decide +kernel
theorem dX1_fitted_12 : decode cX1_fitted 12 = .ok (.goto 4, 3) := by decide +kernel
theorem dX1_fitted_15 : decode cX1_fitted 15 = .ok (.lload_n 1, 1) := by decide +kernel
theorem dX1_fitted_16 : decode cX1_fitted 16 = .ok (.lreturn, 1) := by decide +kernel
set_option maxRecDepth 20000 in
theorem ggX1_wholeSize_X1_oneHalf : GoodIn wsX1_wholeSize wsX1_oneHalf := goodIn_r _ [8, 3, 2] (by decide +kernel) (by decide +kernel)
set_option maxRecDepth 20000 in
theorem gX1_wholeSize_X1_oneHalf : GoodIn wsX1_wholeSize (wsV RX1 94 RX1 yX1_oneHalf wsX1_oneHalf) := goodIn_app (goodIn_of _ (by decide +kernel)) ggX1_wholeSize_X1_oneHalf
set_option maxRecDepth 20000 in
theorem ggX1_wholeSize_X1_growsAway : GoodIn wsX1_wholeSize wsX1_growsAway := goodIn_r _ [11] (by decide +kernel) (by decide +kernel)
set_option maxRecDepth 20000 in
theorem gX1_wholeSize_X1_growsAway : GoodIn wsX1_wholeSize (va_wsS RX1 97 yX1_growsAway wsX1_growsAway) := goodIn_app (goodIn_of _ (by decide +kernel)) ggX1_wholeSize_X1_growsAway
set_option maxRecDepth 20000 in
theorem ggX1_wholeSize_X1_one : GoodIn wsX1_wholeSize wsX1_one := goodIn_r _ [15, 3, 2] (by decide +kernel) (by decide +kernel)
set_option maxRecDepth 20000 in
theorem gX1_wholeSize_X1_one : GoodIn wsX1_wholeSize (wsV RX1 86 RX1 yX1_one wsX1_one) := goodIn_app (goodIn_of _ (by decide +kernel)) ggX1_wholeSize_X1_one
set_option maxRecDepth 20000 in
theorem ggX1_wholeSize_X1_isNearerAway : GoodIn wsX1_wholeSize wsX1_isNearerAway := goodIn_r _ [18] (by decide +kernel) (by decide +kernel)
set_option maxRecDepth 20000 in
theorem gX1_wholeSize_X1_isNearerAway : GoodIn wsX1_wholeSize (va_wsS RX1 101 yX1_isNearerAway wsX1_isNearerAway) := goodIn_app (goodIn_of _ (by decide +kernel)) ggX1_wholeSize_X1_isNearerAway
theorem dX1_wholeSize_0 : decode cX1_wholeSize 0 = .ok (.lload_n 2, 1) := by decide +kernel
theorem dX1_wholeSize_1 : decode cX1_wholeSize 1 = .ok (.aload_n 0, 1) := by decide +kernel
theorem dX1_wholeSize_2 : decode cX1_wholeSize 2 = .ok (.getfield 47, 3) := by decide +kernel
theorem dX1_wholeSize_5 : decode cX1_wholeSize 5 = .ok (.land, 1) := by decide +kernel
theorem dX1_wholeSize_6 : decode cX1_wholeSize 6 = .ok (.lstore 4, 2) := by decide +kernel
theorem dX1_wholeSize_8 : decode cX1_wholeSize 8 = .ok (.lload 4, 2) := by decide +kernel
theorem dX1_wholeSize_10 : decode cX1_wholeSize 10 = .ok (.aload_n 0, 1) := by decide +kernel
theorem dX1_wholeSize_11 : decode cX1_wholeSize 11 = .ok (.getfield 41, 3) := by decide +kernel
theorem dX1_wholeSize_14 : decode cX1_wholeSize 14 = .ok (.lshr, 1) := by decide +kernel
theorem dX1_wholeSize_15 : decode cX1_wholeSize 15 = .ok (.l2i, 1) := by decide +kernel
theorem dX1_wholeSize_16 : decode cX1_wholeSize 16 = .ok (.aload_n 0, 1) := by decide +kernel
theorem dX1_wholeSize_17 : decode cX1_wholeSize 17 = .ok (.getfield 44, 3) := by decide +kernel
theorem dX1_wholeSize_20 : decode cX1_wholeSize 20 = .ok (.isub, 1) := by decide +kernel
theorem dX1_wholeSize_21 : decode cX1_wholeSize 21 = .ok (.istore 6, 2) := by decide +kernel
theorem dX1_wholeSize_23 : decode cX1_wholeSize 23 = .ok (.lload 4, 2) := by decide +kernel
theorem dX1_wholeSize_25 : decode cX1_wholeSize 25 = .ok (.lconst 0, 1) := by decide +kernel
theorem dX1_wholeSize_26 : decode cX1_wholeSize 26 = .ok (.lcmp, 1) := by decide +kernel
theorem dX1_wholeSize_27 : decode cX1_wholeSize 27 = .ok (.ifCond .eq 12, 3) := by decide +kernel
theorem dX1_wholeSize_30 : decode cX1_wholeSize 30 = .ok (.iload 6, 2) := by decide +kernel
theorem dX1_wholeSize_32 : decode cX1_wholeSize 32 = .ok (.aload_n 0, 1) := by decide +kernel
theorem dX1_wholeSize_33 : decode cX1_wholeSize 33 = .ok (.getfield 41, 3) := by decide +kernel
theorem dX1_wholeSize_36 : decode cX1_wholeSize 36 = .ok (.if_icmp .lt 6, 3) := by decide +kernel
theorem dX1_wholeSize_39 : decode cX1_wholeSize 39 = .ok (.lload 4, 2) := by decide +kernel
theorem dX1_wholeSize_41 : decode cX1_wholeSize 41 = .ok (.lreturn, 1) := by decide +kernel
theorem dX1_wholeSize_42 : decode cX1_wholeSize 42 = .ok (.iload 6, 2) := by decide +kernel
theorem dX1_wholeSize_44 : decode cX1_wholeSize 44 = .ok (.ifCond .ge 47, 3) := by decide +kernel
theorem dX1_wholeSize_47 : decode cX1_wholeSize 47 = .ok (.iload_n 1, 1) := by decide +kernel
theorem dX1_wholeSize_48 : decode cX1_wholeSize 48 = .ok (.iconst 5, 1) := by decide +kernel
theorem dX1_wholeSize_49 : decode cX1_wholeSize 49 = .ok (.if_icmp .ne 21, 3) := by decide +kernel
theorem dX1_wholeSize_52 : decode cX1_wholeSize 52 = .ok (.lload 4, 2) := by decide +kernel
theorem dX1_wholeSize_54 : decode cX1_wholeSize 54 = .ok (.aload_n 0, 1) := by decide +kernel
theorem dX1_wholeSize_55 : decode cX1_wholeSize 55 = .ok (.invokevirtual 94, 3) := by decide +kernel
theorem dX1_wholeSize_58 : decode cX1_wholeSize 58 = .ok (.lcmp, 1) := by decide +kernel
theorem dX1_wholeSize_59 : decode cX1_wholeSize 59 = .ok (.ifCond .le 7, 3) := by decide +kernel
theorem dX1_wholeSize_62 : decode cX1_wholeSize 62 = .ok (.iconst 1, 1) := by decide +kernel
theorem dX1_wholeSize_63 : decode cX1_wholeSize 63 = .ok (.goto 12, 3) := by decide +kernel
theorem dX1_wholeSize_66 : decode cX1_wholeSize 66 = .ok (.iconst 0, 1) := by decide +kernel
theorem dX1_wholeSize_67 : decode cX1_wholeSize 67 = .ok (.goto 8, 3) := by decide +kernel
theorem dX1_wholeSize_70 : decode cX1_wholeSize 70 = .ok (.iload_n 1, 1) := by decide +kernel
theorem dX1_wholeSize_71 : decode cX1_wholeSize 71 = .ok (.lload_n 2, 1) := by decide +kernel
theorem dX1_wholeSize_72 : decode cX1_wholeSize 72 = .ok (.invokestatic 97, 3) := by decide +kernel
theorem dX1_wholeSize_75 : decode cX1_wholeSize 75 = .ok (.istore 7, 2) := by decide +kernel
theorem dX1_wholeSize_77 : decode cX1_wholeSize 77 = .ok (.iload 7, 2) := by decide +kernel
theorem dX1_wholeSize_79 : decode cX1_wholeSize 79 = .ok (.ifCond .eq 10, 3) := by decide +kernel
theorem dX1_wholeSize_82 : decode cX1_wholeSize 82 = .ok (.aload_n 0, 1) := by decide +kernel
theorem dX1_wholeSize_83 : decode cX1_wholeSize 83 = .ok (.invokevirtual 86, 3) := by decide +kernel
theorem dX1_wholeSize_86 : decode cX1_wholeSize 86 = .ok (.goto 4, 3) := by decide +kernel
theorem dX1_wholeSize_89 : decode cX1_wholeSize 89 = .ok (.lconst 0, 1) := by decide +kernel
theorem dX1_wholeSize_90 : decode cX1_wholeSize 90 = .ok (.lreturn, 1) := by decide +kernel
theorem dX1_wholeSize_91 : decode cX1_wholeSize 91 = .ok (.lconst 1, 1) := by decide +kernel
theorem dX1_wholeSize_92 : decode cX1_wholeSize 92 = .ok (.aload_n 0, 1) := by decide +kernel
theorem dX1_wholeSize_93 : decode cX1_wholeSize 93 = .ok (.getfield 41, 3) := by decide +kernel
theorem dX1_wholeSize_96 : decode cX1_wholeSize 96 = .ok (.iload 6, 2) := by decide +kernel
theorem dX1_wholeSize_98 : decode cX1_wholeSize 98 = .ok (.isub, 1) := by decide +kernel
theorem dX1_wholeSize_99 : decode cX1_wholeSize 99 = .ok (.lshl, 1) := by decide +kernel
theorem dX1_wholeSize_100 : decode cX1_wholeSize 100 = .ok (.lstore 7, 2) := by decide +kernel
theorem dX1_wholeSize_102 : decode cX1_wholeSize 102 = .ok (.lload 4, 2) := by decide +kernel
theorem dX1_wholeSize_104 : decode cX1_wholeSize 104 = .ok (.lload 7, 2) := by decide +kernel
theorem dX1_wholeSize_106 : decode cX1_wholeSize 106 = .ok (.lconst 1, 1) := by decide +kernel
theorem dX1_wholeSize_107 : decode cX1_wholeSize 107 = .ok (.lsub, 1) := by decide +kernel
theorem dX1_wholeSize_108 : decode cX1_wholeSize 108 = .ok (.land, 1) := by decide +kernel
theorem dX1_wholeSize_109 : decode cX1_wholeSize 109 = .ok (.lstore 9, 2) := by decide +kernel
theorem dX1_wholeSize_111 : decode cX1_wholeSize 111 = .ok (.lload 9, 2) := by decide +kernel
theorem dX1_wholeSize_113 : decode cX1_wholeSize 113 = .ok (.lconst 0, 1) := by decide +kernel
theorem dX1_wholeSize_114 : decode cX1_wholeSize 114 = .ok (.lcmp, 1) := by decide +kernel
theorem dX1_wholeSize_115 : decode cX1_wholeSize 115 = .ok (.ifCond .ne 6, 3) := by decide +kernel
theorem dX1_wholeSize_118 : decode cX1_wholeSize 118 = .ok (.lload 4, 2) := by decide +kernel
theorem dX1_wholeSize_120 : decode cX1_wholeSize 120 = .ok (.lreturn, 1) := by decide +kernel
theorem dX1_wholeSize_121 : decode cX1_wholeSize 121 = .ok (.lload 4, 2) := by decide +kernel
theorem dX1_wholeSize_123 : decode cX1_wholeSize 123 = .ok (.lload 9, 2) := by decide +kernel
theorem dX1_wholeSize_125 : decode cX1_wholeSize 125 = .ok (.lsub, 1) := by decide +kernel
theorem dX1_wholeSize_126 : decode cX1_wholeSize 126 = .ok (.lstore 11, 2) := by decide +kernel
theorem dX1_wholeSize_128 : decode cX1_wholeSize 128 = .ok (.iload_n 1, 1) := by decide +kernel
theorem dX1_wholeSize_129 : decode cX1_wholeSize 129 = .ok (.iconst 5, 1) := by decide +kernel
theorem dX1_wholeSize_130 : decode cX1_wholeSize 130 = .ok (.if_icmp .ne 15, 3) := by decide +kernel
theorem dX1_wholeSize_133 : decode cX1_wholeSize 133 = .ok (.lload 11, 2) := by decide +kernel
theorem dX1_wholeSize_135 : decode cX1_wholeSize 135 = .ok (.lload 9, 2) := by decide +kernel
theorem dX1_wholeSize_137 : decode cX1_wholeSize 137 = .ok (.lload 7, 2) := by decide +kernel
theorem dX1_wholeSize_139 : decode cX1_wholeSize 139 = .ok (.invokestatic 101, 3) := by decide +kernel
theorem dX1_wholeSize_142 : decode cX1_wholeSize 142 = .ok (.goto 8, 3) := by decide +kernel
theorem dX1_wholeSize_145 : decode cX1_wholeSize 145 = .ok (.iload_n 1, 1) := by decide +kernel
theorem dX1_wholeSize_146 : decode cX1_wholeSize 146 = .ok (.lload_n 2, 1) := by decide +kernel
theorem dX1_wholeSize_147 : decode cX1_wholeSize 147 = .ok (.invokestatic 97, 3) := by decide +kernel
theorem dX1_wholeSize_150 : decode cX1_wholeSize 150 = .ok (.istore 13, 2) := by decide +kernel
theorem dX1_wholeSize_152 : decode cX1_wholeSize 152 = .ok (.iload 13, 2) := by decide +kernel
theorem dX1_wholeSize_154 : decode cX1_wholeSize 154 = .ok (.ifCond .eq 11, 3) := by decide +kernel
theorem dX1_wholeSize_157 : decode cX1_wholeSize 157 = .ok (.lload 11, 2) := by decide +kernel
theorem dX1_wholeSize_159 : decode cX1_wholeSize 159 = .ok (.lload 7, 2) := by decide +kernel
theorem dX1_wholeSize_161 : decode cX1_wholeSize 161 = .ok (.ladd, 1) := by decide +kernel
theorem dX1_wholeSize_162 : decode cX1_wholeSize 162 = .ok (.goto 5, 3) := by decide +kernel
theorem dX1_wholeSize_165 : decode cX1_wholeSize 165 = .ok (.lload 11, 2) := by decide +kernel
theorem dX1_wholeSize_167 : decode cX1_wholeSize 167 = .ok (.lreturn, 1) := by decide +kernel
theorem dX1_growsAway_0 : decode cX1_growsAway 0 = .ok (.iload_n 0, 1) := by decide +kernel
theorem dX1_growsAway_1 : decode cX1_growsAway 1 = .ok (.iconst 3, 1) := by decide +kernel
theorem dX1_growsAway_2 : decode cX1_growsAway 2 = .ok (.if_icmp .ne 17, 3) := by decide +kernel
theorem dX1_growsAway_5 : decode cX1_growsAway 5 = .ok (.lload_n 1, 1) := by decide +kernel
theorem dX1_growsAway_6 : decode cX1_growsAway 6 = .ok (.lconst 0, 1) := by decide +kernel
theorem dX1_growsAway_7 : decode cX1_growsAway 7 = .ok (.lcmp, 1) := by decide +kernel
theorem dX1_growsAway_8 : decode cX1_growsAway 8 = .ok (.ifCond .ge 7, 3) := by decide +kernel
theorem dX1_growsAway_11 : decode cX1_growsAway 11 = .ok (.iconst 1, 1) := by decide +kernel
theorem dX1_growsAway_12 : decode cX1_growsAway 12 = .ok (.goto 18, 3) := by decide +kernel
theorem dX1_growsAway_15 : decode cX1_growsAway 15 = .ok (.iconst 0, 1) := by decide +kernel
theorem dX1_growsAway_16 : decode cX1_growsAway 16 = .ok (.goto 14, 3) := by decide +kernel
theorem dX1_growsAway_19 : decode cX1_growsAway 19 = .ok (.lload_n 1, 1) := by decide +kernel
theorem dX1_growsAway_20 : decode cX1_growsAway 20 = .ok (.lconst 0, 1) := by decide +kernel
theorem dX1_growsAway_21 : decode cX1_growsAway 21 = .ok (.lcmp, 1) := by decide +kernel
theorem dX1_growsAway_22 : decode cX1_growsAway 22 = .ok (.ifCond .lt 7, 3) := by decide +kernel
theorem dX1_growsAway_25 : decode cX1_growsAway 25 = .ok (.iconst 1, 1) := by decide +kernel
theorem dX1_growsAway_26 : decode cX1_growsAway 26 = .ok (.goto 4, 3) := by decide +kernel
theorem dX1_growsAway_29 : decode cX1_growsAway 29 = .ok (.iconst 0, 1) := by decide +kernel
theorem dX1_growsAway_30 : decode cX1_growsAway 30 = .ok (.ireturn, 1) := by decide +kernel
theorem dX1_isNearerAway_0 : decode cX1_isNearerAway 0 = .ok (.lload 4, 2) := by decide +kernel
theorem dX1_isNearerAway_2 : decode cX1_isNearerAway 2 = .ok (.iconst 1, 1) := by decide +kernel
theorem dX1_isNearerAway_3 : decode cX1_isNearerAway 3 = .ok (.lshr, 1) := by decide +kernel
theorem dX1_isNearerAway_4 : decode cX1_isNearerAway 4 = .ok (.lstore 6, 2) := by decide +kernel
theorem dX1_isNearerAway_6 : decode cX1_isNearerAway 6 = .ok (.lload_n 2, 1) := by decide +kernel
theorem dX1_isNearerAway_7 : decode cX1_isNearerAway 7 = .ok (.lload 6, 2) := by decide +kernel
theorem dX1_isNearerAway_9 : decode cX1_isNearerAway 9 = .ok (.lcmp, 1) := by decide +kernel
theorem dX1_isNearerAway_10 : decode cX1_isNearerAway 10 = .ok (.ifCond .gt 19, 3) := by decide +kernel
theorem dX1_isNearerAway_13 : decode cX1_isNearerAway 13 = .ok (.lload_n 2, 1) := by decide +kernel
theorem dX1_isNearerAway_14 : decode cX1_isNearerAway 14 = .ok (.lload 6, 2) := by decide +kernel
theorem dX1_isNearerAway_16 : decode cX1_isNearerAway 16 = .ok (.lcmp, 1) := by decide +kernel
theorem dX1_isNearerAway_17 : decode cX1_isNearerAway 17 = .ok (.ifCond .ne 16, 3) := by decide +kernel
theorem dX1_isNearerAway_20 : decode cX1_isNearerAway 20 = .ok (.lload_n 0, 1) := by decide +kernel
theorem dX1_isNearerAway_21 : decode cX1_isNearerAway 21 = .ok (.lload 4, 2) := by decide +kernel
theorem dX1_isNearerAway_23 : decode cX1_isNearerAway 23 = .ok (.land, 1) := by decide +kernel
theorem dX1_isNearerAway_24 : decode cX1_isNearerAway 24 = .ok (.lconst 0, 1) := by decide +kernel
theorem dX1_isNearerAway_25 : decode cX1_isNearerAway 25 = .ok (.lcmp, 1) := by decide +kernel
theorem dX1_isNearerAway_26 : decode cX1_isNearerAway 26 = .ok (.ifCond .eq 7, 3) := by decide +kernel
theorem dX1_isNearerAway_29 : decode cX1_isNearerAway 29 = .ok (.iconst 1, 1) := by decide +kernel
theorem dX1_isNearerAway_30 : decode cX1_isNearerAway 30 = .ok (.goto 4, 3) := by decide +kernel
theorem dX1_isNearerAway_33 : decode cX1_isNearerAway 33 = .ok (.iconst 0, 1) := by decide +kernel
theorem dX1_isNearerAway_34 : decode cX1_isNearerAway 34 = .ok (.ireturn, 1) := by decide +kernel
set_option maxRecDepth 20000 in
theorem ggX1_castTo_X1_isWhole : GoodIn wsX1_castTo wsX1_isWhole := goodIn_r _ [5, 6] (by decide +kernel) (by decide +kernel)
set_option maxRecDepth 20000 in
theorem gX1_castTo_X1_isWhole : GoodIn wsX1_castTo (wsV RX1 55 RX1 yX1_isWhole wsX1_isWhole) := goodIn_app (goodIn_of _ (by decide +kernel)) ggX1_castTo_X1_isWhole
set_option maxRecDepth 20000 in
theorem ggX1_castTo_X1_fitted : GoodIn wsX1_castTo wsX1_fitted := goodIn_r _ [10, 11] (by decide +kernel) (by decide +kernel)
set_option maxRecDepth 20000 in
theorem gX1_castTo_X1_fitted : GoodIn wsX1_castTo (wsV RX1 89 RX1 yX1_fitted wsX1_fitted) := goodIn_app (goodIn_of _ (by decide +kernel)) ggX1_castTo_X1_fitted
set_option maxRecDepth 20000 in
theorem ggX1_castTo_X1_roundedWhole : GoodIn wsX1_castTo wsX1_roundedWhole := goodIn_r _ [15, 16, 17, 18, 4, 19, 20, 6, 21, 22, 23, 24, 25, 26, 27, 28, 29, 30, 31, 32, 33, 34, 35, 36, 37, 38, 39, 40, 41, 42] (by decide +kernel) (by decide +kernel)
set_option maxRecDepth 20000 in
theorem gX1_castTo_X1_roundedWhole : GoodIn wsX1_castTo (wsV RX1 105 RX1 yX1_roundedWhole wsX1_roundedWhole) := goodIn_app (goodIn_of _ (by decide +kernel)) ggX1_castTo_X1_roundedWhole
set_option maxRecDepth 20000 in
theorem ggX1_castTo_X1_cutTo : GoodIn wsX1_castTo wsX1_cutTo := goodIn_r _ [46, 41, 6, 20, 11, 42] (by decide +kernel) (by decide +kernel)
set_option maxRecDepth 20000 in
theorem gX1_castTo_X1_cutTo : GoodIn wsX1_castTo (wsV RX1 108 RX1 yX1_cutTo wsX1_cutTo) := goodIn_app (goodIn_of _ (by decide +kernel)) ggX1_castTo_X1_cutTo
set_option maxRecDepth 20000 in
theorem ggX1_castTo_X1_refit : GoodIn wsX1_castTo wsX1_refit := goodIn_r _ [50, 41, 6, 21, 22, 23, 24, 20, 37, 38, 39, 4, 40, 42, 32, 33, 34, 35, 36, 16, 17, 18, 19, 25, 26, 27, 28, 29, 30, 31] (by decide +kernel) (by decide +kernel)
set_option maxRecDepth 20000 in
theorem gX1_castTo_X1_refit : GoodIn wsX1_castTo (wsV RX1 112 RX1 yX1_refit wsX1_refit) := goodIn_app (goodIn_of _ (by decide +kernel)) ggX1_castTo_X1_refit
theorem dX1_castTo_0 : decode cX1_castTo 0 = .ok (.aload_n 0, 1) := by decide +kernel
theorem dX1_castTo_1 : decode cX1_castTo 1 = .ok (.invokevirtual 55, 3) := by decide +kernel
theorem dX1_castTo_4 : decode cX1_castTo 4 = .ok (.ifCond .eq 24, 3) := by decide +kernel
theorem dX1_castTo_7 : decode cX1_castTo 7 = .ok (.aload_n 1, 1) := by decide +kernel
theorem dX1_castTo_8 : decode cX1_castTo 8 = .ok (.invokevirtual 55, 3) := by decide +kernel
theorem dX1_castTo_11 : decode cX1_castTo 11 = .ok (.ifCond .eq 11, 3) := by decide +kernel
theorem dX1_castTo_14 : decode cX1_castTo 14 = .ok (.aload_n 1, 1) := by decide +kernel
theorem dX1_castTo_15 : decode cX1_castTo 15 = .ok (.lload_n 2, 1) := by decide +kernel
theorem dX1_castTo_16 : decode cX1_castTo 16 = .ok (.invokevirtual 89, 3) := by decide +kernel
theorem dX1_castTo_19 : decode cX1_castTo 19 = .ok (.goto 8, 3) := by decide +kernel
theorem dX1_castTo_22 : decode cX1_castTo 22 = .ok (.aload_n 1, 1) := by decide +kernel
theorem dX1_castTo_23 : decode cX1_castTo 23 = .ok (.lload_n 2, 1) := by decide +kernel
theorem dX1_castTo_24 : decode cX1_castTo 24 = .ok (.invokevirtual 105, 3) := by decide +kernel
theorem dX1_castTo_27 : decode cX1_castTo 27 = .ok (.lreturn, 1) := by decide +kernel
theorem dX1_castTo_28 : decode cX1_castTo 28 = .ok (.aload_n 1, 1) := by decide +kernel
theorem dX1_castTo_29 : decode cX1_castTo 29 = .ok (.invokevirtual 55, 3) := by decide +kernel
theorem dX1_castTo_32 : decode cX1_castTo 32 = .ok (.ifCond .eq 12, 3) := by decide +kernel
theorem dX1_castTo_35 : decode cX1_castTo 35 = .ok (.aload_n 0, 1) := by decide +kernel
theorem dX1_castTo_36 : decode cX1_castTo 36 = .ok (.aload_n 1, 1) := by decide +kernel
theorem dX1_castTo_37 : decode cX1_castTo 37 = .ok (.lload_n 2, 1) := by decide +kernel
theorem dX1_castTo_38 : decode cX1_castTo 38 = .ok (.invokevirtual 108, 3) := by decide +kernel
theorem dX1_castTo_41 : decode cX1_castTo 41 = .ok (.goto 9, 3) := by decide +kernel
theorem dX1_castTo_44 : decode cX1_castTo 44 = .ok (.aload_n 0, 1) := by decide +kernel
theorem dX1_castTo_45 : decode cX1_castTo 45 = .ok (.aload_n 1, 1) := by decide +kernel
theorem dX1_castTo_46 : decode cX1_castTo 46 = .ok (.lload_n 2, 1) := by decide +kernel
theorem dX1_castTo_47 : decode cX1_castTo 47 = .ok (.invokevirtual 112, 3) := by decide +kernel
theorem dX1_castTo_50 : decode cX1_castTo 50 = .ok (.lreturn, 1) := by decide +kernel
set_option maxRecDepth 20000 in
theorem ggX1_roundedWhole_X1_rounded : GoodIn wsX1_roundedWhole wsX1_rounded := goodIn_r _ [5, 6, 7, 8, 9, 10, 11, 12, 13, 14, 15, 16, 17, 4, 18, 19, 20, 21, 22, 23] (by decide +kernel) (by decide +kernel)
set_option maxRecDepth 20000 in
theorem gX1_roundedWhole_X1_rounded : GoodIn wsX1_roundedWhole (wsV RX1 115 RX1 yX1_rounded wsX1_rounded) := goodIn_app (goodIn_of _ (by decide +kernel)) ggX1_roundedWhole_X1_rounded
set_option maxRecDepth 20000 in
theorem ggX1_roundedWhole_X1_withSignOf : GoodIn wsX1_roundedWhole wsX1_withSignOf := goodIn_r _ [27, 28, 29] (by decide +kernel) (by decide +kernel)
set_option maxRecDepth 20000 in
theorem gX1_roundedWhole_X1_withSignOf : GoodIn wsX1_roundedWhole (wsV RX1 78 RX1 yX1_withSignOf wsX1_withSignOf) := goodIn_app (goodIn_of _ (by decide +kernel)) ggX1_roundedWhole_X1_withSignOf
theorem dX1_roundedWhole_0 : decode cX1_roundedWhole 0 = .ok (.lload_n 1, 1) := by decide +kernel
theorem dX1_roundedWhole_1 : decode cX1_roundedWhole 1 = .ok (.lconst 0, 1) := by decide +kernel
theorem dX1_roundedWhole_2 : decode cX1_roundedWhole 2 = .ok (.lcmp, 1) := by decide +kernel
theorem dX1_roundedWhole_3 : decode cX1_roundedWhole 3 = .ok (.ifCond .ne 7, 3) := by decide +kernel
theorem dX1_roundedWhole_6 : decode cX1_roundedWhole 6 = .ok (.lconst 0, 1) := by decide +kernel
theorem dX1_roundedWhole_7 : decode cX1_roundedWhole 7 = .ok (.goto 25, 3) := by decide +kernel
theorem dX1_roundedWhole_10 : decode cX1_roundedWhole 10 = .ok (.aload_n 0, 1) := by decide +kernel
theorem dX1_roundedWhole_11 : decode cX1_roundedWhole 11 = .ok (.lload_n 1, 1) := by decide +kernel
theorem dX1_roundedWhole_12 : decode cX1_roundedWhole 12 = .ok (.aload_n 0, 1) := by decide +kernel
theorem dX1_roundedWhole_13 : decode cX1_roundedWhole 13 = .ok (.lload_n 1, 1) := by decide +kernel
theorem dX1_roundedWhole_14 : decode cX1_roundedWhole 14 = .ok (.lconst 0, 1) := by decide +kernel
theorem dX1_roundedWhole_15 : decode cX1_roundedWhole 15 = .ok (.lcmp, 1) := by decide +kernel
theorem dX1_roundedWhole_16 : decode cX1_roundedWhole 16 = .ok (.ifCond .ge 8, 3) := by decide +kernel
theorem dX1_roundedWhole_19 : decode cX1_roundedWhole 19 = .ok (.lload_n 1, 1) := by decide +kernel
theorem dX1_roundedWhole_20 : decode cX1_roundedWhole 20 = .ok (.lneg, 1) := by decide +kernel
theorem dX1_roundedWhole_21 : decode cX1_roundedWhole 21 = .ok (.goto 4, 3) := by decide +kernel
theorem dX1_roundedWhole_24 : decode cX1_roundedWhole 24 = .ok (.lload_n 1, 1) := by decide +kernel
theorem dX1_roundedWhole_25 : decode cX1_roundedWhole 25 = .ok (.iconst 0, 1) := by decide +kernel
theorem dX1_roundedWhole_26 : decode cX1_roundedWhole 26 = .ok (.invokevirtual 115, 3) := by decide +kernel
theorem dX1_roundedWhole_29 : decode cX1_roundedWhole 29 = .ok (.invokevirtual 78, 3) := by decide +kernel
theorem dX1_roundedWhole_32 : decode cX1_roundedWhole 32 = .ok (.lreturn, 1) := by decide +kernel
theorem dX1_cutTo_0 : decode cX1_cutTo 0 = .ok (.lload_n 2, 1) := by decide +kernel
theorem dX1_cutTo_1 : decode cX1_cutTo 1 = .ok (.aload_n 0, 1) := by decide +kernel
theorem dX1_cutTo_2 : decode cX1_cutTo 2 = .ok (.getfield 47, 3) := by decide +kernel
theorem dX1_cutTo_5 : decode cX1_cutTo 5 = .ok (.land, 1) := by decide +kernel
theorem dX1_cutTo_6 : decode cX1_cutTo 6 = .ok (.lstore 4, 2) := by decide +kernel
theorem dX1_cutTo_8 : decode cX1_cutTo 8 = .ok (.lload 4, 2) := by decide +kernel
theorem dX1_cutTo_10 : decode cX1_cutTo 10 = .ok (.aload_n 0, 1) := by decide +kernel
theorem dX1_cutTo_11 : decode cX1_cutTo 11 = .ok (.getfield 41, 3) := by decide +kernel
theorem dX1_cutTo_14 : decode cX1_cutTo 14 = .ok (.lshr, 1) := by decide +kernel
theorem dX1_cutTo_15 : decode cX1_cutTo 15 = .ok (.l2i, 1) := by decide +kernel
theorem dX1_cutTo_16 : decode cX1_cutTo 16 = .ok (.aload_n 0, 1) := by decide +kernel
theorem dX1_cutTo_17 : decode cX1_cutTo 17 = .ok (.getfield 44, 3) := by decide +kernel
theorem dX1_cutTo_20 : decode cX1_cutTo 20 = .ok (.isub, 1) := by decide +kernel
theorem dX1_cutTo_21 : decode cX1_cutTo 21 = .ok (.istore 6, 2) := by decide +kernel
theorem dX1_cutTo_23 : decode cX1_cutTo 23 = .ok (.iload 6, 2) := by decide +kernel
theorem dX1_cutTo_25 : decode cX1_cutTo 25 = .ok (.ifCond .ge 5, 3) := by decide +kernel
theorem dX1_cutTo_28 : decode cX1_cutTo 28 = .ok (.lconst 0, 1) := by decide +kernel
theorem dX1_cutTo_29 : decode cX1_cutTo 29 = .ok (.lreturn, 1) := by decide +kernel
theorem dX1_cutTo_30 : decode cX1_cutTo 30 = .ok (.iload 6, 2) := by decide +kernel
theorem dX1_cutTo_32 : decode cX1_cutTo 32 = .ok (.aload_n 1, 1) := by decide +kernel
theorem dX1_cutTo_33 : decode cX1_cutTo 33 = .ok (.getfield 37, 3) := by decide +kernel
theorem dX1_cutTo_36 : decode cX1_cutTo 36 = .ok (.iconst 1, 1) := by decide +kernel
theorem dX1_cutTo_37 : decode cX1_cutTo 37 = .ok (.isub, 1) := by decide +kernel
theorem dX1_cutTo_38 : decode cX1_cutTo 38 = .ok (.if_icmp .lt 25, 3) := by decide +kernel
theorem dX1_cutTo_41 : decode cX1_cutTo 41 = .ok (.lload_n 2, 1) := by decide +kernel
theorem dX1_cutTo_42 : decode cX1_cutTo 42 = .ok (.lconst 0, 1) := by decide +kernel
theorem dX1_cutTo_43 : decode cX1_cutTo 43 = .ok (.lcmp, 1) := by decide +kernel
theorem dX1_cutTo_44 : decode cX1_cutTo 44 = .ok (.ifCond .ge 14, 3) := by decide +kernel
theorem dX1_cutTo_47 : decode cX1_cutTo 47 = .ok (.aload_n 1, 1) := by decide +kernel
theorem dX1_cutTo_48 : decode cX1_cutTo 48 = .ok (.getfield 47, 3) := by decide +kernel
theorem dX1_cutTo_51 : decode cX1_cutTo 51 = .ok (.ldc2_w 92, 3) := by decide +kernel
theorem dX1_cutTo_54 : decode cX1_cutTo 54 = .ok (.lxor, 1) := by decide +kernel
theorem dX1_cutTo_55 : decode cX1_cutTo 55 = .ok (.goto 7, 3) := by decide +kernel
theorem dX1_cutTo_58 : decode cX1_cutTo 58 = .ok (.aload_n 1, 1) := by decide +kernel
theorem dX1_cutTo_59 : decode cX1_cutTo 59 = .ok (.getfield 47, 3) := by decide +kernel
theorem dX1_cutTo_62 : decode cX1_cutTo 62 = .ok (.lreturn, 1) := by decide +kernel
theorem dX1_cutTo_63 : decode cX1_cutTo 63 = .ok (.lconst 1, 1) := by decide +kernel
theorem dX1_cutTo_64 : decode cX1_cutTo 64 = .ok (.aload_n 0, 1) := by decide +kernel
theorem dX1_cutTo_65 : decode cX1_cutTo 65 = .ok (.getfield 41, 3) := by decide +kernel
theorem dX1_cutTo_68 : decode cX1_cutTo 68 = .ok (.lshl, 1) := by decide +kernel
theorem dX1_cutTo_69 : decode cX1_cutTo 69 = .ok (.lstore 7, 2) := by decide +kernel
theorem dX1_cutTo_71 : decode cX1_cutTo 71 = .ok (.lload 4, 2) := by decide +kernel
theorem dX1_cutTo_73 : decode cX1_cutTo 73 = .ok (.lload 7, 2) := by decide +kernel
theorem dX1_cutTo_75 : decode cX1_cutTo 75 = .ok (.lconst 1, 1) := by decide +kernel
theorem dX1_cutTo_76 : decode cX1_cutTo 76 = .ok (.lsub, 1) := by decide +kernel
theorem dX1_cutTo_77 : decode cX1_cutTo 77 = .ok (.land, 1) := by decide +kernel
theorem dX1_cutTo_78 : decode cX1_cutTo 78 = .ok (.lload 7, 2) := by decide +kernel
theorem dX1_cutTo_80 : decode cX1_cutTo 80 = .ok (.lor, 1) := by decide +kernel
theorem dX1_cutTo_81 : decode cX1_cutTo 81 = .ok (.lstore 9, 2) := by decide +kernel
theorem dX1_cutTo_83 : decode cX1_cutTo 83 = .ok (.iload 6, 2) := by decide +kernel
theorem dX1_cutTo_85 : decode cX1_cutTo 85 = .ok (.aload_n 0, 1) := by decide +kernel
theorem dX1_cutTo_86 : decode cX1_cutTo 86 = .ok (.getfield 41, 3) := by decide +kernel
theorem dX1_cutTo_89 : decode cX1_cutTo 89 = .ok (.isub, 1) := by decide +kernel
theorem dX1_cutTo_90 : decode cX1_cutTo 90 = .ok (.istore 11, 2) := by decide +kernel
theorem dX1_cutTo_92 : decode cX1_cutTo 92 = .ok (.iload 11, 2) := by decide +kernel
theorem dX1_cutTo_94 : decode cX1_cutTo 94 = .ok (.ifCond .lt 11, 3) := by decide +kernel
theorem dX1_cutTo_97 : decode cX1_cutTo 97 = .ok (.lload 9, 2) := by decide +kernel
theorem dX1_cutTo_99 : decode cX1_cutTo 99 = .ok (.iload 11, 2) := by decide +kernel
theorem dX1_cutTo_101 : decode cX1_cutTo 101 = .ok (.lshl, 1) := by decide +kernel
theorem dX1_cutTo_102 : decode cX1_cutTo 102 = .ok (.goto 9, 3) := by decide +kernel
theorem dX1_cutTo_105 : decode cX1_cutTo 105 = .ok (.lload 9, 2) := by decide +kernel
theorem dX1_cutTo_107 : decode cX1_cutTo 107 = .ok (.iload 11, 2) := by decide +kernel
theorem dX1_cutTo_109 : decode cX1_cutTo 109 = .ok (.ineg, 1) := by decide +kernel
theorem dX1_cutTo_110 : decode cX1_cutTo 110 = .ok (.lshr, 1) := by decide +kernel
theorem dX1_cutTo_111 : decode cX1_cutTo 111 = .ok (.lstore 12, 2) := by decide +kernel
theorem dX1_cutTo_113 : decode cX1_cutTo 113 = .ok (.lload_n 2, 1) := by decide +kernel
theorem dX1_cutTo_114 : decode cX1_cutTo 114 = .ok (.lconst 0, 1) := by decide +kernel
theorem dX1_cutTo_115 : decode cX1_cutTo 115 = .ok (.lcmp, 1) := by decide +kernel
theorem dX1_cutTo_116 : decode cX1_cutTo 116 = .ok (.ifCond .ge 9, 3) := by decide +kernel
theorem dX1_cutTo_119 : decode cX1_cutTo 119 = .ok (.lload 12, 2) := by decide +kernel
theorem dX1_cutTo_121 : decode cX1_cutTo 121 = .ok (.lneg, 1) := by decide +kernel
theorem dX1_cutTo_122 : decode cX1_cutTo 122 = .ok (.goto 5, 3) := by decide +kernel
theorem dX1_cutTo_125 : decode cX1_cutTo 125 = .ok (.lload 12, 2) := by decide +kernel
theorem dX1_cutTo_127 : decode cX1_cutTo 127 = .ok (.lreturn, 1) := by decide +kernel
set_option maxRecDepth 20000 in
theorem ggX1_refit_X1_withSignOf : GoodIn wsX1_refit wsX1_withSignOf := goodIn_r _ [12, 1, 13] (by decide +kernel) (by decide +kernel)
set_option maxRecDepth 20000 in
theorem gX1_refit_X1_withSignOf : GoodIn wsX1_refit (wsV RX1 78 RX1 yX1_withSignOf wsX1_withSignOf) := goodIn_app (goodIn_of _ (by decide +kernel)) ggX1_refit_X1_withSignOf
set_option maxRecDepth 20000 in
theorem ggX1_refit_X1_infinite : GoodIn wsX1_refit wsX1_infinite := goodIn_r _ [17, 18, 7, 2] (by decide +kernel) (by decide +kernel)
set_option maxRecDepth 20000 in
theorem gX1_refit_X1_infinite : GoodIn wsX1_refit (wsV RX1 59 RX1 yX1_infinite wsX1_infinite) := goodIn_app (goodIn_of _ (by decide +kernel)) ggX1_refit_X1_infinite
set_option maxRecDepth 20000 in
theorem ggX1_refit_X1_rounded : GoodIn wsX1_refit wsX1_rounded := goodIn_r _ [22, 7, 2, 3, 4, 5, 6, 23, 24, 25, 26, 27, 28, 11, 29, 14, 15, 16, 17, 18] (by decide +kernel) (by decide +kernel)
set_option maxRecDepth 20000 in
theorem gX1_refit_X1_rounded : GoodIn wsX1_refit (wsV RX1 115 RX1 yX1_rounded wsX1_rounded) := goodIn_app (goodIn_of _ (by decide +kernel)) ggX1_refit_X1_rounded
theorem dX1_refit_0 : decode cX1_refit 0 = .ok (.lload_n 2, 1) := by decide +kernel
theorem dX1_refit_1 : decode cX1_refit 1 = .ok (.aload_n 0, 1) := by decide +kernel
theorem dX1_refit_2 : decode cX1_refit 2 = .ok (.getfield 47, 3) := by decide +kernel
theorem dX1_refit_5 : decode cX1_refit 5 = .ok (.land, 1) := by decide +kernel
theorem dX1_refit_6 : decode cX1_refit 6 = .ok (.lstore 4, 2) := by decide +kernel
theorem dX1_refit_8 : decode cX1_refit 8 = .ok (.lload 4, 2) := by decide +kernel
theorem dX1_refit_10 : decode cX1_refit 10 = .ok (.lconst 0, 1) := by decide +kernel
theorem dX1_refit_11 : decode cX1_refit 11 = .ok (.lcmp, 1) := by decide +kernel
theorem dX1_refit_12 : decode cX1_refit 12 = .ok (.ifCond .ne 10, 3) := by decide +kernel
theorem dX1_refit_15 : decode cX1_refit 15 = .ok (.aload_n 1, 1) := by decide +kernel
theorem dX1_refit_16 : decode cX1_refit 16 = .ok (.lload_n 2, 1) := by decide +kernel
theorem dX1_refit_17 : decode cX1_refit 17 = .ok (.lconst 0, 1) := by decide +kernel
theorem dX1_refit_18 : decode cX1_refit 18 = .ok (.invokevirtual 78, 3) := by decide +kernel
theorem dX1_refit_21 : decode cX1_refit 21 = .ok (.lreturn, 1) := by decide +kernel
theorem dX1_refit_22 : decode cX1_refit 22 = .ok (.lload 4, 2) := by decide +kernel
theorem dX1_refit_24 : decode cX1_refit 24 = .ok (.aload_n 0, 1) := by decide +kernel
theorem dX1_refit_25 : decode cX1_refit 25 = .ok (.invokevirtual 59, 3) := by decide +kernel
theorem dX1_refit_28 : decode cX1_refit 28 = .ok (.lcmp, 1) := by decide +kernel
theorem dX1_refit_29 : decode cX1_refit 29 = .ok (.ifCond .ne 13, 3) := by decide +kernel
theorem dX1_refit_32 : decode cX1_refit 32 = .ok (.aload_n 1, 1) := by decide +kernel
theorem dX1_refit_33 : decode cX1_refit 33 = .ok (.lload_n 2, 1) := by decide +kernel
theorem dX1_refit_34 : decode cX1_refit 34 = .ok (.aload_n 1, 1) := by decide +kernel
