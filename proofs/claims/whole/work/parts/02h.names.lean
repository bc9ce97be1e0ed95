theorem dX4_order_81 : decode cX4_order 81 = .ok (.iconst 0, 1) := by decide +kernel
theorem dX4_order_82 : decode cX4_order 82 = .ok (.ireturn, 1) := by decide +kernel
theorem dX4_order_83 : decode cX4_order 83 = .ok (.lload 7, 2) := by decide +kernel
theorem dX4_order_85 : decode cX4_order 85 = .ok (.lload 9, 2) := by decide +kernel
theorem dX4_order_87 : decode cX4_order 87 = .ok (.lcmp, 1) := by decide +kernel
theorem dX4_order_88 : decode cX4_order 88 = .ok (.ifCond .ge 7, 3) := by decide +kernel
theorem dX4_order_91 : decode cX4_order 91 = .ok (.iconst 1, 1) := by decide +kernel
theorem dX4_order_92 : decode cX4_order 92 = .ok (.goto 4, 3) := by decide +kernel
theorem dX4_order_95 : decode cX4_order 95 = .ok (.iconst 0, 1) := by decide +kernel
theorem dX4_order_96 : decode cX4_order 96 = .ok (.iload 5, 2) := by decide +kernel
theorem dX4_order_98 : decode cX4_order 98 = .ok (.ifCond .ne 7, 3) := by decide +kernel
theorem dX4_order_101 : decode cX4_order 101 = .ok (.iconst 1, 1) := by decide +kernel
theorem dX4_order_102 : decode cX4_order 102 = .ok (.goto 4, 3) := by decide +kernel
theorem dX4_order_105 : decode cX4_order 105 = .ok (.iconst 0, 1) := by decide +kernel
theorem dX4_order_106 : decode cX4_order 106 = .ok (.if_icmp .ne 7, 3) := by decide +kernel
theorem dX4_order_109 : decode cX4_order 109 = .ok (.iconst (-1), 1) := by decide +kernel
theorem dX4_order_110 : decode cX4_order 110 = .ok (.goto 4, 3) := by decide +kernel
theorem dX4_order_113 : decode cX4_order 113 = .ok (.iconst 1, 1) := by decide +kernel
theorem dX4_order_114 : decode cX4_order 114 = .ok (.ireturn, 1) := by decide +kernel
set_option maxRecDepth 20000 in
theorem ggX4_negative_X4_bare : GoodIn wsX4_negative wsX4_bare := goodIn_r _ [4, 5] (by decide +kernel) (by decide +kernel)
set_option maxRecDepth 20000 in
theorem gX4_negative_X4_bare : GoodIn wsX4_negative (va_wsS RX4 77 yX4_bare wsX4_bare) := goodIn_app (goodIn_of _ (by decide +kernel)) ggX4_negative_X4_bare
set_option maxRecDepth 20000 in
theorem ggX4_negative_X4_signBit : GoodIn wsX4_negative wsX4_signBit := goodIn_r _ [8, 9, 10] (by decide +kernel) (by decide +kernel)
set_option maxRecDepth 20000 in
theorem gX4_negative_X4_signBit : GoodIn wsX4_negative (va_wsS RX4 81 yX4_signBit wsX4_signBit) := goodIn_app (goodIn_of _ (by decide +kernel)) ggX4_negative_X4_signBit
set_option maxRecDepth 20000 in
theorem ggX4_negative_X4_asCode : GoodIn wsX4_negative wsX4_asCode := goodIn_r _ [13] (by decide +kernel) (by decide +kernel)
set_option maxRecDepth 20000 in
theorem gX4_negative_X4_asCode : GoodIn wsX4_negative (va_wsS RX4 97 yX4_asCode wsX4_asCode) := goodIn_app (goodIn_of _ (by decide +kernel)) ggX4_negative_X4_asCode
theorem dX4_negative_0 : decode cX4_negative 0 = .ok (.iload_n 0, 1) := by decide +kernel
theorem dX4_negative_1 : decode cX4_negative 1 = .ok (.ifCond .ne 8, 3) := by decide +kernel
theorem dX4_negative_4 : decode cX4_negative 4 = .ok (.lload_n 1, 1) := by decide +kernel
theorem dX4_negative_5 : decode cX4_negative 5 = .ok (.l2i, 1) := by decide +kernel
theorem dX4_negative_6 : decode cX4_negative 6 = .ok (.ineg, 1) := by decide +kernel
theorem dX4_negative_7 : decode cX4_negative 7 = .ok (.i2l, 1) := by decide +kernel
theorem dX4_negative_8 : decode cX4_negative 8 = .ok (.lreturn, 1) := by decide +kernel
theorem dX4_negative_9 : decode cX4_negative 9 = .ok (.iload_n 0, 1) := by decide +kernel
theorem dX4_negative_10 : decode cX4_negative 10 = .ok (.iconst 1, 1) := by decide +kernel
theorem dX4_negative_11 : decode cX4_negative 11 = .ok (.if_icmp .ne 8, 3) := by decide +kernel
theorem dX4_negative_14 : decode cX4_negative 14 = .ok (.lload_n 1, 1) := by decide +kernel
theorem dX4_negative_15 : decode cX4_negative 15 = .ok (.lneg, 1) := by decide +kernel
theorem dX4_negative_16 : decode cX4_negative 16 = .ok (.goto 17, 3) := by decide +kernel
theorem dX4_negative_19 : decode cX4_negative 19 = .ok (.iload_n 0, 1) := by decide +kernel
theorem dX4_negative_20 : decode cX4_negative 20 = .ok (.iload_n 0, 1) := by decide +kernel
theorem dX4_negative_21 : decode cX4_negative 21 = .ok (.lload_n 1, 1) := by decide +kernel
theorem dX4_negative_22 : decode cX4_negative 22 = .ok (.invokestatic 77, 3) := by decide +kernel
theorem dX4_negative_25 : decode cX4_negative 25 = .ok (.iload_n 0, 1) := by decide +kernel
theorem dX4_negative_26 : decode cX4_negative 26 = .ok (.invokestatic 81, 3) := by decide +kernel
theorem dX4_negative_29 : decode cX4_negative 29 = .ok (.lxor, 1) := by decide +kernel
theorem dX4_negative_30 : decode cX4_negative 30 = .ok (.invokestatic 97, 3) := by decide +kernel
theorem dX4_negative_33 : decode cX4_negative 33 = .ok (.lreturn, 1) := by decide +kernel
set_option maxRecDepth 20000 in
theorem ggX4_upright_X4_negative : GoodIn wsX4_upright wsX4_negative := goodIn_r _ [4, 5, 6, 3, 7, 8, 9, 10, 11, 12, 13, 14, 15, 16] (by decide +kernel) (by decide +kernel)
set_option maxRecDepth 20000 in
theorem gX4_upright_X4_negative : GoodIn wsX4_upright (va_wsS RX4 100 yX4_negative wsX4_negative) := goodIn_app (goodIn_of _ (by decide +kernel)) ggX4_upright_X4_negative
set_option maxRecDepth 20000 in
theorem ggX4_upright_X4_size : GoodIn wsX4_upright wsX4_size := goodIn_r _ [19, 20, 5, 6, 3, 7, 8, 9, 10, 11, 12, 13] (by decide +kernel) (by decide +kernel)
set_option maxRecDepth 20000 in
theorem gX4_upright_X4_size : GoodIn wsX4_upright (va_wsS RX4 87 yX4_size wsX4_size) := goodIn_app (goodIn_of _ (by decide +kernel)) ggX4_upright_X4_size
set_option maxRecDepth 20000 in
theorem ggX4_upright_X4_asCode : GoodIn wsX4_upright wsX4_asCode := goodIn_r _ [16] (by decide +kernel) (by decide +kernel)
set_option maxRecDepth 20000 in
theorem gX4_upright_X4_asCode : GoodIn wsX4_upright (va_wsS RX4 97 yX4_asCode wsX4_asCode) := goodIn_app (goodIn_of _ (by decide +kernel)) ggX4_upright_X4_asCode
theorem dX4_upright_0 : decode cX4_upright 0 = .ok (.iload_n 0, 1) := by decide +kernel
theorem dX4_upright_1 : decode cX4_upright 1 = .ok (.iconst 2, 1) := by decide +kernel
theorem dX4_upright_2 : decode cX4_upright 2 = .ok (.if_icmp .ge 19, 3) := by decide +kernel
theorem dX4_upright_5 : decode cX4_upright 5 = .ok (.lload_n 1, 1) := by decide +kernel
theorem dX4_upright_6 : decode cX4_upright 6 = .ok (.lconst 0, 1) := by decide +kernel
theorem dX4_upright_7 : decode cX4_upright 7 = .ok (.lcmp, 1) := by decide +kernel
theorem dX4_upright_8 : decode cX4_upright 8 = .ok (.ifCond .ge 11, 3) := by decide +kernel
theorem dX4_upright_11 : decode cX4_upright 11 = .ok (.iload_n 0, 1) := by decide +kernel
theorem dX4_upright_12 : decode cX4_upright 12 = .ok (.lload_n 1, 1) := by decide +kernel
theorem dX4_upright_13 : decode cX4_upright 13 = .ok (.invokestatic 100, 3) := by decide +kernel
theorem dX4_upright_16 : decode cX4_upright 16 = .ok (.goto 4, 3) := by decide +kernel
theorem dX4_upright_19 : decode cX4_upright 19 = .ok (.lload_n 1, 1) := by decide +kernel
theorem dX4_upright_20 : decode cX4_upright 20 = .ok (.lreturn, 1) := by decide +kernel
theorem dX4_upright_21 : decode cX4_upright 21 = .ok (.iload_n 0, 1) := by decide +kernel
theorem dX4_upright_22 : decode cX4_upright 22 = .ok (.iload_n 0, 1) := by decide +kernel
theorem dX4_upright_23 : decode cX4_upright 23 = .ok (.lload_n 1, 1) := by decide +kernel
theorem dX4_upright_24 : decode cX4_upright 24 = .ok (.invokestatic 87, 3) := by decide +kernel
theorem dX4_upright_27 : decode cX4_upright 27 = .ok (.invokestatic 97, 3) := by decide +kernel
theorem dX4_upright_30 : decode cX4_upright 30 = .ok (.lreturn, 1) := by decide +kernel
set_option maxRecDepth 20000 in
theorem ggX4_whole_X4_size : GoodIn wsX4_whole wsX4_size := goodIn_r _ [7, 8, 9, 10, 6, 11, 12, 13, 14, 15, 16, 17] (by decide +kernel) (by decide +kernel)
set_option maxRecDepth 20000 in
theorem gX4_whole_X4_size : GoodIn wsX4_whole (va_wsS RX4 87 yX4_size wsX4_size) := goodIn_app (goodIn_of _ (by decide +kernel)) ggX4_whole_X4_size
set_option maxRecDepth 20000 in
theorem ggX4_whole_X4_fractionBits : GoodIn wsX4_whole wsX4_fractionBits := goodIn_r _ [20] (by decide +kernel) (by decide +kernel)
set_option maxRecDepth 20000 in
theorem gX4_whole_X4_fractionBits : GoodIn wsX4_whole (va_wsS RX4 103 yX4_fractionBits wsX4_fractionBits) := goodIn_app (goodIn_of _ (by decide +kernel)) ggX4_whole_X4_fractionBits
set_option maxRecDepth 20000 in
theorem ggX4_whole_X4_below : GoodIn wsX4_whole wsX4_below := goodIn_r _ [23, 13, 14, 6, 15, 16, 17] (by decide +kernel) (by decide +kernel)
set_option maxRecDepth 20000 in
theorem gX4_whole_X4_below : GoodIn wsX4_whole (va_wsS RX4 93 yX4_below wsX4_below) := goodIn_app (goodIn_of _ (by decide +kernel)) ggX4_whole_X4_below
set_option maxRecDepth 20000 in
theorem ggX4_whole_X4_signBit : GoodIn wsX4_whole wsX4_signBit := goodIn_r _ [15, 16, 17] (by decide +kernel) (by decide +kernel)
set_option maxRecDepth 20000 in
theorem gX4_whole_X4_signBit : GoodIn wsX4_whole (va_wsS RX4 81 yX4_signBit wsX4_signBit) := goodIn_app (goodIn_of _ (by decide +kernel)) ggX4_whole_X4_signBit
set_option maxRecDepth 20000 in
theorem ggX4_whole_X4_asCode : GoodIn wsX4_whole wsX4_asCode := goodIn_r _ [26] (by decide +kernel) (by decide +kernel)
set_option maxRecDepth 20000 in
theorem gX4_whole_X4_asCode : GoodIn wsX4_whole (va_wsS RX4 97 yX4_asCode wsX4_asCode) := goodIn_app (goodIn_of _ (by decide +kernel)) ggX4_whole_X4_asCode
theorem dX4_whole_0 : decode cX4_whole 0 = .ok (.iload_n 0, 1) := by decide +kernel
theorem dX4_whole_1 : decode cX4_whole 1 = .ok (.lload_n 1, 1) := by decide +kernel
theorem dX4_whole_2 : decode cX4_whole 2 = .ok (.invokestatic 87, 3) := by decide +kernel
theorem dX4_whole_5 : decode cX4_whole 5 = .ok (.lstore 4, 2) := by decide +kernel
theorem dX4_whole_7 : decode cX4_whole 7 = .ok (.iload_n 0, 1) := by decide +kernel
theorem dX4_whole_8 : decode cX4_whole 8 = .ok (.invokestatic 103, 3) := by decide +kernel
theorem dX4_whole_11 : decode cX4_whole 11 = .ok (.istore 6, 2) := by decide +kernel
theorem dX4_whole_13 : decode cX4_whole 13 = .ok (.lload 4, 2) := by decide +kernel
theorem dX4_whole_15 : decode cX4_whole 15 = .ok (.iload 6, 2) := by decide +kernel
theorem dX4_whole_17 : decode cX4_whole 17 = .ok (.lshr, 1) := by decide +kernel
theorem dX4_whole_18 : decode cX4_whole 18 = .ok (.l2i, 1) := by decide +kernel
theorem dX4_whole_19 : decode cX4_whole 19 = .ok (.iload_n 0, 1) := by decide +kernel
theorem dX4_whole_20 : decode cX4_whole 20 = .ok (.iconst 2, 1) := by decide +kernel
theorem dX4_whole_21 : decode cX4_whole 21 = .ok (.if_icmp .ne 8, 3) := by decide +kernel
theorem dX4_whole_24 : decode cX4_whole 24 = .ok (.bipush 127, 2) := by decide +kernel
theorem dX4_whole_26 : decode cX4_whole 26 = .ok (.goto 6, 3) := by decide +kernel
theorem dX4_whole_29 : decode cX4_whole 29 = .ok (.sipush 1023, 3) := by decide +kernel
theorem dX4_whole_32 : decode cX4_whole 32 = .ok (.isub, 1) := by decide +kernel
theorem dX4_whole_33 : decode cX4_whole 33 = .ok (.istore 7, 2) := by decide +kernel
theorem dX4_whole_35 : decode cX4_whole 35 = .ok (.lload 4, 2) := by decide +kernel
theorem dX4_whole_37 : decode cX4_whole 37 = .ok (.lconst 0, 1) := by decide +kernel
theorem dX4_whole_38 : decode cX4_whole 38 = .ok (.lcmp, 1) := by decide +kernel
theorem dX4_whole_39 : decode cX4_whole 39 = .ok (.ifCond .eq 10, 3) := by decide +kernel
theorem dX4_whole_42 : decode cX4_whole 42 = .ok (.iload 7, 2) := by decide +kernel
theorem dX4_whole_44 : decode cX4_whole 44 = .ok (.iload 6, 2) := by decide +kernel
theorem dX4_whole_46 : decode cX4_whole 46 = .ok (.if_icmp .lt 5, 3) := by decide +kernel
theorem dX4_whole_49 : decode cX4_whole 49 = .ok (.lload_n 1, 1) := by decide +kernel
theorem dX4_whole_50 : decode cX4_whole 50 = .ok (.lreturn, 1) := by decide +kernel
theorem dX4_whole_51 : decode cX4_whole 51 = .ok (.iload_n 0, 1) := by decide +kernel
theorem dX4_whole_52 : decode cX4_whole 52 = .ok (.lload_n 1, 1) := by decide +kernel
theorem dX4_whole_53 : decode cX4_whole 53 = .ok (.invokestatic 93, 3) := by decide +kernel
theorem dX4_whole_56 : decode cX4_whole 56 = .ok (.istore 8, 2) := by decide +kernel
theorem dX4_whole_58 : decode cX4_whole 58 = .ok (.iload 8, 2) := by decide +kernel
theorem dX4_whole_60 : decode cX4_whole 60 = .ok (.ifCond .eq 10, 3) := by decide +kernel
theorem dX4_whole_63 : decode cX4_whole 63 = .ok (.iload_n 0, 1) := by decide +kernel
theorem dX4_whole_64 : decode cX4_whole 64 = .ok (.invokestatic 81, 3) := by decide +kernel
theorem dX4_whole_67 : decode cX4_whole 67 = .ok (.goto 4, 3) := by decide +kernel
theorem dX4_whole_70 : decode cX4_whole 70 = .ok (.lconst 0, 1) := by decide +kernel
theorem dX4_whole_71 : decode cX4_whole 71 = .ok (.lstore 9, 2) := by decide +kernel
theorem dX4_whole_73 : decode cX4_whole 73 = .ok (.iload_n 0, 1) := by decide +kernel
theorem dX4_whole_74 : decode cX4_whole 74 = .ok (.iconst 2, 1) := by decide +kernel
theorem dX4_whole_75 : decode cX4_whole 75 = .ok (.if_icmp .ne 9, 3) := by decide +kernel
theorem dX4_whole_78 : decode cX4_whole 78 = .ok (.ldc2_w 107, 3) := by decide +kernel
theorem dX4_whole_81 : decode cX4_whole 81 = .ok (.goto 6, 3) := by decide +kernel
theorem dX4_whole_84 : decode cX4_whole 84 = .ok (.ldc2_w 109, 3) := by decide +kernel
theorem dX4_whole_87 : decode cX4_whole 87 = .ok (.lstore 11, 2) := by decide +kernel
theorem dX4_whole_89 : decode cX4_whole 89 = .ok (.iload 7, 2) := by decide +kernel
theorem dX4_whole_91 : decode cX4_whole 91 = .ok (.ifCond .ge 74, 3) := by decide +kernel
theorem dX4_whole_94 : decode cX4_whole 94 = .ok (.lload 11, 2) := by decide +kernel
theorem dX4_whole_96 : decode cX4_whole 96 = .ok (.lconst 1, 1) := by decide +kernel
theorem dX4_whole_97 : decode cX4_whole 97 = .ok (.iload 6, 2) := by decide +kernel
theorem dX4_whole_99 : decode cX4_whole 99 = .ok (.lshl, 1) := by decide +kernel
theorem dX4_whole_100 : decode cX4_whole 100 = .ok (.lsub, 1) := by decide +kernel
theorem dX4_whole_101 : decode cX4_whole 101 = .ok (.lstore 13, 2) := by decide +kernel
theorem dX4_whole_103 : decode cX4_whole 103 = .ok (.iload_n 3, 1) := by decide +kernel
theorem dX4_whole_104 : decode cX4_whole 104 = .ok (.iconst 5, 1) := by decide +kernel
theorem dX4_whole_105 : decode cX4_whole 105 = .ok (.if_icmp .ne 19, 3) := by decide +kernel
theorem dX4_whole_108 : decode cX4_whole 108 = .ok (.lload 4, 2) := by decide +kernel
theorem dX4_whole_110 : decode cX4_whole 110 = .ok (.lload 13, 2) := by decide +kernel
theorem dX4_whole_112 : decode cX4_whole 112 = .ok (.lcmp, 1) := by decide +kernel
theorem dX4_whole_113 : decode cX4_whole 113 = .ok (.ifCond .le 7, 3) := by decide +kernel
theorem dX4_whole_116 : decode cX4_whole 116 = .ok (.iconst 1, 1) := by decide +kernel
theorem dX4_whole_117 : decode cX4_whole 117 = .ok (.goto 27, 3) := by decide +kernel
theorem dX4_whole_120 : decode cX4_whole 120 = .ok (.iconst 0, 1) := by decide +kernel
theorem dX4_whole_121 : decode cX4_whole 121 = .ok (.goto 23, 3) := by decide +kernel
theorem dX4_whole_124 : decode cX4_whole 124 = .ok (.iload 8, 2) := by decide +kernel
theorem dX4_whole_126 : decode cX4_whole 126 = .ok (.iload_n 3, 1) := by decide +kernel
theorem dX4_whole_127 : decode cX4_whole 127 = .ok (.iconst 3, 1) := by decide +kernel
theorem dX4_whole_128 : decode cX4_whole 128 = .ok (.if_icmp .ne 7, 3) := by decide +kernel
theorem dX4_whole_131 : decode cX4_whole 131 = .ok (.iconst 1, 1) := by decide +kernel
theorem dX4_whole_132 : decode cX4_whole 132 = .ok (.goto 4, 3) := by decide +kernel
theorem dX4_whole_135 : decode cX4_whole 135 = .ok (.iconst 0, 1) := by decide +kernel
theorem dX4_whole_136 : decode cX4_whole 136 = .ok (.if_icmp .ne 7, 3) := by decide +kernel
theorem dX4_whole_139 : decode cX4_whole 139 = .ok (.iconst 1, 1) := by decide +kernel
theorem dX4_whole_140 : decode cX4_whole 140 = .ok (.goto 4, 3) := by decide +kernel
theorem dX4_whole_143 : decode cX4_whole 143 = .ok (.iconst 0, 1) := by decide +kernel
theorem dX4_whole_144 : decode cX4_whole 144 = .ok (.istore 15, 2) := by decide +kernel
theorem dX4_whole_146 : decode cX4_whole 146 = .ok (.iload_n 0, 1) := by decide +kernel
theorem dX4_whole_147 : decode cX4_whole 147 = .ok (.lload 9, 2) := by decide +kernel
theorem dX4_whole_149 : decode cX4_whole 149 = .ok (.iload 15, 2) := by decide +kernel
theorem dX4_whole_151 : decode cX4_whole 151 = .ok (.ifCond .eq 8, 3) := by decide +kernel
theorem dX4_whole_154 : decode cX4_whole 154 = .ok (.lload 11, 2) := by decide +kernel
theorem dX4_whole_156 : decode cX4_whole 156 = .ok (.goto 4, 3) := by decide +kernel
theorem dX4_whole_159 : decode cX4_whole 159 = .ok (.lconst 0, 1) := by decide +kernel
theorem dX4_whole_160 : decode cX4_whole 160 = .ok (.lor, 1) := by decide +kernel
theorem dX4_whole_161 : decode cX4_whole 161 = .ok (.invokestatic 97, 3) := by decide +kernel
theorem dX4_whole_164 : decode cX4_whole 164 = .ok (.lreturn, 1) := by decide +kernel
theorem dX4_whole_165 : decode cX4_whole 165 = .ok (.lconst 1, 1) := by decide +kernel
theorem dX4_whole_166 : decode cX4_whole 166 = .ok (.iload 6, 2) := by decide +kernel
theorem dX4_whole_168 : decode cX4_whole 168 = .ok (.iload 7, 2) := by decide +kernel
theorem dX4_whole_170 : decode cX4_whole 170 = .ok (.isub, 1) := by decide +kernel
theorem dX4_whole_171 : decode cX4_whole 171 = .ok (.lshl, 1) := by decide +kernel
theorem dX4_whole_172 : decode cX4_whole 172 = .ok (.lstore 13, 2) := by decide +kernel
theorem dX4_whole_174 : decode cX4_whole 174 = .ok (.lload 4, 2) := by decide +kernel
theorem dX4_whole_176 : decode cX4_whole 176 = .ok (.lload 13, 2) := by decide +kernel
theorem dX4_whole_178 : decode cX4_whole 178 = .ok (.lconst 1, 1) := by decide +kernel
theorem dX4_whole_179 : decode cX4_whole 179 = .ok (.lsub, 1) := by decide +kernel
theorem dX4_whole_180 : decode cX4_whole 180 = .ok (.land, 1) := by decide +kernel
theorem dX4_whole_181 : decode cX4_whole 181 = .ok (.lstore 15, 2) := by decide +kernel
theorem dX4_whole_183 : decode cX4_whole 183 = .ok (.lload 15, 2) := by decide +kernel
theorem dX4_whole_185 : decode cX4_whole 185 = .ok (.lconst 0, 1) := by decide +kernel
theorem dX4_whole_186 : decode cX4_whole 186 = .ok (.lcmp, 1) := by decide +kernel
theorem dX4_whole_187 : decode cX4_whole 187 = .ok (.ifCond .ne 5, 3) := by decide +kernel
theorem dX4_whole_190 : decode cX4_whole 190 = .ok (.lload_n 1, 1) := by decide +kernel
theorem dX4_whole_191 : decode cX4_whole 191 = .ok (.lreturn, 1) := by decide +kernel
theorem dX4_whole_192 : decode cX4_whole 192 = .ok (.lload 4, 2) := by decide +kernel
theorem dX4_whole_194 : decode cX4_whole 194 = .ok (.lload 13, 2) := by decide +kernel
theorem dX4_whole_196 : decode cX4_whole 196 = .ok (.land, 1) := by decide +kernel
theorem dX4_whole_197 : decode cX4_whole 197 = .ok (.lconst 0, 1) := by decide +kernel
theorem dX4_whole_198 : decode cX4_whole 198 = .ok (.lcmp, 1) := by decide +kernel
theorem dX4_whole_199 : decode cX4_whole 199 = .ok (.ifCond .eq 7, 3) := by decide +kernel
theorem dX4_whole_202 : decode cX4_whole 202 = .ok (.iconst 1, 1) := by decide +kernel
theorem dX4_whole_203 : decode cX4_whole 203 = .ok (.goto 4, 3) := by decide +kernel
theorem dX4_whole_206 : decode cX4_whole 206 = .ok (.iconst 0, 1) := by decide +kernel
theorem dX4_whole_207 : decode cX4_whole 207 = .ok (.istore 17, 2) := by decide +kernel
theorem dX4_whole_209 : decode cX4_whole 209 = .ok (.iload_n 3, 1) := by decide +kernel
theorem dX4_whole_210 : decode cX4_whole 210 = .ok (.iconst 5, 1) := by decide +kernel
theorem dX4_whole_211 : decode cX4_whole 211 = .ok (.if_icmp .ne 40, 3) := by decide +kernel
theorem dX4_whole_214 : decode cX4_whole 214 = .ok (.ldc2_w 111, 3) := by decide +kernel
theorem dX4_whole_217 : decode cX4_whole 217 = .ok (.lload 15, 2) := by decide +kernel
theorem dX4_whole_219 : decode cX4_whole 219 = .ok (.lmul, 1) := by decide +kernel
theorem dX4_whole_220 : decode cX4_whole 220 = .ok (.lload 13, 2) := by decide +kernel
theorem dX4_whole_222 : decode cX4_whole 222 = .ok (.lcmp, 1) := by decide +kernel
theorem dX4_whole_223 : decode cX4_whole 223 = .ok (.ifCond .gt 20, 3) := by decide +kernel
theorem dX4_whole_226 : decode cX4_whole 226 = .ok (.ldc2_w 111, 3) := by decide +kernel
theorem dX4_whole_229 : decode cX4_whole 229 = .ok (.lload 15, 2) := by decide +kernel
theorem dX4_whole_231 : decode cX4_whole 231 = .ok (.lmul, 1) := by decide +kernel
theorem dX4_whole_232 : decode cX4_whole 232 = .ok (.lload 13, 2) := by decide +kernel
theorem dX4_whole_234 : decode cX4_whole 234 = .ok (.lcmp, 1) := by decide +kernel
theorem dX4_whole_235 : decode cX4_whole 235 = .ok (.ifCond .ne 12, 3) := by decide +kernel
theorem dX4_whole_238 : decode cX4_whole 238 = .ok (.iload 17, 2) := by decide +kernel
theorem dX4_whole_240 : decode cX4_whole 240 = .ok (.ifCond .eq 7, 3) := by decide +kernel
theorem dX4_whole_243 : decode cX4_whole 243 = .ok (.iconst 1, 1) := by decide +kernel
theorem dX4_whole_244 : decode cX4_whole 244 = .ok (.goto 27, 3) := by decide +kernel
theorem dX4_whole_247 : decode cX4_whole 247 = .ok (.iconst 0, 1) := by decide +kernel
theorem dX4_whole_248 : decode cX4_whole 248 = .ok (.goto 23, 3) := by decide +kernel
theorem dX4_whole_251 : decode cX4_whole 251 = .ok (.iload 8, 2) := by decide +kernel
theorem dX4_whole_253 : decode cX4_whole 253 = .ok (.iload_n 3, 1) := by decide +kernel
theorem dX4_whole_254 : decode cX4_whole 254 = .ok (.iconst 3, 1) := by decide +kernel
theorem dX4_whole_255 : decode cX4_whole 255 = .ok (.if_icmp .ne 7, 3) := by decide +kernel
theorem dX4_whole_258 : decode cX4_whole 258 = .ok (.iconst 1, 1) := by decide +kernel
theorem dX4_whole_259 : decode cX4_whole 259 = .ok (.goto 4, 3) := by decide +kernel
theorem dX4_whole_262 : decode cX4_whole 262 = .ok (.iconst 0, 1) := by decide +kernel
theorem dX4_whole_263 : decode cX4_whole 263 = .ok (.if_icmp .ne 7, 3) := by decide +kernel
theorem dX4_whole_266 : decode cX4_whole 266 = .ok (.iconst 1, 1) := by decide +kernel
theorem dX4_whole_267 : decode cX4_whole 267 = .ok (.goto 4, 3) := by decide +kernel
theorem dX4_whole_270 : decode cX4_whole 270 = .ok (.iconst 0, 1) := by decide +kernel
theorem dX4_whole_271 : decode cX4_whole 271 = .ok (.istore 18, 2) := by decide +kernel
theorem dX4_whole_273 : decode cX4_whole 273 = .ok (.iload_n 0, 1) := by decide +kernel
theorem dX4_whole_274 : decode cX4_whole 274 = .ok (.lload 9, 2) := by decide +kernel
theorem dX4_whole_276 : decode cX4_whole 276 = .ok (.lload 4, 2) := by decide +kernel
theorem dX4_whole_278 : decode cX4_whole 278 = .ok (.lload 15, 2) := by decide +kernel
theorem dX4_whole_280 : decode cX4_whole 280 = .ok (.lsub, 1) := by decide +kernel
theorem dX4_whole_281 : decode cX4_whole 281 = .ok (.iload 18, 2) := by decide +kernel
theorem dX4_whole_283 : decode cX4_whole 283 = .ok (.ifCond .eq 8, 3) := by decide +kernel
theorem dX4_whole_286 : decode cX4_whole 286 = .ok (.lload 13, 2) := by decide +kernel
theorem dX4_whole_288 : decode cX4_whole 288 = .ok (.goto 4, 3) := by decide +kernel
theorem dX4_whole_291 : decode cX4_whole 291 = .ok (.lconst 0, 1) := by decide +kernel
theorem dX4_whole_292 : decode cX4_whole 292 = .ok (.ladd, 1) := by decide +kernel
theorem dX4_whole_293 : decode cX4_whole 293 = .ok (.lor, 1) := by decide +kernel
theorem dX4_whole_294 : decode cX4_whole 294 = .ok (.invokestatic 97, 3) := by decide +kernel
theorem dX4_whole_297 : decode cX4_whole 297 = .ok (.lreturn, 1) := by decide +kernel
set_option maxRecDepth 20000 in
theorem ggX4_signOf_X4_size : GoodIn wsX4_signOf wsX4_size := goodIn_r _ [6, 7, 8, 9, 5, 10, 11, 12, 13, 14, 15, 16] (by decide +kernel) (by decide +kernel)
set_option maxRecDepth 20000 in
theorem gX4_signOf_X4_size : GoodIn wsX4_signOf (va_wsS RX4 87 yX4_size wsX4_size) := goodIn_app (goodIn_of _ (by decide +kernel)) ggX4_signOf_X4_size
set_option maxRecDepth 20000 in
theorem ggX4_signOf_X4_below : GoodIn wsX4_signOf wsX4_below := goodIn_r _ [19, 12, 13, 5, 14, 15, 16] (by decide +kernel) (by decide +kernel)
set_option maxRecDepth 20000 in
theorem gX4_signOf_X4_below : GoodIn wsX4_signOf (va_wsS RX4 93 yX4_below wsX4_below) := goodIn_app (goodIn_of _ (by decide +kernel)) ggX4_signOf_X4_below
set_option maxRecDepth 20000 in
theorem ggX4_signOf_X4_signBit : GoodIn wsX4_signOf wsX4_signBit := goodIn_r _ [14, 15, 16] (by decide +kernel) (by decide +kernel)
set_option maxRecDepth 20000 in
theorem gX4_signOf_X4_signBit : GoodIn wsX4_signOf (va_wsS RX4 81 yX4_signBit wsX4_signBit) := goodIn_app (goodIn_of _ (by decide +kernel)) ggX4_signOf_X4_signBit
set_option maxRecDepth 20000 in
theorem ggX4_signOf_X4_asCode : GoodIn wsX4_signOf wsX4_asCode := goodIn_r _ [22] (by decide +kernel) (by decide +kernel)
set_option maxRecDepth 20000 in
theorem gX4_signOf_X4_asCode : GoodIn wsX4_signOf (va_wsS RX4 97 yX4_asCode wsX4_asCode) := goodIn_app (goodIn_of _ (by decide +kernel)) ggX4_signOf_X4_asCode
theorem dX4_signOf_0 : decode cX4_signOf 0 = .ok (.iload_n 0, 1) := by decide +kernel
theorem dX4_signOf_1 : decode cX4_signOf 1 = .ok (.lload_n 1, 1) := by decide +kernel
theorem dX4_signOf_2 : decode cX4_signOf 2 = .ok (.invokestatic 87, 3) := by decide +kernel
theorem dX4_signOf_5 : decode cX4_signOf 5 = .ok (.lconst 0, 1) := by decide +kernel
theorem dX4_signOf_6 : decode cX4_signOf 6 = .ok (.lcmp, 1) := by decide +kernel
theorem dX4_signOf_7 : decode cX4_signOf 7 = .ok (.ifCond .ne 5, 3) := by decide +kernel
theorem dX4_signOf_10 : decode cX4_signOf 10 = .ok (.lload_n 1, 1) := by decide +kernel
theorem dX4_signOf_11 : decode cX4_signOf 11 = .ok (.lreturn, 1) := by decide +kernel
theorem dX4_signOf_12 : decode cX4_signOf 12 = .ok (.iload_n 0, 1) := by decide +kernel
theorem dX4_signOf_13 : decode cX4_signOf 13 = .ok (.iconst 2, 1) := by decide +kernel
theorem dX4_signOf_14 : decode cX4_signOf 14 = .ok (.if_icmp .ne 9, 3) := by decide +kernel
theorem dX4_signOf_17 : decode cX4_signOf 17 = .ok (.ldc2_w 107, 3) := by decide +kernel
theorem dX4_signOf_20 : decode cX4_signOf 20 = .ok (.goto 6, 3) := by decide +kernel
theorem dX4_signOf_23 : decode cX4_signOf 23 = .ok (.ldc2_w 109, 3) := by decide +kernel
theorem dX4_signOf_26 : decode cX4_signOf 26 = .ok (.lstore_n 3, 1) := by decide +kernel
theorem dX4_signOf_27 : decode cX4_signOf 27 = .ok (.iload_n 0, 1) := by decide +kernel
theorem dX4_signOf_28 : decode cX4_signOf 28 = .ok (.iload_n 0, 1) := by decide +kernel
theorem dX4_signOf_29 : decode cX4_signOf 29 = .ok (.lload_n 1, 1) := by decide +kernel
theorem dX4_signOf_30 : decode cX4_signOf 30 = .ok (.invokestatic 93, 3) := by decide +kernel
theorem dX4_signOf_33 : decode cX4_signOf 33 = .ok (.ifCond .eq 12, 3) := by decide +kernel
theorem dX4_signOf_36 : decode cX4_signOf 36 = .ok (.lload_n 3, 1) := by decide +kernel
theorem dX4_signOf_37 : decode cX4_signOf 37 = .ok (.iload_n 0, 1) := by decide +kernel
theorem dX4_signOf_38 : decode cX4_signOf 38 = .ok (.invokestatic 81, 3) := by decide +kernel
theorem dX4_signOf_41 : decode cX4_signOf 41 = .ok (.lor, 1) := by decide +kernel
theorem dX4_signOf_42 : decode cX4_signOf 42 = .ok (.goto 4, 3) := by decide +kernel
theorem dX4_signOf_45 : decode cX4_signOf 45 = .ok (.lload_n 3, 1) := by decide +kernel
theorem dX4_signOf_46 : decode cX4_signOf 46 = .ok (.invokestatic 97, 3) := by decide +kernel
theorem dX4_signOf_49 : decode cX4_signOf 49 = .ok (.lreturn, 1) := by decide +kernel
set_option maxRecDepth 20000 in
theorem ggX4_works_X4_upright : GoodIn wsX4_works wsX4_upright := goodIn_r _ [4, 5, 6, 3, 7, 8, 9, 10, 11, 12, 13, 14, 15, 16, 17, 18, 19, 20, 21, 22, 23] (by decide +kernel) (by decide +kernel)
set_option maxRecDepth 20000 in
theorem gX4_works_X4_upright : GoodIn wsX4_works (va_wsS RX4 113 yX4_upright wsX4_upright) := goodIn_app (goodIn_of _ (by decide +kernel)) ggX4_works_X4_upright
set_option maxRecDepth 20000 in
theorem ggX4_works_X4_order : GoodIn wsX4_works wsX4_order := goodIn_r _ [26, 27, 28, 3, 29, 12, 13, 14, 15, 16, 20, 21, 22, 23, 8, 9, 10, 11] (by decide +kernel) (by decide +kernel)
set_option maxRecDepth 20000 in
theorem gX4_works_X4_order : GoodIn wsX4_works (va_wsS RX4 116 yX4_order wsX4_order) := goodIn_app (goodIn_of _ (by decide +kernel)) ggX4_works_X4_order
set_option maxRecDepth 20000 in
theorem ggX4_works_X4_whole : GoodIn wsX4_works wsX4_whole := goodIn_r _ [32, 33, 34, 35, 20, 21, 3, 22, 23, 8, 9, 10, 11, 12, 13, 14, 15, 16, 36, 37, 38, 27, 28, 29, 17, 18, 19] (by decide +kernel) (by decide +kernel)
set_option maxRecDepth 20000 in
theorem gX4_works_X4_whole : GoodIn wsX4_works (va_wsS RX4 120 yX4_whole wsX4_whole) := goodIn_app (goodIn_of _ (by decide +kernel)) ggX4_works_X4_whole
set_option maxRecDepth 20000 in
theorem ggX4_works_X4_signOf : GoodIn wsX4_works wsX4_signOf := goodIn_r _ [41, 33, 34, 20, 21, 3, 22, 23, 8, 9, 10, 11, 12, 13, 14, 15, 16, 27, 28, 29, 17, 18, 19] (by decide +kernel) (by decide +kernel)
set_option maxRecDepth 20000 in
theorem gX4_works_X4_signOf : GoodIn wsX4_works (va_wsS RX4 124 yX4_signOf wsX4_signOf) := goodIn_app (goodIn_of _ (by decide +kernel)) ggX4_works_X4_signOf
set_option maxRecDepth 20000 in
theorem ggX4_works_X4_below : GoodIn wsX4_works wsX4_below := goodIn_r _ [29, 12, 13, 3, 14, 15, 16] (by decide +kernel) (by decide +kernel)
set_option maxRecDepth 20000 in
theorem gX4_works_X4_below : GoodIn wsX4_works (va_wsS RX4 93 yX4_below wsX4_below) := goodIn_app (goodIn_of _ (by decide +kernel)) ggX4_works_X4_below
set_option maxRecDepth 20000 in
theorem ggX4_works_X4_size : GoodIn wsX4_works wsX4_size := goodIn_r _ [22, 23, 8, 9, 3, 10, 11, 12, 13, 14, 15, 16] (by decide +kernel) (by decide +kernel)
set_option maxRecDepth 20000 in
theorem gX4_works_X4_size : GoodIn wsX4_works (va_wsS RX4 87 yX4_size wsX4_size) := goodIn_app (goodIn_of _ (by decide +kernel)) ggX4_works_X4_size
set_option maxRecDepth 20000 in
theorem ggX4_works_X4_signBit : GoodIn wsX4_works wsX4_signBit := goodIn_r _ [14, 15, 16] (by decide +kernel) (by decide +kernel)
set_option maxRecDepth 20000 in
theorem gX4_works_X4_signBit : GoodIn wsX4_works (va_wsS RX4 81 yX4_signBit wsX4_signBit) := goodIn_app (goodIn_of _ (by decide +kernel)) ggX4_works_X4_signBit
set_option maxRecDepth 20000 in
theorem ggX4_works_X4_asCode : GoodIn wsX4_works wsX4_asCode := goodIn_r _ [19] (by decide +kernel) (by decide +kernel)
set_option maxRecDepth 20000 in
theorem gX4_works_X4_asCode : GoodIn wsX4_works (va_wsS RX4 97 yX4_asCode wsX4_asCode) := goodIn_app (goodIn_of _ (by decide +kernel)) ggX4_works_X4_asCode
set_option maxRecDepth 20000 in
theorem ggX4_works_X4_negative : GoodIn wsX4_works wsX4_negative := goodIn_r _ [7, 8, 9, 3, 10, 11, 12, 13, 14, 15, 16, 17, 18, 19] (by decide +kernel) (by decide +kernel)
set_option maxRecDepth 20000 in
theorem gX4_works_X4_negative : GoodIn wsX4_works (va_wsS RX4 100 yX4_negative wsX4_negative) := goodIn_app (goodIn_of _ (by decide +kernel)) ggX4_works_X4_negative
theorem dX4_works_0 : decode cX4_works 0 = .ok (.iload_n 1, 1) := by decide +kernel
theorem dX4_works_1 : decode cX4_works 1 = .ok (.tableswitch 132 0 7 #[47, 53, 70, 87, 87, 87, 94, 100], 47) := by decide +kernel
theorem dX4_works_48 : decode cX4_works 48 = .ok (.iload_n 0, 1) := by decide +kernel
theorem dX4_works_49 : decode cX4_works 49 = .ok (.lload_n 2, 1) := by decide +kernel
theorem dX4_works_50 : decode cX4_works 50 = .ok (.invokestatic 113, 3) := by decide +kernel
theorem dX4_works_53 : decode cX4_works 53 = .ok (.lreturn, 1) := by decide +kernel
theorem dX4_works_54 : decode cX4_works 54 = .ok (.iload_n 0, 1) := by decide +kernel
theorem dX4_works_55 : decode cX4_works 55 = .ok (.lload_n 2, 1) := by decide +kernel
theorem dX4_works_56 : decode cX4_works 56 = .ok (.lload 4, 2) := by decide +kernel
theorem dX4_works_58 : decode cX4_works 58 = .ok (.invokestatic 116, 3) := by decide +kernel
theorem dX4_works_61 : decode cX4_works 61 = .ok (.ifCond .gt 7, 3) := by decide +kernel
theorem dX4_works_64 : decode cX4_works 64 = .ok (.lload_n 2, 1) := by decide +kernel
theorem dX4_works_65 : decode cX4_works 65 = .ok (.goto 5, 3) := by decide +kernel
theorem dX4_works_68 : decode cX4_works 68 = .ok (.lload 4, 2) := by decide +kernel
theorem dX4_works_70 : decode cX4_works 70 = .ok (.lreturn, 1) := by decide +kernel
theorem dX4_works_71 : decode cX4_works 71 = .ok (.iload_n 0, 1) := by decide +kernel
theorem dX4_works_72 : decode cX4_works 72 = .ok (.lload_n 2, 1) := by decide +kernel
theorem dX4_works_73 : decode cX4_works 73 = .ok (.lload 4, 2) := by decide +kernel
theorem dX4_works_75 : decode cX4_works 75 = .ok (.invokestatic 116, 3) := by decide +kernel
theorem dX4_works_78 : decode cX4_works 78 = .ok (.ifCond .lt 7, 3) := by decide +kernel
theorem dX4_works_81 : decode cX4_works 81 = .ok (.lload_n 2, 1) := by decide +kernel
theorem dX4_works_82 : decode cX4_works 82 = .ok (.goto 5, 3) := by decide +kernel
theorem dX4_works_85 : decode cX4_works 85 = .ok (.lload 4, 2) := by decide +kernel
theorem dX4_works_87 : decode cX4_works 87 = .ok (.lreturn, 1) := by decide +kernel
theorem dX4_works_88 : decode cX4_works 88 = .ok (.iload_n 0, 1) := by decide +kernel
theorem dX4_works_89 : decode cX4_works 89 = .ok (.lload_n 2, 1) := by decide +kernel
theorem dX4_works_90 : decode cX4_works 90 = .ok (.iload_n 1, 1) := by decide +kernel
theorem dX4_works_91 : decode cX4_works 91 = .ok (.invokestatic 120, 3) := by decide +kernel
theorem dX4_works_94 : decode cX4_works 94 = .ok (.lreturn, 1) := by decide +kernel
theorem dX4_works_95 : decode cX4_works 95 = .ok (.iload_n 0, 1) := by decide +kernel
theorem dX4_works_96 : decode cX4_works 96 = .ok (.lload_n 2, 1) := by decide +kernel
theorem dX4_works_97 : decode cX4_works 97 = .ok (.invokestatic 124, 3) := by decide +kernel
theorem dX4_works_100 : decode cX4_works 100 = .ok (.lreturn, 1) := by decide +kernel
theorem dX4_works_101 : decode cX4_works 101 = .ok (.iload_n 0, 1) := by decide +kernel
theorem dX4_works_102 : decode cX4_works 102 = .ok (.iload_n 0, 1) := by decide +kernel
theorem dX4_works_103 : decode cX4_works 103 = .ok (.lload 4, 2) := by decide +kernel
theorem dX4_works_105 : decode cX4_works 105 = .ok (.invokestatic 93, 3) := by decide +kernel
theorem dX4_works_108 : decode cX4_works 108 = .ok (.ifCond .eq 16, 3) := by decide +kernel
theorem dX4_works_111 : decode cX4_works 111 = .ok (.iload_n 0, 1) := by decide +kernel
theorem dX4_works_112 : decode cX4_works 112 = .ok (.lload_n 2, 1) := by decide +kernel
theorem dX4_works_113 : decode cX4_works 113 = .ok (.invokestatic 87, 3) := by decide +kernel
theorem dX4_works_116 : decode cX4_works 116 = .ok (.iload_n 0, 1) := by decide +kernel
theorem dX4_works_117 : decode cX4_works 117 = .ok (.invokestatic 81, 3) := by decide +kernel
theorem dX4_works_120 : decode cX4_works 120 = .ok (.lor, 1) := by decide +kernel
theorem dX4_works_121 : decode cX4_works 121 = .ok (.goto 8, 3) := by decide +kernel
theorem dX4_works_124 : decode cX4_works 124 = .ok (.iload_n 0, 1) := by decide +kernel
theorem dX4_works_125 : decode cX4_works 125 = .ok (.lload_n 2, 1) := by decide +kernel
theorem dX4_works_126 : decode cX4_works 126 = .ok (.invokestatic 87, 3) := by decide +kernel
theorem dX4_works_129 : decode cX4_works 129 = .ok (.invokestatic 97, 3) := by decide +kernel
theorem dX4_works_132 : decode cX4_works 132 = .ok (.lreturn, 1) := by decide +kernel
theorem dX4_works_133 : decode cX4_works 133 = .ok (.iload_n 0, 1) := by decide +kernel
theorem dX4_works_134 : decode cX4_works 134 = .ok (.lload_n 2, 1) := by decide +kernel
theorem dX4_works_135 : decode cX4_works 135 = .ok (.invokestatic 100, 3) := by decide +kernel
theorem dX4_works_138 : decode cX4_works 138 = .ok (.lreturn, 1) := by decide +kernel
theorem dX4_bitsOf_0 : decode cX4_bitsOf 0 = .ok (.iconst 0, 1) := by decide +kernel
theorem dX4_bitsOf_1 : decode cX4_bitsOf 1 = .ok (.istore_n 2, 1) := by decide +kernel
theorem dX4_bitsOf_2 : decode cX4_bitsOf 2 = .ok (.iconst 0, 1) := by decide +kernel
theorem dX4_bitsOf_3 : decode cX4_bitsOf 3 = .ok (.istore_n 3, 1) := by decide +kernel
theorem dX4_bitsOf_4 : decode cX4_bitsOf 4 = .ok (.iload_n 3, 1) := by decide +kernel
theorem dX4_bitsOf_5 : decode cX4_bitsOf 5 = .ok (.bipush 64, 2) := by decide +kernel
theorem dX4_bitsOf_7 : decode cX4_bitsOf 7 = .ok (.if_icmp .ge 27, 3) := by decide +kernel
theorem dX4_bitsOf_10 : decode cX4_bitsOf 10 = .ok (.lload_n 0, 1) := by decide +kernel
theorem dX4_bitsOf_11 : decode cX4_bitsOf 11 = .ok (.iload_n 3, 1) := by decide +kernel
theorem dX4_bitsOf_12 : decode cX4_bitsOf 12 = .ok (.lushr, 1) := by decide +kernel
theorem dX4_bitsOf_13 : decode cX4_bitsOf 13 = .ok (.lconst 1, 1) := by decide +kernel
theorem dX4_bitsOf_14 : decode cX4_bitsOf 14 = .ok (.land, 1) := by decide +kernel
theorem dX4_bitsOf_15 : decode cX4_bitsOf 15 = .ok (.lconst 1, 1) := by decide +kernel
theorem dX4_bitsOf_16 : decode cX4_bitsOf 16 = .ok (.lcmp, 1) := by decide +kernel
theorem dX4_bitsOf_17 : decode cX4_bitsOf 17 = .ok (.ifCond .ne 9, 3) := by decide +kernel
theorem dX4_bitsOf_20 : decode cX4_bitsOf 20 = .ok (.iload_n 3, 1) := by decide +kernel
theorem dX4_bitsOf_21 : decode cX4_bitsOf 21 = .ok (.iconst 1, 1) := by decide +kernel
theorem dX4_bitsOf_22 : decode cX4_bitsOf 22 = .ok (.iadd, 1) := by decide +kernel
theorem dX4_bitsOf_23 : decode cX4_bitsOf 23 = .ok (.goto 4, 3) := by decide +kernel
theorem dX4_bitsOf_26 : decode cX4_bitsOf 26 = .ok (.iload_n 2, 1) := by decide +kernel
