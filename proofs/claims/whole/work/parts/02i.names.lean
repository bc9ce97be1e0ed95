theorem dX4_bitsOf_27 : decode cX4_bitsOf 27 = .ok (.istore_n 2, 1) := by decide +kernel
theorem dX4_bitsOf_28 : decode cX4_bitsOf 28 = .ok (.iinc 3 1, 3) := by decide +kernel
theorem dX4_bitsOf_31 : decode cX4_bitsOf 31 = .ok (.goto (-27), 3) := by decide +kernel
theorem dX4_bitsOf_34 : decode cX4_bitsOf 34 = .ok (.iload_n 2, 1) := by decide +kernel
theorem dX4_bitsOf_35 : decode cX4_bitsOf 35 = .ok (.ireturn, 1) := by decide +kernel
set_option maxRecDepth 20000 in
theorem ggX4_near_X4_signBit : GoodIn wsX4_near wsX4_signBit := goodIn_r _ [4, 5, 6] (by decide +kernel) (by decide +kernel)
set_option maxRecDepth 20000 in
theorem gX4_near_X4_signBit : GoodIn wsX4_near (va_wsS RX4 81 yX4_signBit wsX4_signBit) := goodIn_app (goodIn_of _ (by decide +kernel)) ggX4_near_X4_signBit
set_option maxRecDepth 20000 in
theorem ggX4_near_X4_asCode : GoodIn wsX4_near wsX4_asCode := goodIn_r _ [9] (by decide +kernel) (by decide +kernel)
set_option maxRecDepth 20000 in
theorem gX4_near_X4_asCode : GoodIn wsX4_near (va_wsS RX4 97 yX4_asCode wsX4_asCode) := goodIn_app (goodIn_of _ (by decide +kernel)) ggX4_near_X4_asCode
set_option maxRecDepth 20000 in
theorem ggX4_near_X4_fractionBits : GoodIn wsX4_near wsX4_fractionBits := goodIn_r _ [12] (by decide +kernel) (by decide +kernel)
set_option maxRecDepth 20000 in
theorem gX4_near_X4_fractionBits : GoodIn wsX4_near (va_wsS RX4 103 yX4_fractionBits wsX4_fractionBits) := goodIn_app (goodIn_of _ (by decide +kernel)) ggX4_near_X4_fractionBits
set_option maxRecDepth 20000 in
theorem ggX4_near_X4_bitsOf : GoodIn wsX4_near wsX4_bitsOf := goodIn_r _ [15] (by decide +kernel) (by decide +kernel)
set_option maxRecDepth 20000 in
theorem gX4_near_X4_bitsOf : GoodIn wsX4_near (va_wsS RX4 127 yX4_bitsOf wsX4_bitsOf) := goodIn_app (goodIn_of _ (by decide +kernel)) ggX4_near_X4_bitsOf
set_option maxRecDepth 20000 in
theorem ggX4_near_X4_endless : GoodIn wsX4_near wsX4_endless := goodIn_r _ [18, 19, 20] (by decide +kernel) (by decide +kernel)
set_option maxRecDepth 20000 in
theorem gX4_near_X4_endless : GoodIn wsX4_near (va_wsS RX4 90 yX4_endless wsX4_endless) := goodIn_app (goodIn_of _ (by decide +kernel)) ggX4_near_X4_endless
theorem dX4_near_0 : decode cX4_near 0 = .ok (.iload_n 1, 1) := by decide +kernel
theorem dX4_near_1 : decode cX4_near 1 = .ok (.ifCond .eq 10, 3) := by decide +kernel
theorem dX4_near_4 : decode cX4_near 4 = .ok (.iload_n 0, 1) := by decide +kernel
theorem dX4_near_5 : decode cX4_near 5 = .ok (.invokestatic 81, 3) := by decide +kernel
theorem dX4_near_8 : decode cX4_near 8 = .ok (.goto 4, 3) := by decide +kernel
theorem dX4_near_11 : decode cX4_near 11 = .ok (.lconst 0, 1) := by decide +kernel
theorem dX4_near_12 : decode cX4_near 12 = .ok (.lstore 5, 2) := by decide +kernel
theorem dX4_near_14 : decode cX4_near 14 = .ok (.lload_n 2, 1) := by decide +kernel
theorem dX4_near_15 : decode cX4_near 15 = .ok (.lconst 0, 1) := by decide +kernel
theorem dX4_near_16 : decode cX4_near 16 = .ok (.lcmp, 1) := by decide +kernel
theorem dX4_near_17 : decode cX4_near 17 = .ok (.ifCond .ne 10, 3) := by decide +kernel
theorem dX4_near_20 : decode cX4_near 20 = .ok (.iload_n 0, 1) := by decide +kernel
theorem dX4_near_21 : decode cX4_near 21 = .ok (.lload 5, 2) := by decide +kernel
theorem dX4_near_23 : decode cX4_near 23 = .ok (.invokestatic 97, 3) := by decide +kernel
theorem dX4_near_26 : decode cX4_near 26 = .ok (.lreturn, 1) := by decide +kernel
theorem dX4_near_27 : decode cX4_near 27 = .ok (.iload_n 0, 1) := by decide +kernel
theorem dX4_near_28 : decode cX4_near 28 = .ok (.invokestatic 103, 3) := by decide +kernel
theorem dX4_near_31 : decode cX4_near 31 = .ok (.iconst 1, 1) := by decide +kernel
theorem dX4_near_32 : decode cX4_near 32 = .ok (.iadd, 1) := by decide +kernel
theorem dX4_near_33 : decode cX4_near 33 = .ok (.istore 7, 2) := by decide +kernel
theorem dX4_near_35 : decode cX4_near 35 = .ok (.iload_n 0, 1) := by decide +kernel
theorem dX4_near_36 : decode cX4_near 36 = .ok (.iconst 2, 1) := by decide +kernel
theorem dX4_near_37 : decode cX4_near 37 = .ok (.if_icmp .ne 9, 3) := by decide +kernel
theorem dX4_near_40 : decode cX4_near 40 = .ok (.sipush (-149), 3) := by decide +kernel
theorem dX4_near_43 : decode cX4_near 43 = .ok (.goto 6, 3) := by decide +kernel
theorem dX4_near_46 : decode cX4_near 46 = .ok (.sipush (-1074), 3) := by decide +kernel
theorem dX4_near_49 : decode cX4_near 49 = .ok (.istore 8, 2) := by decide +kernel
theorem dX4_near_51 : decode cX4_near 51 = .ok (.iload 4, 2) := by decide +kernel
theorem dX4_near_53 : decode cX4_near 53 = .ok (.lload_n 2, 1) := by decide +kernel
theorem dX4_near_54 : decode cX4_near 54 = .ok (.invokestatic 127, 3) := by decide +kernel
theorem dX4_near_57 : decode cX4_near 57 = .ok (.iadd, 1) := by decide +kernel
theorem dX4_near_58 : decode cX4_near 58 = .ok (.iload 7, 2) := by decide +kernel
theorem dX4_near_60 : decode cX4_near 60 = .ok (.isub, 1) := by decide +kernel
theorem dX4_near_61 : decode cX4_near 61 = .ok (.istore 9, 2) := by decide +kernel
theorem dX4_near_63 : decode cX4_near 63 = .ok (.iload 9, 2) := by decide +kernel
theorem dX4_near_65 : decode cX4_near 65 = .ok (.iload 8, 2) := by decide +kernel
theorem dX4_near_67 : decode cX4_near 67 = .ok (.if_icmp .ge 7, 3) := by decide +kernel
theorem dX4_near_70 : decode cX4_near 70 = .ok (.iload 8, 2) := by decide +kernel
theorem dX4_near_72 : decode cX4_near 72 = .ok (.istore 9, 2) := by decide +kernel
theorem dX4_near_74 : decode cX4_near 74 = .ok (.iload 9, 2) := by decide +kernel
theorem dX4_near_76 : decode cX4_near 76 = .ok (.iload 4, 2) := by decide +kernel
theorem dX4_near_78 : decode cX4_near 78 = .ok (.if_icmp .gt 15, 3) := by decide +kernel
theorem dX4_near_81 : decode cX4_near 81 = .ok (.lload_n 2, 1) := by decide +kernel
theorem dX4_near_82 : decode cX4_near 82 = .ok (.iload 4, 2) := by decide +kernel
theorem dX4_near_84 : decode cX4_near 84 = .ok (.iload 9, 2) := by decide +kernel
theorem dX4_near_86 : decode cX4_near 86 = .ok (.isub, 1) := by decide +kernel
theorem dX4_near_87 : decode cX4_near 87 = .ok (.lshl, 1) := by decide +kernel
theorem dX4_near_88 : decode cX4_near 88 = .ok (.lstore 10, 2) := by decide +kernel
theorem dX4_near_90 : decode cX4_near 90 = .ok (.goto 81, 3) := by decide +kernel
theorem dX4_near_93 : decode cX4_near 93 = .ok (.iload 9, 2) := by decide +kernel
theorem dX4_near_95 : decode cX4_near 95 = .ok (.iload 4, 2) := by decide +kernel
theorem dX4_near_97 : decode cX4_near 97 = .ok (.isub, 1) := by decide +kernel
theorem dX4_near_98 : decode cX4_near 98 = .ok (.bipush 63, 2) := by decide +kernel
theorem dX4_near_100 : decode cX4_near 100 = .ok (.if_icmp .le 9, 3) := by decide +kernel
theorem dX4_near_103 : decode cX4_near 103 = .ok (.lconst 0, 1) := by decide +kernel
theorem dX4_near_104 : decode cX4_near 104 = .ok (.lstore 10, 2) := by decide +kernel
theorem dX4_near_106 : decode cX4_near 106 = .ok (.goto 65, 3) := by decide +kernel
theorem dX4_near_109 : decode cX4_near 109 = .ok (.iload 9, 2) := by decide +kernel
theorem dX4_near_111 : decode cX4_near 111 = .ok (.iload 4, 2) := by decide +kernel
theorem dX4_near_113 : decode cX4_near 113 = .ok (.isub, 1) := by decide +kernel
theorem dX4_near_114 : decode cX4_near 114 = .ok (.istore 12, 2) := by decide +kernel
theorem dX4_near_116 : decode cX4_near 116 = .ok (.lload_n 2, 1) := by decide +kernel
theorem dX4_near_117 : decode cX4_near 117 = .ok (.iload 12, 2) := by decide +kernel
theorem dX4_near_119 : decode cX4_near 119 = .ok (.lushr, 1) := by decide +kernel
theorem dX4_near_120 : decode cX4_near 120 = .ok (.lstore 10, 2) := by decide +kernel
theorem dX4_near_122 : decode cX4_near 122 = .ok (.lload_n 2, 1) := by decide +kernel
theorem dX4_near_123 : decode cX4_near 123 = .ok (.lconst 1, 1) := by decide +kernel
theorem dX4_near_124 : decode cX4_near 124 = .ok (.iload 12, 2) := by decide +kernel
theorem dX4_near_126 : decode cX4_near 126 = .ok (.lshl, 1) := by decide +kernel
theorem dX4_near_127 : decode cX4_near 127 = .ok (.lconst 1, 1) := by decide +kernel
theorem dX4_near_128 : decode cX4_near 128 = .ok (.lsub, 1) := by decide +kernel
theorem dX4_near_129 : decode cX4_near 129 = .ok (.land, 1) := by decide +kernel
theorem dX4_near_130 : decode cX4_near 130 = .ok (.lstore 13, 2) := by decide +kernel
theorem dX4_near_132 : decode cX4_near 132 = .ok (.lconst 1, 1) := by decide +kernel
theorem dX4_near_133 : decode cX4_near 133 = .ok (.iload 12, 2) := by decide +kernel
theorem dX4_near_135 : decode cX4_near 135 = .ok (.iconst 1, 1) := by decide +kernel
theorem dX4_near_136 : decode cX4_near 136 = .ok (.isub, 1) := by decide +kernel
theorem dX4_near_137 : decode cX4_near 137 = .ok (.lshl, 1) := by decide +kernel
theorem dX4_near_138 : decode cX4_near 138 = .ok (.lstore 15, 2) := by decide +kernel
theorem dX4_near_140 : decode cX4_near 140 = .ok (.lload 13, 2) := by decide +kernel
theorem dX4_near_142 : decode cX4_near 142 = .ok (.lload 15, 2) := by decide +kernel
theorem dX4_near_144 : decode cX4_near 144 = .ok (.lcmp, 1) := by decide +kernel
theorem dX4_near_145 : decode cX4_near 145 = .ok (.ifCond .gt 20, 3) := by decide +kernel
theorem dX4_near_148 : decode cX4_near 148 = .ok (.lload 13, 2) := by decide +kernel
theorem dX4_near_150 : decode cX4_near 150 = .ok (.lload 15, 2) := by decide +kernel
theorem dX4_near_152 : decode cX4_near 152 = .ok (.lcmp, 1) := by decide +kernel
theorem dX4_near_153 : decode cX4_near 153 = .ok (.ifCond .ne 18, 3) := by decide +kernel
theorem dX4_near_156 : decode cX4_near 156 = .ok (.lload 10, 2) := by decide +kernel
theorem dX4_near_158 : decode cX4_near 158 = .ok (.lconst 1, 1) := by decide +kernel
theorem dX4_near_159 : decode cX4_near 159 = .ok (.land, 1) := by decide +kernel
theorem dX4_near_160 : decode cX4_near 160 = .ok (.lconst 1, 1) := by decide +kernel
theorem dX4_near_161 : decode cX4_near 161 = .ok (.lcmp, 1) := by decide +kernel
theorem dX4_near_162 : decode cX4_near 162 = .ok (.ifCond .ne 9, 3) := by decide +kernel
theorem dX4_near_165 : decode cX4_near 165 = .ok (.lload 10, 2) := by decide +kernel
theorem dX4_near_167 : decode cX4_near 167 = .ok (.lconst 1, 1) := by decide +kernel
theorem dX4_near_168 : decode cX4_near 168 = .ok (.ladd, 1) := by decide +kernel
theorem dX4_near_169 : decode cX4_near 169 = .ok (.lstore 10, 2) := by decide +kernel
theorem dX4_near_171 : decode cX4_near 171 = .ok (.lload 10, 2) := by decide +kernel
theorem dX4_near_173 : decode cX4_near 173 = .ok (.lconst 1, 1) := by decide +kernel
theorem dX4_near_174 : decode cX4_near 174 = .ok (.iload 7, 2) := by decide +kernel
theorem dX4_near_176 : decode cX4_near 176 = .ok (.lshl, 1) := by decide +kernel
theorem dX4_near_177 : decode cX4_near 177 = .ok (.lcmp, 1) := by decide +kernel
theorem dX4_near_178 : decode cX4_near 178 = .ok (.ifCond .ne 12, 3) := by decide +kernel
theorem dX4_near_181 : decode cX4_near 181 = .ok (.lload 10, 2) := by decide +kernel
theorem dX4_near_183 : decode cX4_near 183 = .ok (.iconst 1, 1) := by decide +kernel
theorem dX4_near_184 : decode cX4_near 184 = .ok (.lshr, 1) := by decide +kernel
theorem dX4_near_185 : decode cX4_near 185 = .ok (.lstore 10, 2) := by decide +kernel
theorem dX4_near_187 : decode cX4_near 187 = .ok (.iinc 9 1, 3) := by decide +kernel
theorem dX4_near_190 : decode cX4_near 190 = .ok (.iload 9, 2) := by decide +kernel
theorem dX4_near_192 : decode cX4_near 192 = .ok (.iload_n 0, 1) := by decide +kernel
theorem dX4_near_193 : decode cX4_near 193 = .ok (.iconst 2, 1) := by decide +kernel
theorem dX4_near_194 : decode cX4_near 194 = .ok (.if_icmp .ne 8, 3) := by decide +kernel
theorem dX4_near_197 : decode cX4_near 197 = .ok (.bipush 104, 2) := by decide +kernel
theorem dX4_near_199 : decode cX4_near 199 = .ok (.goto 6, 3) := by decide +kernel
theorem dX4_near_202 : decode cX4_near 202 = .ok (.sipush 971, 3) := by decide +kernel
theorem dX4_near_205 : decode cX4_near 205 = .ok (.if_icmp .le 15, 3) := by decide +kernel
theorem dX4_near_208 : decode cX4_near 208 = .ok (.iload_n 0, 1) := by decide +kernel
theorem dX4_near_209 : decode cX4_near 209 = .ok (.lload 5, 2) := by decide +kernel
theorem dX4_near_211 : decode cX4_near 211 = .ok (.iload_n 0, 1) := by decide +kernel
theorem dX4_near_212 : decode cX4_near 212 = .ok (.invokestatic 90, 3) := by decide +kernel
theorem dX4_near_215 : decode cX4_near 215 = .ok (.lor, 1) := by decide +kernel
theorem dX4_near_216 : decode cX4_near 216 = .ok (.invokestatic 97, 3) := by decide +kernel
theorem dX4_near_219 : decode cX4_near 219 = .ok (.lreturn, 1) := by decide +kernel
theorem dX4_near_220 : decode cX4_near 220 = .ok (.lconst 1, 1) := by decide +kernel
theorem dX4_near_221 : decode cX4_near 221 = .ok (.iload 7, 2) := by decide +kernel
theorem dX4_near_223 : decode cX4_near 223 = .ok (.iconst 1, 1) := by decide +kernel
theorem dX4_near_224 : decode cX4_near 224 = .ok (.isub, 1) := by decide +kernel
theorem dX4_near_225 : decode cX4_near 225 = .ok (.lshl, 1) := by decide +kernel
theorem dX4_near_226 : decode cX4_near 226 = .ok (.lstore 12, 2) := by decide +kernel
theorem dX4_near_228 : decode cX4_near 228 = .ok (.lload 10, 2) := by decide +kernel
theorem dX4_near_230 : decode cX4_near 230 = .ok (.lload 12, 2) := by decide +kernel
theorem dX4_near_232 : decode cX4_near 232 = .ok (.lcmp, 1) := by decide +kernel
theorem dX4_near_233 : decode cX4_near 233 = .ok (.ifCond .ge 13, 3) := by decide +kernel
theorem dX4_near_236 : decode cX4_near 236 = .ok (.iload_n 0, 1) := by decide +kernel
theorem dX4_near_237 : decode cX4_near 237 = .ok (.lload 5, 2) := by decide +kernel
theorem dX4_near_239 : decode cX4_near 239 = .ok (.lload 10, 2) := by decide +kernel
theorem dX4_near_241 : decode cX4_near 241 = .ok (.lor, 1) := by decide +kernel
theorem dX4_near_242 : decode cX4_near 242 = .ok (.invokestatic 97, 3) := by decide +kernel
theorem dX4_near_245 : decode cX4_near 245 = .ok (.lreturn, 1) := by decide +kernel
theorem dX4_near_246 : decode cX4_near 246 = .ok (.iload_n 0, 1) := by decide +kernel
theorem dX4_near_247 : decode cX4_near 247 = .ok (.lload 5, 2) := by decide +kernel
theorem dX4_near_249 : decode cX4_near 249 = .ok (.iload 9, 2) := by decide +kernel
theorem dX4_near_251 : decode cX4_near 251 = .ok (.iload 8, 2) := by decide +kernel
theorem dX4_near_253 : decode cX4_near 253 = .ok (.isub, 1) := by decide +kernel
theorem dX4_near_254 : decode cX4_near 254 = .ok (.iconst 1, 1) := by decide +kernel
theorem dX4_near_255 : decode cX4_near 255 = .ok (.iadd, 1) := by decide +kernel
theorem dX4_near_256 : decode cX4_near 256 = .ok (.i2l, 1) := by decide +kernel
theorem dX4_near_257 : decode cX4_near 257 = .ok (.iload 7, 2) := by decide +kernel
theorem dX4_near_259 : decode cX4_near 259 = .ok (.iconst 1, 1) := by decide +kernel
theorem dX4_near_260 : decode cX4_near 260 = .ok (.isub, 1) := by decide +kernel
theorem dX4_near_261 : decode cX4_near 261 = .ok (.lshl, 1) := by decide +kernel
theorem dX4_near_262 : decode cX4_near 262 = .ok (.lor, 1) := by decide +kernel
theorem dX4_near_263 : decode cX4_near 263 = .ok (.lload 10, 2) := by decide +kernel
theorem dX4_near_265 : decode cX4_near 265 = .ok (.lload 12, 2) := by decide +kernel
theorem dX4_near_267 : decode cX4_near 267 = .ok (.lsub, 1) := by decide +kernel
theorem dX4_near_268 : decode cX4_near 268 = .ok (.lor, 1) := by decide +kernel
theorem dX4_near_269 : decode cX4_near 269 = .ok (.invokestatic 97, 3) := by decide +kernel
theorem dX4_near_272 : decode cX4_near 272 = .ok (.lreturn, 1) := by decide +kernel
set_option maxRecDepth 20000 in
theorem ggX4_held_X4_bitsOf : GoodIn wsX4_held wsX4_bitsOf := goodIn_r _ [6] (by decide +kernel) (by decide +kernel)
set_option maxRecDepth 20000 in
theorem gX4_held_X4_bitsOf : GoodIn wsX4_held (va_wsS RX4 127 yX4_bitsOf wsX4_bitsOf) := goodIn_app (goodIn_of _ (by decide +kernel)) ggX4_held_X4_bitsOf
theorem dX4_held_0 : decode cX4_held 0 = .ok (.iload_n 0, 1) := by decide +kernel
theorem dX4_held_1 : decode cX4_held 1 = .ok (.ifCond .ne 9, 3) := by decide +kernel
theorem dX4_held_4 : decode cX4_held 4 = .ok (.ldc2_w 131, 3) := by decide +kernel
theorem dX4_held_7 : decode cX4_held 7 = .ok (.goto 6, 3) := by decide +kernel
theorem dX4_held_10 : decode cX4_held 10 = .ok (.ldc2_w 133, 3) := by decide +kernel
theorem dX4_held_13 : decode cX4_held 13 = .ok (.lstore 5, 2) := by decide +kernel
theorem dX4_held_15 : decode cX4_held 15 = .ok (.iload 4, 2) := by decide +kernel
theorem dX4_held_17 : decode cX4_held 17 = .ok (.ifCond .le 19, 3) := by decide +kernel
theorem dX4_held_20 : decode cX4_held 20 = .ok (.lload_n 2, 1) := by decide +kernel
theorem dX4_held_21 : decode cX4_held 21 = .ok (.invokestatic 127, 3) := by decide +kernel
theorem dX4_held_24 : decode cX4_held 24 = .ok (.iload 4, 2) := by decide +kernel
theorem dX4_held_26 : decode cX4_held 26 = .ok (.iadd, 1) := by decide +kernel
theorem dX4_held_27 : decode cX4_held 27 = .ok (.bipush 63, 2) := by decide +kernel
theorem dX4_held_29 : decode cX4_held 29 = .ok (.if_icmp .le 7, 3) := by decide +kernel
theorem dX4_held_32 : decode cX4_held 32 = .ok (.iconst 1, 1) := by decide +kernel
theorem dX4_held_33 : decode cX4_held 33 = .ok (.goto 4, 3) := by decide +kernel
theorem dX4_held_36 : decode cX4_held 36 = .ok (.iconst 0, 1) := by decide +kernel
theorem dX4_held_37 : decode cX4_held 37 = .ok (.istore 7, 2) := by decide +kernel
theorem dX4_held_39 : decode cX4_held 39 = .ok (.iload 7, 2) := by decide +kernel
theorem dX4_held_41 : decode cX4_held 41 = .ok (.ifCond .eq 8, 3) := by decide +kernel
theorem dX4_held_44 : decode cX4_held 44 = .ok (.lload 5, 2) := by decide +kernel
theorem dX4_held_46 : decode cX4_held 46 = .ok (.goto 31, 3) := by decide +kernel
theorem dX4_held_49 : decode cX4_held 49 = .ok (.iload 4, 2) := by decide +kernel
theorem dX4_held_51 : decode cX4_held 51 = .ok (.ifCond .lt 10, 3) := by decide +kernel
theorem dX4_held_54 : decode cX4_held 54 = .ok (.lload_n 2, 1) := by decide +kernel
theorem dX4_held_55 : decode cX4_held 55 = .ok (.iload 4, 2) := by decide +kernel
theorem dX4_held_57 : decode cX4_held 57 = .ok (.lshl, 1) := by decide +kernel
theorem dX4_held_58 : decode cX4_held 58 = .ok (.goto 19, 3) := by decide +kernel
theorem dX4_held_61 : decode cX4_held 61 = .ok (.iload 4, 2) := by decide +kernel
theorem dX4_held_63 : decode cX4_held 63 = .ok (.bipush (-63), 2) := by decide +kernel
theorem dX4_held_65 : decode cX4_held 65 = .ok (.if_icmp .ge 7, 3) := by decide +kernel
theorem dX4_held_68 : decode cX4_held 68 = .ok (.lconst 0, 1) := by decide +kernel
theorem dX4_held_69 : decode cX4_held 69 = .ok (.goto 8, 3) := by decide +kernel
theorem dX4_held_72 : decode cX4_held 72 = .ok (.lload_n 2, 1) := by decide +kernel
theorem dX4_held_73 : decode cX4_held 73 = .ok (.iload 4, 2) := by decide +kernel
theorem dX4_held_75 : decode cX4_held 75 = .ok (.ineg, 1) := by decide +kernel
theorem dX4_held_76 : decode cX4_held 76 = .ok (.lshr, 1) := by decide +kernel
theorem dX4_held_77 : decode cX4_held 77 = .ok (.lstore 8, 2) := by decide +kernel
theorem dX4_held_79 : decode cX4_held 79 = .ok (.iload_n 1, 1) := by decide +kernel
theorem dX4_held_80 : decode cX4_held 80 = .ok (.ifCond .eq 28, 3) := by decide +kernel
theorem dX4_held_83 : decode cX4_held 83 = .ok (.iload 7, 2) := by decide +kernel
theorem dX4_held_85 : decode cX4_held 85 = .ok (.ifCond .ne 11, 3) := by decide +kernel
theorem dX4_held_88 : decode cX4_held 88 = .ok (.lload 8, 2) := by decide +kernel
theorem dX4_held_90 : decode cX4_held 90 = .ok (.lload 5, 2) := by decide +kernel
theorem dX4_held_92 : decode cX4_held 92 = .ok (.lcmp, 1) := by decide +kernel
theorem dX4_held_93 : decode cX4_held 93 = .ok (.ifCond .le 11, 3) := by decide +kernel
theorem dX4_held_96 : decode cX4_held 96 = .ok (.lload 5, 2) := by decide +kernel
theorem dX4_held_98 : decode cX4_held 98 = .ok (.lneg, 1) := by decide +kernel
theorem dX4_held_99 : decode cX4_held 99 = .ok (.lconst 1, 1) := by decide +kernel
theorem dX4_held_100 : decode cX4_held 100 = .ok (.lsub, 1) := by decide +kernel
theorem dX4_held_101 : decode cX4_held 101 = .ok (.goto 6, 3) := by decide +kernel
theorem dX4_held_104 : decode cX4_held 104 = .ok (.lload 8, 2) := by decide +kernel
theorem dX4_held_106 : decode cX4_held 106 = .ok (.lneg, 1) := by decide +kernel
theorem dX4_held_107 : decode cX4_held 107 = .ok (.lreturn, 1) := by decide +kernel
theorem dX4_held_108 : decode cX4_held 108 = .ok (.lload 8, 2) := by decide +kernel
theorem dX4_held_110 : decode cX4_held 110 = .ok (.lload 5, 2) := by decide +kernel
theorem dX4_held_112 : decode cX4_held 112 = .ok (.lcmp, 1) := by decide +kernel
theorem dX4_held_113 : decode cX4_held 113 = .ok (.ifCond .le 8, 3) := by decide +kernel
theorem dX4_held_116 : decode cX4_held 116 = .ok (.lload 5, 2) := by decide +kernel
theorem dX4_held_118 : decode cX4_held 118 = .ok (.goto 5, 3) := by decide +kernel
theorem dX4_held_121 : decode cX4_held 121 = .ok (.lload 8, 2) := by decide +kernel
theorem dX4_held_123 : decode cX4_held 123 = .ok (.lreturn, 1) := by decide +kernel
set_option maxRecDepth 20000 in
theorem ggX4_castTo_X4_near : GoodIn wsX4_castTo wsX4_near := goodIn_r _ [4, 5, 6, 3, 7, 8, 9, 10, 11, 12, 13, 14, 15, 16, 17, 18, 19, 20, 21, 22, 23] (by decide +kernel) (by decide +kernel)
set_option maxRecDepth 20000 in
theorem gX4_castTo_X4_near : GoodIn wsX4_castTo (va_wsS RX4 135 yX4_near wsX4_near) := goodIn_app (goodIn_of _ (by decide +kernel)) ggX4_castTo_X4_near
set_option maxRecDepth 20000 in
theorem ggX4_castTo_X4_size : GoodIn wsX4_castTo wsX4_size := goodIn_r _ [26, 27, 28, 29, 3, 30, 31, 5, 6, 7, 8, 9] (by decide +kernel) (by decide +kernel)
set_option maxRecDepth 20000 in
theorem gX4_castTo_X4_size : GoodIn wsX4_castTo (va_wsS RX4 87 yX4_size wsX4_size) := goodIn_app (goodIn_of _ (by decide +kernel)) ggX4_castTo_X4_size
set_option maxRecDepth 20000 in
theorem ggX4_castTo_X4_below : GoodIn wsX4_castTo wsX4_below := goodIn_r _ [34, 5, 6, 3, 7, 8, 9] (by decide +kernel) (by decide +kernel)
set_option maxRecDepth 20000 in
theorem gX4_castTo_X4_below : GoodIn wsX4_castTo (va_wsS RX4 93 yX4_below wsX4_below) := goodIn_app (goodIn_of _ (by decide +kernel)) ggX4_castTo_X4_below
set_option maxRecDepth 20000 in
theorem ggX4_castTo_X4_fractionBits : GoodIn wsX4_castTo wsX4_fractionBits := goodIn_r _ [15] (by decide +kernel) (by decide +kernel)
set_option maxRecDepth 20000 in
theorem gX4_castTo_X4_fractionBits : GoodIn wsX4_castTo (va_wsS RX4 103 yX4_fractionBits wsX4_fractionBits) := goodIn_app (goodIn_of _ (by decide +kernel)) ggX4_castTo_X4_fractionBits
set_option maxRecDepth 20000 in
theorem ggX4_castTo_X4_endless : GoodIn wsX4_castTo wsX4_endless := goodIn_r _ [21, 22, 23] (by decide +kernel) (by decide +kernel)
set_option maxRecDepth 20000 in
theorem gX4_castTo_X4_endless : GoodIn wsX4_castTo (va_wsS RX4 90 yX4_endless wsX4_endless) := goodIn_app (goodIn_of _ (by decide +kernel)) ggX4_castTo_X4_endless
set_option maxRecDepth 20000 in
theorem ggX4_castTo_X4_signBit : GoodIn wsX4_castTo wsX4_signBit := goodIn_r _ [7, 8, 9] (by decide +kernel) (by decide +kernel)
set_option maxRecDepth 20000 in
theorem gX4_castTo_X4_signBit : GoodIn wsX4_castTo (va_wsS RX4 81 yX4_signBit wsX4_signBit) := goodIn_app (goodIn_of _ (by decide +kernel)) ggX4_castTo_X4_signBit
set_option maxRecDepth 20000 in
theorem ggX4_castTo_X4_asCode : GoodIn wsX4_castTo wsX4_asCode := goodIn_r _ [12] (by decide +kernel) (by decide +kernel)
set_option maxRecDepth 20000 in
theorem gX4_castTo_X4_asCode : GoodIn wsX4_castTo (va_wsS RX4 97 yX4_asCode wsX4_asCode) := goodIn_app (goodIn_of _ (by decide +kernel)) ggX4_castTo_X4_asCode
set_option maxRecDepth 20000 in
theorem ggX4_castTo_X4_held : GoodIn wsX4_castTo wsX4_held := goodIn_r _ [37, 38, 39, 16, 17, 3, 18] (by decide +kernel) (by decide +kernel)
set_option maxRecDepth 20000 in
theorem gX4_castTo_X4_held : GoodIn wsX4_castTo (va_wsS RX4 139 yX4_held wsX4_held) := goodIn_app (goodIn_of _ (by decide +kernel)) ggX4_castTo_X4_held
theorem dX4_castTo_0 : decode cX4_castTo 0 = .ok (.iload_n 0, 1) := by decide +kernel
theorem dX4_castTo_1 : decode cX4_castTo 1 = .ok (.iload_n 1, 1) := by decide +kernel
theorem dX4_castTo_2 : decode cX4_castTo 2 = .ok (.if_icmp .eq 12, 3) := by decide +kernel
theorem dX4_castTo_5 : decode cX4_castTo 5 = .ok (.iload_n 0, 1) := by decide +kernel
theorem dX4_castTo_6 : decode cX4_castTo 6 = .ok (.ifCond .ne 10, 3) := by decide +kernel
theorem dX4_castTo_9 : decode cX4_castTo 9 = .ok (.iload_n 1, 1) := by decide +kernel
theorem dX4_castTo_10 : decode cX4_castTo 10 = .ok (.iconst 1, 1) := by decide +kernel
theorem dX4_castTo_11 : decode cX4_castTo 11 = .ok (.if_icmp .ne 5, 3) := by decide +kernel
theorem dX4_castTo_14 : decode cX4_castTo 14 = .ok (.lload_n 2, 1) := by decide +kernel
theorem dX4_castTo_15 : decode cX4_castTo 15 = .ok (.lreturn, 1) := by decide +kernel
theorem dX4_castTo_16 : decode cX4_castTo 16 = .ok (.iload_n 0, 1) := by decide +kernel
theorem dX4_castTo_17 : decode cX4_castTo 17 = .ok (.iconst 2, 1) := by decide +kernel
theorem dX4_castTo_18 : decode cX4_castTo 18 = .ok (.if_icmp .ge 11, 3) := by decide +kernel
theorem dX4_castTo_21 : decode cX4_castTo 21 = .ok (.iload_n 1, 1) := by decide +kernel
theorem dX4_castTo_22 : decode cX4_castTo 22 = .ok (.ifCond .ne 7, 3) := by decide +kernel
theorem dX4_castTo_25 : decode cX4_castTo 25 = .ok (.lload_n 2, 1) := by decide +kernel
theorem dX4_castTo_26 : decode cX4_castTo 26 = .ok (.l2i, 1) := by decide +kernel
theorem dX4_castTo_27 : decode cX4_castTo 27 = .ok (.i2l, 1) := by decide +kernel
theorem dX4_castTo_28 : decode cX4_castTo 28 = .ok (.lreturn, 1) := by decide +kernel
theorem dX4_castTo_29 : decode cX4_castTo 29 = .ok (.iload_n 0, 1) := by decide +kernel
theorem dX4_castTo_30 : decode cX4_castTo 30 = .ok (.iconst 2, 1) := by decide +kernel
theorem dX4_castTo_31 : decode cX4_castTo 31 = .ok (.if_icmp .ge 32, 3) := by decide +kernel
theorem dX4_castTo_34 : decode cX4_castTo 34 = .ok (.iload_n 1, 1) := by decide +kernel
theorem dX4_castTo_35 : decode cX4_castTo 35 = .ok (.lload_n 2, 1) := by decide +kernel
theorem dX4_castTo_36 : decode cX4_castTo 36 = .ok (.lconst 0, 1) := by decide +kernel
theorem dX4_castTo_37 : decode cX4_castTo 37 = .ok (.lcmp, 1) := by decide +kernel
theorem dX4_castTo_38 : decode cX4_castTo 38 = .ok (.ifCond .ge 7, 3) := by decide +kernel
theorem dX4_castTo_41 : decode cX4_castTo 41 = .ok (.iconst 1, 1) := by decide +kernel
theorem dX4_castTo_42 : decode cX4_castTo 42 = .ok (.goto 4, 3) := by decide +kernel
theorem dX4_castTo_45 : decode cX4_castTo 45 = .ok (.iconst 0, 1) := by decide +kernel
theorem dX4_castTo_46 : decode cX4_castTo 46 = .ok (.lload_n 2, 1) := by decide +kernel
theorem dX4_castTo_47 : decode cX4_castTo 47 = .ok (.lconst 0, 1) := by decide +kernel
theorem dX4_castTo_48 : decode cX4_castTo 48 = .ok (.lcmp, 1) := by decide +kernel
theorem dX4_castTo_49 : decode cX4_castTo 49 = .ok (.ifCond .ge 8, 3) := by decide +kernel
theorem dX4_castTo_52 : decode cX4_castTo 52 = .ok (.lload_n 2, 1) := by decide +kernel
theorem dX4_castTo_53 : decode cX4_castTo 53 = .ok (.lneg, 1) := by decide +kernel
theorem dX4_castTo_54 : decode cX4_castTo 54 = .ok (.goto 4, 3) := by decide +kernel
theorem dX4_castTo_57 : decode cX4_castTo 57 = .ok (.lload_n 2, 1) := by decide +kernel
theorem dX4_castTo_58 : decode cX4_castTo 58 = .ok (.iconst 0, 1) := by decide +kernel
theorem dX4_castTo_59 : decode cX4_castTo 59 = .ok (.invokestatic 135, 3) := by decide +kernel
theorem dX4_castTo_62 : decode cX4_castTo 62 = .ok (.lreturn, 1) := by decide +kernel
theorem dX4_castTo_63 : decode cX4_castTo 63 = .ok (.iload_n 0, 1) := by decide +kernel
theorem dX4_castTo_64 : decode cX4_castTo 64 = .ok (.lload_n 2, 1) := by decide +kernel
theorem dX4_castTo_65 : decode cX4_castTo 65 = .ok (.invokestatic 87, 3) := by decide +kernel
theorem dX4_castTo_68 : decode cX4_castTo 68 = .ok (.lstore 4, 2) := by decide +kernel
theorem dX4_castTo_70 : decode cX4_castTo 70 = .ok (.iload_n 0, 1) := by decide +kernel
theorem dX4_castTo_71 : decode cX4_castTo 71 = .ok (.lload_n 2, 1) := by decide +kernel
theorem dX4_castTo_72 : decode cX4_castTo 72 = .ok (.invokestatic 93, 3) := by decide +kernel
theorem dX4_castTo_75 : decode cX4_castTo 75 = .ok (.istore 6, 2) := by decide +kernel
theorem dX4_castTo_77 : decode cX4_castTo 77 = .ok (.iload_n 0, 1) := by decide +kernel
theorem dX4_castTo_78 : decode cX4_castTo 78 = .ok (.invokestatic 103, 3) := by decide +kernel
theorem dX4_castTo_81 : decode cX4_castTo 81 = .ok (.istore 7, 2) := by decide +kernel
theorem dX4_castTo_83 : decode cX4_castTo 83 = .ok (.iload_n 0, 1) := by decide +kernel
theorem dX4_castTo_84 : decode cX4_castTo 84 = .ok (.iconst 2, 1) := by decide +kernel
theorem dX4_castTo_85 : decode cX4_castTo 85 = .ok (.if_icmp .ne 9, 3) := by decide +kernel
theorem dX4_castTo_88 : decode cX4_castTo 88 = .ok (.sipush (-149), 3) := by decide +kernel
theorem dX4_castTo_91 : decode cX4_castTo 91 = .ok (.goto 6, 3) := by decide +kernel
theorem dX4_castTo_94 : decode cX4_castTo 94 = .ok (.sipush (-1074), 3) := by decide +kernel
theorem dX4_castTo_97 : decode cX4_castTo 97 = .ok (.istore 8, 2) := by decide +kernel
theorem dX4_castTo_99 : decode cX4_castTo 99 = .ok (.lload 4, 2) := by decide +kernel
theorem dX4_castTo_101 : decode cX4_castTo 101 = .ok (.iload 7, 2) := by decide +kernel
theorem dX4_castTo_103 : decode cX4_castTo 103 = .ok (.lshr, 1) := by decide +kernel
theorem dX4_castTo_104 : decode cX4_castTo 104 = .ok (.l2i, 1) := by decide +kernel
theorem dX4_castTo_105 : decode cX4_castTo 105 = .ok (.istore 9, 2) := by decide +kernel
theorem dX4_castTo_107 : decode cX4_castTo 107 = .ok (.lload 4, 2) := by decide +kernel
theorem dX4_castTo_109 : decode cX4_castTo 109 = .ok (.iload_n 0, 1) := by decide +kernel
theorem dX4_castTo_110 : decode cX4_castTo 110 = .ok (.invokestatic 90, 3) := by decide +kernel
theorem dX4_castTo_113 : decode cX4_castTo 113 = .ok (.lcmp, 1) := by decide +kernel
theorem dX4_castTo_114 : decode cX4_castTo 114 = .ok (.ifCond .ne 43, 3) := by decide +kernel
theorem dX4_castTo_117 : decode cX4_castTo 117 = .ok (.iload_n 1, 1) := by decide +kernel
theorem dX4_castTo_118 : decode cX4_castTo 118 = .ok (.iconst 1, 1) := by decide +kernel
theorem dX4_castTo_119 : decode cX4_castTo 119 = .ok (.if_icmp .le 28, 3) := by decide +kernel
theorem dX4_castTo_122 : decode cX4_castTo 122 = .ok (.iload_n 1, 1) := by decide +kernel
theorem dX4_castTo_123 : decode cX4_castTo 123 = .ok (.iload_n 1, 1) := by decide +kernel
theorem dX4_castTo_124 : decode cX4_castTo 124 = .ok (.invokestatic 90, 3) := by decide +kernel
theorem dX4_castTo_127 : decode cX4_castTo 127 = .ok (.iload 6, 2) := by decide +kernel
theorem dX4_castTo_129 : decode cX4_castTo 129 = .ok (.ifCond .eq 10, 3) := by decide +kernel
theorem dX4_castTo_132 : decode cX4_castTo 132 = .ok (.iload_n 1, 1) := by decide +kernel
theorem dX4_castTo_133 : decode cX4_castTo 133 = .ok (.invokestatic 81, 3) := by decide +kernel
theorem dX4_castTo_136 : decode cX4_castTo 136 = .ok (.goto 4, 3) := by decide +kernel
theorem dX4_castTo_139 : decode cX4_castTo 139 = .ok (.lconst 0, 1) := by decide +kernel
theorem dX4_castTo_140 : decode cX4_castTo 140 = .ok (.lor, 1) := by decide +kernel
theorem dX4_castTo_141 : decode cX4_castTo 141 = .ok (.invokestatic 97, 3) := by decide +kernel
theorem dX4_castTo_144 : decode cX4_castTo 144 = .ok (.goto 12, 3) := by decide +kernel
theorem dX4_castTo_147 : decode cX4_castTo 147 = .ok (.iload_n 1, 1) := by decide +kernel
theorem dX4_castTo_148 : decode cX4_castTo 148 = .ok (.iload 6, 2) := by decide +kernel
theorem dX4_castTo_150 : decode cX4_castTo 150 = .ok (.lconst 1, 1) := by decide +kernel
theorem dX4_castTo_151 : decode cX4_castTo 151 = .ok (.bipush 100, 2) := by decide +kernel
theorem dX4_castTo_153 : decode cX4_castTo 153 = .ok (.invokestatic 139, 3) := by decide +kernel
theorem dX4_castTo_156 : decode cX4_castTo 156 = .ok (.lreturn, 1) := by decide +kernel
theorem dX4_castTo_157 : decode cX4_castTo 157 = .ok (.iload 9, 2) := by decide +kernel
theorem dX4_castTo_159 : decode cX4_castTo 159 = .ok (.ifCond .ne 8, 3) := by decide +kernel
theorem dX4_castTo_162 : decode cX4_castTo 162 = .ok (.lload 4, 2) := by decide +kernel
theorem dX4_castTo_164 : decode cX4_castTo 164 = .ok (.goto 17, 3) := by decide +kernel
theorem dX4_castTo_167 : decode cX4_castTo 167 = .ok (.lload 4, 2) := by decide +kernel
theorem dX4_castTo_169 : decode cX4_castTo 169 = .ok (.iload 9, 2) := by decide +kernel
theorem dX4_castTo_171 : decode cX4_castTo 171 = .ok (.i2l, 1) := by decide +kernel
theorem dX4_castTo_172 : decode cX4_castTo 172 = .ok (.iload 7, 2) := by decide +kernel
theorem dX4_castTo_174 : decode cX4_castTo 174 = .ok (.lshl, 1) := by decide +kernel
theorem dX4_castTo_175 : decode cX4_castTo 175 = .ok (.lsub, 1) := by decide +kernel
theorem dX4_castTo_176 : decode cX4_castTo 176 = .ok (.lconst 1, 1) := by decide +kernel
theorem dX4_castTo_177 : decode cX4_castTo 177 = .ok (.iload 7, 2) := by decide +kernel
theorem dX4_castTo_179 : decode cX4_castTo 179 = .ok (.lshl, 1) := by decide +kernel
theorem dX4_castTo_180 : decode cX4_castTo 180 = .ok (.ladd, 1) := by decide +kernel
theorem dX4_castTo_181 : decode cX4_castTo 181 = .ok (.lstore 10, 2) := by decide +kernel
theorem dX4_castTo_183 : decode cX4_castTo 183 = .ok (.iload 9, 2) := by decide +kernel
theorem dX4_castTo_185 : decode cX4_castTo 185 = .ok (.ifCond .ne 8, 3) := by decide +kernel
theorem dX4_castTo_188 : decode cX4_castTo 188 = .ok (.iload 8, 2) := by decide +kernel
theorem dX4_castTo_190 : decode cX4_castTo 190 = .ok (.goto 10, 3) := by decide +kernel
theorem dX4_castTo_193 : decode cX4_castTo 193 = .ok (.iload 8, 2) := by decide +kernel
theorem dX4_castTo_195 : decode cX4_castTo 195 = .ok (.iload 9, 2) := by decide +kernel
theorem dX4_castTo_197 : decode cX4_castTo 197 = .ok (.iadd, 1) := by decide +kernel
theorem dX4_castTo_198 : decode cX4_castTo 198 = .ok (.iconst 1, 1) := by decide +kernel
theorem dX4_castTo_199 : decode cX4_castTo 199 = .ok (.isub, 1) := by decide +kernel
theorem dX4_castTo_200 : decode cX4_castTo 200 = .ok (.istore 12, 2) := by decide +kernel
theorem dX4_castTo_202 : decode cX4_castTo 202 = .ok (.iload_n 1, 1) := by decide +kernel
theorem dX4_castTo_203 : decode cX4_castTo 203 = .ok (.iconst 1, 1) := by decide +kernel
theorem dX4_castTo_204 : decode cX4_castTo 204 = .ok (.if_icmp .le 16, 3) := by decide +kernel
theorem dX4_castTo_207 : decode cX4_castTo 207 = .ok (.iload_n 1, 1) := by decide +kernel
theorem dX4_castTo_208 : decode cX4_castTo 208 = .ok (.iload 6, 2) := by decide +kernel
theorem dX4_castTo_210 : decode cX4_castTo 210 = .ok (.lload 10, 2) := by decide +kernel
theorem dX4_castTo_212 : decode cX4_castTo 212 = .ok (.iload 12, 2) := by decide +kernel
theorem dX4_castTo_214 : decode cX4_castTo 214 = .ok (.invokestatic 135, 3) := by decide +kernel
theorem dX4_castTo_217 : decode cX4_castTo 217 = .ok (.goto 13, 3) := by decide +kernel
theorem dX4_castTo_220 : decode cX4_castTo 220 = .ok (.iload_n 1, 1) := by decide +kernel
theorem dX4_castTo_221 : decode cX4_castTo 221 = .ok (.iload 6, 2) := by decide +kernel
theorem dX4_castTo_223 : decode cX4_castTo 223 = .ok (.lload 10, 2) := by decide +kernel
theorem dX4_castTo_225 : decode cX4_castTo 225 = .ok (.iload 12, 2) := by decide +kernel
theorem dX4_castTo_227 : decode cX4_castTo 227 = .ok (.invokestatic 139, 3) := by decide +kernel
theorem dX4_castTo_230 : decode cX4_castTo 230 = .ok (.lreturn, 1) := by decide +kernel
theorem dX4_refuses_0 : decode cX4_refuses 0 = .ok (.aload_n 0, 1) := by decide +kernel
theorem dX4_refuses_1 : decode cX4_refuses 1 = .ok (.iload_n 1, 1) := by decide +kernel
theorem dX4_refuses_2 : decode cX4_refuses 2 = .ok (.ifCond .eq 7, 3) := by decide +kernel
theorem dX4_refuses_5 : decode cX4_refuses 5 = .ok (.iconst 1, 1) := by decide +kernel
theorem dX4_refuses_6 : decode cX4_refuses 6 = .ok (.goto 12, 3) := by decide +kernel
theorem dX4_refuses_9 : decode cX4_refuses 9 = .ok (.iload_n 2, 1) := by decide +kernel
theorem dX4_refuses_10 : decode cX4_refuses 10 = .ok (.ifCond .eq 7, 3) := by decide +kernel
theorem dX4_refuses_13 : decode cX4_refuses 13 = .ok (.iconst 2, 1) := by decide +kernel
theorem dX4_refuses_14 : decode cX4_refuses 14 = .ok (.goto 4, 3) := by decide +kernel
