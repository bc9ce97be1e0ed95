theorem dX1_refit_35 : decode cX1_refit 35 = .ok (.invokevirtual 59, 3) := by decide +kernel
theorem dX1_refit_38 : decode cX1_refit 38 = .ok (.invokevirtual 78, 3) := by decide +kernel
theorem dX1_refit_41 : decode cX1_refit 41 = .ok (.lreturn, 1) := by decide +kernel
theorem dX1_refit_42 : decode cX1_refit 42 = .ok (.lconst 1, 1) := by decide +kernel
theorem dX1_refit_43 : decode cX1_refit 43 = .ok (.aload_n 0, 1) := by decide +kernel
theorem dX1_refit_44 : decode cX1_refit 44 = .ok (.getfield 41, 3) := by decide +kernel
theorem dX1_refit_47 : decode cX1_refit 47 = .ok (.lshl, 1) := by decide +kernel
theorem dX1_refit_48 : decode cX1_refit 48 = .ok (.lstore 6, 2) := by decide +kernel
theorem dX1_refit_50 : decode cX1_refit 50 = .ok (.lload 4, 2) := by decide +kernel
theorem dX1_refit_52 : decode cX1_refit 52 = .ok (.aload_n 0, 1) := by decide +kernel
theorem dX1_refit_53 : decode cX1_refit 53 = .ok (.getfield 41, 3) := by decide +kernel
theorem dX1_refit_56 : decode cX1_refit 56 = .ok (.lshr, 1) := by decide +kernel
theorem dX1_refit_57 : decode cX1_refit 57 = .ok (.l2i, 1) := by decide +kernel
theorem dX1_refit_58 : decode cX1_refit 58 = .ok (.istore 8, 2) := by decide +kernel
theorem dX1_refit_60 : decode cX1_refit 60 = .ok (.iload 8, 2) := by decide +kernel
theorem dX1_refit_62 : decode cX1_refit 62 = .ok (.ifCond .ne 8, 3) := by decide +kernel
theorem dX1_refit_65 : decode cX1_refit 65 = .ok (.lload 4, 2) := by decide +kernel
theorem dX1_refit_67 : decode cX1_refit 67 = .ok (.goto 13, 3) := by decide +kernel
theorem dX1_refit_70 : decode cX1_refit 70 = .ok (.lload 4, 2) := by decide +kernel
theorem dX1_refit_72 : decode cX1_refit 72 = .ok (.lload 6, 2) := by decide +kernel
theorem dX1_refit_74 : decode cX1_refit 74 = .ok (.lconst 1, 1) := by decide +kernel
theorem dX1_refit_75 : decode cX1_refit 75 = .ok (.lsub, 1) := by decide +kernel
theorem dX1_refit_76 : decode cX1_refit 76 = .ok (.land, 1) := by decide +kernel
theorem dX1_refit_77 : decode cX1_refit 77 = .ok (.lload 6, 2) := by decide +kernel
theorem dX1_refit_79 : decode cX1_refit 79 = .ok (.lor, 1) := by decide +kernel
theorem dX1_refit_80 : decode cX1_refit 80 = .ok (.lstore 9, 2) := by decide +kernel
theorem dX1_refit_82 : decode cX1_refit 82 = .ok (.iload 8, 2) := by decide +kernel
theorem dX1_refit_84 : decode cX1_refit 84 = .ok (.iconst 1, 1) := by decide +kernel
theorem dX1_refit_85 : decode cX1_refit 85 = .ok (.invokestatic 119, 3) := by decide +kernel
theorem dX1_refit_88 : decode cX1_refit 88 = .ok (.aload_n 0, 1) := by decide +kernel
theorem dX1_refit_89 : decode cX1_refit 89 = .ok (.getfield 44, 3) := by decide +kernel
theorem dX1_refit_92 : decode cX1_refit 92 = .ok (.isub, 1) := by decide +kernel
theorem dX1_refit_93 : decode cX1_refit 93 = .ok (.aload_n 0, 1) := by decide +kernel
theorem dX1_refit_94 : decode cX1_refit 94 = .ok (.getfield 41, 3) := by decide +kernel
theorem dX1_refit_97 : decode cX1_refit 97 = .ok (.isub, 1) := by decide +kernel
theorem dX1_refit_98 : decode cX1_refit 98 = .ok (.istore 11, 2) := by decide +kernel
theorem dX1_refit_100 : decode cX1_refit 100 = .ok (.aload_n 1, 1) := by decide +kernel
theorem dX1_refit_101 : decode cX1_refit 101 = .ok (.lload_n 2, 1) := by decide +kernel
theorem dX1_refit_102 : decode cX1_refit 102 = .ok (.aload_n 1, 1) := by decide +kernel
theorem dX1_refit_103 : decode cX1_refit 103 = .ok (.lload 9, 2) := by decide +kernel
theorem dX1_refit_105 : decode cX1_refit 105 = .ok (.iload 11, 2) := by decide +kernel
theorem dX1_refit_107 : decode cX1_refit 107 = .ok (.invokevirtual 115, 3) := by decide +kernel
theorem dX1_refit_110 : decode cX1_refit 110 = .ok (.invokevirtual 78, 3) := by decide +kernel
theorem dX1_refit_113 : decode cX1_refit 113 = .ok (.lreturn, 1) := by decide +kernel
set_option maxRecDepth 20000 in
theorem ggX1_rounded_X1_isOverHalf : GoodIn wsX1_rounded wsX1_isOverHalf := goodIn_r _ [14, 7] (by decide +kernel) (by decide +kernel)
set_option maxRecDepth 20000 in
theorem gX1_rounded_X1_isOverHalf : GoodIn wsX1_rounded (va_wsS RX1 125 yX1_isOverHalf wsX1_isOverHalf) := goodIn_app (goodIn_of _ (by decide +kernel)) ggX1_rounded_X1_isOverHalf
set_option maxRecDepth 20000 in
theorem ggX1_rounded_X1_infinite : GoodIn wsX1_rounded wsX1_infinite := goodIn_r _ [18, 19, 1, 2] (by decide +kernel) (by decide +kernel)
set_option maxRecDepth 20000 in
theorem gX1_rounded_X1_infinite : GoodIn wsX1_rounded (wsV RX1 59 RX1 yX1_infinite wsX1_infinite) := goodIn_app (goodIn_of _ (by decide +kernel)) ggX1_rounded_X1_infinite
theorem dX1_rounded_0 : decode cX1_rounded 0 = .ok (.lload_n 1, 1) := by decide +kernel
theorem dX1_rounded_1 : decode cX1_rounded 1 = .ok (.lstore 4, 2) := by decide +kernel
theorem dX1_rounded_3 : decode cX1_rounded 3 = .ok (.iload_n 3, 1) := by decide +kernel
theorem dX1_rounded_4 : decode cX1_rounded 4 = .ok (.bipush 63, 2) := by decide +kernel
theorem dX1_rounded_6 : decode cX1_rounded 6 = .ok (.iadd, 1) := by decide +kernel
theorem dX1_rounded_7 : decode cX1_rounded 7 = .ok (.istore 6, 2) := by decide +kernel
theorem dX1_rounded_9 : decode cX1_rounded 9 = .ok (.iconst 0, 1) := by decide +kernel
theorem dX1_rounded_10 : decode cX1_rounded 10 = .ok (.istore 7, 2) := by decide +kernel
theorem dX1_rounded_12 : decode cX1_rounded 12 = .ok (.iload 7, 2) := by decide +kernel
theorem dX1_rounded_14 : decode cX1_rounded 14 = .ok (.bipush 63, 2) := by decide +kernel
theorem dX1_rounded_16 : decode cX1_rounded 16 = .ok (.if_icmp .ge 25, 3) := by decide +kernel
theorem dX1_rounded_19 : decode cX1_rounded 19 = .ok (.lload 4, 2) := by decide +kernel
theorem dX1_rounded_21 : decode cX1_rounded 21 = .ok (.lconst 0, 1) := by decide +kernel
theorem dX1_rounded_22 : decode cX1_rounded 22 = .ok (.lcmp, 1) := by decide +kernel
theorem dX1_rounded_23 : decode cX1_rounded 23 = .ok (.ifCond .le 18, 3) := by decide +kernel
theorem dX1_rounded_26 : decode cX1_rounded 26 = .ok (.lload 4, 2) := by decide +kernel
theorem dX1_rounded_28 : decode cX1_rounded 28 = .ok (.iconst 1, 1) := by decide +kernel
theorem dX1_rounded_29 : decode cX1_rounded 29 = .ok (.lshl, 1) := by decide +kernel
theorem dX1_rounded_30 : decode cX1_rounded 30 = .ok (.lstore 4, 2) := by decide +kernel
theorem dX1_rounded_32 : decode cX1_rounded 32 = .ok (.iinc 6 (-1), 3) := by decide +kernel
theorem dX1_rounded_35 : decode cX1_rounded 35 = .ok (.iinc 7 1, 3) := by decide +kernel
theorem dX1_rounded_38 : decode cX1_rounded 38 = .ok (.goto (-26), 3) := by decide +kernel
theorem dX1_rounded_41 : decode cX1_rounded 41 = .ok (.iload 6, 2) := by decide +kernel
theorem dX1_rounded_43 : decode cX1_rounded 43 = .ok (.aload_n 0, 1) := by decide +kernel
theorem dX1_rounded_44 : decode cX1_rounded 44 = .ok (.getfield 44, 3) := by decide +kernel
theorem dX1_rounded_47 : decode cX1_rounded 47 = .ok (.iadd, 1) := by decide +kernel
theorem dX1_rounded_48 : decode cX1_rounded 48 = .ok (.istore 7, 2) := by decide +kernel
theorem dX1_rounded_50 : decode cX1_rounded 50 = .ok (.bipush 63, 2) := by decide +kernel
theorem dX1_rounded_52 : decode cX1_rounded 52 = .ok (.aload_n 0, 1) := by decide +kernel
theorem dX1_rounded_53 : decode cX1_rounded 53 = .ok (.getfield 41, 3) := by decide +kernel
theorem dX1_rounded_56 : decode cX1_rounded 56 = .ok (.isub, 1) := by decide +kernel
theorem dX1_rounded_57 : decode cX1_rounded 57 = .ok (.iconst 0, 1) := by decide +kernel
theorem dX1_rounded_58 : decode cX1_rounded 58 = .ok (.iconst 1, 1) := by decide +kernel
theorem dX1_rounded_59 : decode cX1_rounded 59 = .ok (.iload 7, 2) := by decide +kernel
theorem dX1_rounded_61 : decode cX1_rounded 61 = .ok (.isub, 1) := by decide +kernel
theorem dX1_rounded_62 : decode cX1_rounded 62 = .ok (.invokestatic 119, 3) := by decide +kernel
theorem dX1_rounded_65 : decode cX1_rounded 65 = .ok (.iadd, 1) := by decide +kernel
theorem dX1_rounded_66 : decode cX1_rounded 66 = .ok (.istore 8, 2) := by decide +kernel
theorem dX1_rounded_68 : decode cX1_rounded 68 = .ok (.iload 8, 2) := by decide +kernel
theorem dX1_rounded_70 : decode cX1_rounded 70 = .ok (.bipush 64, 2) := by decide +kernel
theorem dX1_rounded_72 : decode cX1_rounded 72 = .ok (.if_icmp .le 5, 3) := by decide +kernel
theorem dX1_rounded_75 : decode cX1_rounded 75 = .ok (.lconst 0, 1) := by decide +kernel
theorem dX1_rounded_76 : decode cX1_rounded 76 = .ok (.lreturn, 1) := by decide +kernel
theorem dX1_rounded_77 : decode cX1_rounded 77 = .ok (.iload 8, 2) := by decide +kernel
theorem dX1_rounded_79 : decode cX1_rounded 79 = .ok (.bipush 64, 2) := by decide +kernel
theorem dX1_rounded_81 : decode cX1_rounded 81 = .ok (.if_icmp .ne 7, 3) := by decide +kernel
theorem dX1_rounded_84 : decode cX1_rounded 84 = .ok (.lconst 0, 1) := by decide +kernel
theorem dX1_rounded_85 : decode cX1_rounded 85 = .ok (.goto 8, 3) := by decide +kernel
theorem dX1_rounded_88 : decode cX1_rounded 88 = .ok (.lload 4, 2) := by decide +kernel
theorem dX1_rounded_90 : decode cX1_rounded 90 = .ok (.iload 8, 2) := by decide +kernel
theorem dX1_rounded_92 : decode cX1_rounded 92 = .ok (.lushr, 1) := by decide +kernel
theorem dX1_rounded_93 : decode cX1_rounded 93 = .ok (.lstore 9, 2) := by decide +kernel
theorem dX1_rounded_95 : decode cX1_rounded 95 = .ok (.lload 4, 2) := by decide +kernel
theorem dX1_rounded_97 : decode cX1_rounded 97 = .ok (.bipush 64, 2) := by decide +kernel
theorem dX1_rounded_99 : decode cX1_rounded 99 = .ok (.iload 8, 2) := by decide +kernel
theorem dX1_rounded_101 : decode cX1_rounded 101 = .ok (.isub, 1) := by decide +kernel
theorem dX1_rounded_102 : decode cX1_rounded 102 = .ok (.lshl, 1) := by decide +kernel
theorem dX1_rounded_103 : decode cX1_rounded 103 = .ok (.lstore 11, 2) := by decide +kernel
theorem dX1_rounded_105 : decode cX1_rounded 105 = .ok (.lload 11, 2) := by decide +kernel
theorem dX1_rounded_107 : decode cX1_rounded 107 = .ok (.invokestatic 125, 3) := by decide +kernel
theorem dX1_rounded_110 : decode cX1_rounded 110 = .ok (.ifCond .ne 21, 3) := by decide +kernel
theorem dX1_rounded_113 : decode cX1_rounded 113 = .ok (.lload 11, 2) := by decide +kernel
theorem dX1_rounded_115 : decode cX1_rounded 115 = .ok (.ldc2_w 130, 3) := by decide +kernel
theorem dX1_rounded_118 : decode cX1_rounded 118 = .ok (.lcmp, 1) := by decide +kernel
theorem dX1_rounded_119 : decode cX1_rounded 119 = .ok (.ifCond .ne 18, 3) := by decide +kernel
theorem dX1_rounded_122 : decode cX1_rounded 122 = .ok (.lload 9, 2) := by decide +kernel
theorem dX1_rounded_124 : decode cX1_rounded 124 = .ok (.lconst 1, 1) := by decide +kernel
theorem dX1_rounded_125 : decode cX1_rounded 125 = .ok (.land, 1) := by decide +kernel
theorem dX1_rounded_126 : decode cX1_rounded 126 = .ok (.lconst 0, 1) := by decide +kernel
theorem dX1_rounded_127 : decode cX1_rounded 127 = .ok (.lcmp, 1) := by decide +kernel
theorem dX1_rounded_128 : decode cX1_rounded 128 = .ok (.ifCond .eq 9, 3) := by decide +kernel
theorem dX1_rounded_131 : decode cX1_rounded 131 = .ok (.lload 9, 2) := by decide +kernel
theorem dX1_rounded_133 : decode cX1_rounded 133 = .ok (.lconst 1, 1) := by decide +kernel
theorem dX1_rounded_134 : decode cX1_rounded 134 = .ok (.ladd, 1) := by decide +kernel
theorem dX1_rounded_135 : decode cX1_rounded 135 = .ok (.lstore 9, 2) := by decide +kernel
theorem dX1_rounded_137 : decode cX1_rounded 137 = .ok (.lload 9, 2) := by decide +kernel
theorem dX1_rounded_139 : decode cX1_rounded 139 = .ok (.iload 7, 2) := by decide +kernel
theorem dX1_rounded_141 : decode cX1_rounded 141 = .ok (.iconst 1, 1) := by decide +kernel
theorem dX1_rounded_142 : decode cX1_rounded 142 = .ok (.invokestatic 119, 3) := by decide +kernel
theorem dX1_rounded_145 : decode cX1_rounded 145 = .ok (.i2l, 1) := by decide +kernel
theorem dX1_rounded_146 : decode cX1_rounded 146 = .ok (.lconst 1, 1) := by decide +kernel
theorem dX1_rounded_147 : decode cX1_rounded 147 = .ok (.lsub, 1) := by decide +kernel
theorem dX1_rounded_148 : decode cX1_rounded 148 = .ok (.aload_n 0, 1) := by decide +kernel
theorem dX1_rounded_149 : decode cX1_rounded 149 = .ok (.getfield 41, 3) := by decide +kernel
theorem dX1_rounded_152 : decode cX1_rounded 152 = .ok (.lshl, 1) := by decide +kernel
theorem dX1_rounded_153 : decode cX1_rounded 153 = .ok (.ladd, 1) := by decide +kernel
theorem dX1_rounded_154 : decode cX1_rounded 154 = .ok (.lstore 13, 2) := by decide +kernel
theorem dX1_rounded_156 : decode cX1_rounded 156 = .ok (.lload 13, 2) := by decide +kernel
theorem dX1_rounded_158 : decode cX1_rounded 158 = .ok (.aload_n 0, 1) := by decide +kernel
theorem dX1_rounded_159 : decode cX1_rounded 159 = .ok (.invokevirtual 59, 3) := by decide +kernel
theorem dX1_rounded_162 : decode cX1_rounded 162 = .ok (.invokestatic 132, 3) := by decide +kernel
theorem dX1_rounded_165 : decode cX1_rounded 165 = .ok (.lreturn, 1) := by decide +kernel
theorem dX1_isOverHalf_0 : decode cX1_isOverHalf 0 = .ok (.lload_n 0, 1) := by decide +kernel
theorem dX1_isOverHalf_1 : decode cX1_isOverHalf 1 = .ok (.lconst 0, 1) := by decide +kernel
theorem dX1_isOverHalf_2 : decode cX1_isOverHalf 2 = .ok (.lcmp, 1) := by decide +kernel
theorem dX1_isOverHalf_3 : decode cX1_isOverHalf 3 = .ok (.ifCond .ge 15, 3) := by decide +kernel
theorem dX1_isOverHalf_6 : decode cX1_isOverHalf 6 = .ok (.lload_n 0, 1) := by decide +kernel
theorem dX1_isOverHalf_7 : decode cX1_isOverHalf 7 = .ok (.ldc2_w 130, 3) := by decide +kernel
theorem dX1_isOverHalf_10 : decode cX1_isOverHalf 10 = .ok (.lcmp, 1) := by decide +kernel
theorem dX1_isOverHalf_11 : decode cX1_isOverHalf 11 = .ok (.ifCond .eq 7, 3) := by decide +kernel
theorem dX1_isOverHalf_14 : decode cX1_isOverHalf 14 = .ok (.iconst 1, 1) := by decide +kernel
theorem dX1_isOverHalf_15 : decode cX1_isOverHalf 15 = .ok (.goto 4, 3) := by decide +kernel
theorem dX1_isOverHalf_18 : decode cX1_isOverHalf 18 = .ok (.iconst 0, 1) := by decide +kernel
theorem dX1_isOverHalf_19 : decode cX1_isOverHalf 19 = .ok (.ireturn, 1) := by decide +kernel
set_option maxRecDepth 20000 in
theorem ggX2_init_X0_init : GoodIn wsX2_init wsX0_init := goodIn_r _ [16, 17, 2, 3, 18, 19, 10, 20, 12, 21, 33, 34, 35, 36] (by decide +kernel) (by decide +kernel)
set_option maxRecDepth 20000 in
theorem gX2_init_X0_init : GoodIn wsX2_init (wsX0_init) := ggX2_init_X0_init
theorem dX2_init_0 : decode cX2_init 0 = .ok (.aload_n 0, 1) := by decide +kernel
theorem dX2_init_1 : decode cX2_init 1 = .ok (.invokespecial 3, 3) := by decide +kernel
theorem dX2_init_4 : decode cX2_init 4 = .ok (.aload_n 0, 1) := by decide +kernel
theorem dX2_init_5 : decode cX2_init 5 = .ok (.aload_n 1, 1) := by decide +kernel
theorem dX2_init_6 : decode cX2_init 6 = .ok (.putfield 9, 3) := by decide +kernel
theorem dX2_init_9 : decode cX2_init 9 = .ok (.aload_n 0, 1) := by decide +kernel
theorem dX2_init_10 : decode cX2_init 10 = .ok (.new 15, 3) := by decide +kernel
theorem dX2_init_13 : decode cX2_init 13 = .ok (.dup, 1) := by decide +kernel
theorem dX2_init_14 : decode cX2_init 14 = .ok (.invokespecial 17, 3) := by decide +kernel
theorem dX2_init_17 : decode cX2_init 17 = .ok (.putfield 18, 3) := by decide +kernel
theorem dX2_init_20 : decode cX2_init 20 = .ok (.aload_n 0, 1) := by decide +kernel
theorem dX2_init_21 : decode cX2_init 21 = .ok (.iconst 4, 1) := by decide +kernel
theorem dX2_init_22 : decode cX2_init 22 = .ok (.anewarray 15, 3) := by decide +kernel
theorem dX2_init_25 : decode cX2_init 25 = .ok (.putfield 22, 3) := by decide +kernel
theorem dX2_init_28 : decode cX2_init 28 = .ok (.iconst 0, 1) := by decide +kernel
theorem dX2_init_29 : decode cX2_init 29 = .ok (.istore_n 2, 1) := by decide +kernel
theorem dX2_init_30 : decode cX2_init 30 = .ok (.iload_n 2, 1) := by decide +kernel
theorem dX2_init_31 : decode cX2_init 31 = .ok (.iconst 4, 1) := by decide +kernel
theorem dX2_init_32 : decode cX2_init 32 = .ok (.if_icmp .ge 22, 3) := by decide +kernel
theorem dX2_init_35 : decode cX2_init 35 = .ok (.aload_n 0, 1) := by decide +kernel
theorem dX2_init_36 : decode cX2_init 36 = .ok (.getfield 22, 3) := by decide +kernel
theorem dX2_init_39 : decode cX2_init 39 = .ok (.iload_n 2, 1) := by decide +kernel
theorem dX2_init_40 : decode cX2_init 40 = .ok (.new 15, 3) := by decide +kernel
theorem dX2_init_43 : decode cX2_init 43 = .ok (.dup, 1) := by decide +kernel
theorem dX2_init_44 : decode cX2_init 44 = .ok (.invokespecial 17, 3) := by decide +kernel
theorem dX2_init_47 : decode cX2_init 47 = .ok (.aastore, 1) := by decide +kernel
theorem dX2_init_48 : decode cX2_init 48 = .ok (.iinc 2 1, 3) := by decide +kernel
theorem dX2_init_51 : decode cX2_init 51 = .ok (.goto (-21), 3) := by decide +kernel
theorem dX2_init_54 : decode cX2_init 54 = .ok (.aload_n 0, 1) := by decide +kernel
theorem dX2_init_55 : decode cX2_init 55 = .ok (.bipush 12, 2) := by decide +kernel
theorem dX2_init_57 : decode cX2_init 57 = .ok (.newarray .long, 2) := by decide +kernel
theorem dX2_init_59 : decode cX2_init 59 = .ok (.putfield 26, 3) := by decide +kernel
theorem dX2_init_62 : decode cX2_init 62 = .ok (.aload_n 0, 1) := by decide +kernel
theorem dX2_init_63 : decode cX2_init 63 = .ok (.bipush 12, 2) := by decide +kernel
theorem dX2_init_65 : decode cX2_init 65 = .ok (.newarray .boolean, 2) := by decide +kernel
theorem dX2_init_67 : decode cX2_init 67 = .ok (.putfield 30, 3) := by decide +kernel
theorem dX2_init_70 : decode cX2_init 70 = .ok (.return_, 1) := by decide +kernel
theorem dX2_takeDry_0 : decode cX2_takeDry 0 = .ok (.aload_n 0, 1) := by decide +kernel
theorem dX2_takeDry_1 : decode cX2_takeDry 1 = .ok (.getfield 34, 3) := by decide +kernel
theorem dX2_takeDry_4 : decode cX2_takeDry 4 = .ok (.lload_n 1, 1) := by decide +kernel
theorem dX2_takeDry_5 : decode cX2_takeDry 5 = .ok (.lcmp, 1) := by decide +kernel
theorem dX2_takeDry_6 : decode cX2_takeDry 6 = .ok (.ifCond .eq 7, 3) := by decide +kernel
theorem dX2_takeDry_9 : decode cX2_takeDry 9 = .ok (.iconst 1, 1) := by decide +kernel
theorem dX2_takeDry_10 : decode cX2_takeDry 10 = .ok (.goto 4, 3) := by decide +kernel
theorem dX2_takeDry_13 : decode cX2_takeDry 13 = .ok (.iconst 0, 1) := by decide +kernel
theorem dX2_takeDry_14 : decode cX2_takeDry 14 = .ok (.istore_n 3, 1) := by decide +kernel
theorem dX2_takeDry_15 : decode cX2_takeDry 15 = .ok (.aload_n 0, 1) := by decide +kernel
theorem dX2_takeDry_16 : decode cX2_takeDry 16 = .ok (.lload_n 1, 1) := by decide +kernel
theorem dX2_takeDry_17 : decode cX2_takeDry 17 = .ok (.putfield 34, 3) := by decide +kernel
theorem dX2_takeDry_20 : decode cX2_takeDry 20 = .ok (.aload_n 0, 1) := by decide +kernel
theorem dX2_takeDry_21 : decode cX2_takeDry 21 = .ok (.lload_n 1, 1) := by decide +kernel
theorem dX2_takeDry_22 : decode cX2_takeDry 22 = .ok (.putfield 38, 3) := by decide +kernel
theorem dX2_takeDry_25 : decode cX2_takeDry 25 = .ok (.aload_n 0, 1) := by decide +kernel
theorem dX2_takeDry_26 : decode cX2_takeDry 26 = .ok (.iconst 0, 1) := by decide +kernel
theorem dX2_takeDry_27 : decode cX2_takeDry 27 = .ok (.putfield 41, 3) := by decide +kernel
theorem dX2_takeDry_30 : decode cX2_takeDry 30 = .ok (.aload_n 0, 1) := by decide +kernel
theorem dX2_takeDry_31 : decode cX2_takeDry 31 = .ok (.iconst 0, 1) := by decide +kernel
theorem dX2_takeDry_32 : decode cX2_takeDry 32 = .ok (.putfield 45, 3) := by decide +kernel
theorem dX2_takeDry_35 : decode cX2_takeDry 35 = .ok (.iload_n 3, 1) := by decide +kernel
theorem dX2_takeDry_36 : decode cX2_takeDry 36 = .ok (.ireturn, 1) := by decide +kernel
set_option maxRecDepth 20000 in
theorem ggX2_runRound_X1_through : GoodIn wsX2_runRound wsX1_through := goodIn_r _ [16, 17, 18, 19, 15, 20, 21, 22, 23, 24, 25, 26, 27, 28, 29, 30, 31, 32, 33, 34, 35, 36, 37, 38, 39, 40, 41, 42, 43, 44, 45, 46, 47, 48, 49, 50, 51, 52, 53, 54, 55, 56, 57, 58, 59, 60, 61, 62, 63, 64, 65, 66, 67] (by decide +kernel) (by decide +kernel)
set_option maxRecDepth 20000 in
theorem gX2_runRound_X1_through : GoodIn wsX2_runRound (wsV RX2 62 RX1 yX1_through wsX1_through) := goodIn_app (goodIn_of _ (by decide +kernel)) ggX2_runRound_X1_through
set_option maxRecDepth 20000 in
theorem ggX2_runRound_X2_keepPeaks : GoodIn wsX2_runRound wsX2_keepPeaks := goodIn_r _ [72, 5, 73, 3, 74, 75, 76, 77, 71, 78, 11, 79, 34, 35, 15, 36, 37, 38, 39, 40, 21, 23, 24, 25, 26, 27, 80, 81, 82, 83, 84, 85, 86, 87, 88, 89, 90] (by decide +kernel) (by decide +kernel)
set_option maxRecDepth 20000 in
theorem gX2_runRound_X2_keepPeaks : GoodIn wsX2_runRound (wsV RX2 68 RX2 yX2_keepPeaks wsX2_keepPeaks) := goodIn_app (goodIn_of _ (by decide +kernel)) ggX2_runRound_X2_keepPeaks
theorem dX2_runRound_0 : decode cX2_runRound 0 = .ok (.iconst 0, 1) := by decide +kernel
theorem dX2_runRound_1 : decode cX2_runRound 1 = .ok (.istore_n 1, 1) := by decide +kernel
theorem dX2_runRound_2 : decode cX2_runRound 2 = .ok (.iconst 0, 1) := by decide +kernel
theorem dX2_runRound_3 : decode cX2_runRound 3 = .ok (.istore_n 2, 1) := by decide +kernel
theorem dX2_runRound_4 : decode cX2_runRound 4 = .ok (.iload_n 2, 1) := by decide +kernel
theorem dX2_runRound_5 : decode cX2_runRound 5 = .ok (.aload_n 0, 1) := by decide +kernel
theorem dX2_runRound_6 : decode cX2_runRound 6 = .ok (.getfield 18, 3) := by decide +kernel
theorem dX2_runRound_9 : decode cX2_runRound 9 = .ok (.getfield 49, 3) := by decide +kernel
theorem dX2_runRound_12 : decode cX2_runRound 12 = .ok (.if_icmp .ge 102, 3) := by decide +kernel
theorem dX2_runRound_15 : decode cX2_runRound 15 = .ok (.aload_n 0, 1) := by decide +kernel
theorem dX2_runRound_16 : decode cX2_runRound 16 = .ok (.getfield 38, 3) := by decide +kernel
theorem dX2_runRound_19 : decode cX2_runRound 19 = .ok (.lstore_n 3, 1) := by decide +kernel
theorem dX2_runRound_20 : decode cX2_runRound 20 = .ok (.aload_n 0, 1) := by decide +kernel
theorem dX2_runRound_21 : decode cX2_runRound 21 = .ok (.aload_n 0, 1) := by decide +kernel
theorem dX2_runRound_22 : decode cX2_runRound 22 = .ok (.getfield 18, 3) := by decide +kernel
theorem dX2_runRound_25 : decode cX2_runRound 25 = .ok (.getfield 52, 3) := by decide +kernel
theorem dX2_runRound_28 : decode cX2_runRound 28 = .ok (.iload_n 2, 1) := by decide +kernel
theorem dX2_runRound_29 : decode cX2_runRound 29 = .ok (.baload, 1) := by decide +kernel
theorem dX2_runRound_30 : decode cX2_runRound 30 = .ok (.ifCond .eq 32, 3) := by decide +kernel
theorem dX2_runRound_33 : decode cX2_runRound 33 = .ok (.aload_n 0, 1) := by decide +kernel
theorem dX2_runRound_34 : decode cX2_runRound 34 = .ok (.getfield 9, 3) := by decide +kernel
theorem dX2_runRound_37 : decode cX2_runRound 37 = .ok (.aload_n 0, 1) := by decide +kernel
theorem dX2_runRound_38 : decode cX2_runRound 38 = .ok (.getfield 18, 3) := by decide +kernel
theorem dX2_runRound_41 : decode cX2_runRound 41 = .ok (.getfield 55, 3) := by decide +kernel
theorem dX2_runRound_44 : decode cX2_runRound 44 = .ok (.iload_n 2, 1) := by decide +kernel
theorem dX2_runRound_45 : decode cX2_runRound 45 = .ok (.iaload, 1) := by decide +kernel
theorem dX2_runRound_46 : decode cX2_runRound 46 = .ok (.aload_n 0, 1) := by decide +kernel
theorem dX2_runRound_47 : decode cX2_runRound 47 = .ok (.getfield 18, 3) := by decide +kernel
theorem dX2_runRound_50 : decode cX2_runRound 50 = .ok (.getfield 59, 3) := by decide +kernel
theorem dX2_runRound_53 : decode cX2_runRound 53 = .ok (.iload_n 2, 1) := by decide +kernel
theorem dX2_runRound_54 : decode cX2_runRound 54 = .ok (.laload, 1) := by decide +kernel
theorem dX2_runRound_55 : decode cX2_runRound 55 = .ok (.lload_n 3, 1) := by decide +kernel
theorem dX2_runRound_56 : decode cX2_runRound 56 = .ok (.invokevirtual 62, 3) := by decide +kernel
theorem dX2_runRound_59 : decode cX2_runRound 59 = .ok (.goto 4, 3) := by decide +kernel
theorem dX2_runRound_62 : decode cX2_runRound 62 = .ok (.lload_n 3, 1) := by decide +kernel
theorem dX2_runRound_63 : decode cX2_runRound 63 = .ok (.putfield 38, 3) := by decide +kernel
theorem dX2_runRound_66 : decode cX2_runRound 66 = .ok (.aload_n 0, 1) := by decide +kernel
theorem dX2_runRound_67 : decode cX2_runRound 67 = .ok (.getfield 26, 3) := by decide +kernel
theorem dX2_runRound_70 : decode cX2_runRound 70 = .ok (.iload_n 2, 1) := by decide +kernel
theorem dX2_runRound_71 : decode cX2_runRound 71 = .ok (.aload_n 0, 1) := by decide +kernel
theorem dX2_runRound_72 : decode cX2_runRound 72 = .ok (.getfield 38, 3) := by decide +kernel
theorem dX2_runRound_75 : decode cX2_runRound 75 = .ok (.lastore, 1) := by decide +kernel
theorem dX2_runRound_76 : decode cX2_runRound 76 = .ok (.aload_n 0, 1) := by decide +kernel
theorem dX2_runRound_77 : decode cX2_runRound 77 = .ok (.getfield 30, 3) := by decide +kernel
theorem dX2_runRound_80 : decode cX2_runRound 80 = .ok (.iload_n 2, 1) := by decide +kernel
theorem dX2_runRound_81 : decode cX2_runRound 81 = .ok (.aload_n 0, 1) := by decide +kernel
theorem dX2_runRound_82 : decode cX2_runRound 82 = .ok (.getfield 38, 3) := by decide +kernel
theorem dX2_runRound_85 : decode cX2_runRound 85 = .ok (.lload_n 3, 1) := by decide +kernel
theorem dX2_runRound_86 : decode cX2_runRound 86 = .ok (.lcmp, 1) := by decide +kernel
theorem dX2_runRound_87 : decode cX2_runRound 87 = .ok (.ifCond .eq 7, 3) := by decide +kernel
theorem dX2_runRound_90 : decode cX2_runRound 90 = .ok (.iconst 1, 1) := by decide +kernel
theorem dX2_runRound_91 : decode cX2_runRound 91 = .ok (.goto 4, 3) := by decide +kernel
theorem dX2_runRound_94 : decode cX2_runRound 94 = .ok (.iconst 0, 1) := by decide +kernel
theorem dX2_runRound_95 : decode cX2_runRound 95 = .ok (.bastore, 1) := by decide +kernel
theorem dX2_runRound_96 : decode cX2_runRound 96 = .ok (.aload_n 0, 1) := by decide +kernel
theorem dX2_runRound_97 : decode cX2_runRound 97 = .ok (.getfield 30, 3) := by decide +kernel
theorem dX2_runRound_100 : decode cX2_runRound 100 = .ok (.iload_n 2, 1) := by decide +kernel
theorem dX2_runRound_101 : decode cX2_runRound 101 = .ok (.baload, 1) := by decide +kernel
theorem dX2_runRound_102 : decode cX2_runRound 102 = .ok (.ifCond .eq 6, 3) := by decide +kernel
theorem dX2_runRound_105 : decode cX2_runRound 105 = .ok (.iinc 1 1, 3) := by decide +kernel
theorem dX2_runRound_108 : decode cX2_runRound 108 = .ok (.iinc 2 1, 3) := by decide +kernel
theorem dX2_runRound_111 : decode cX2_runRound 111 = .ok (.goto (-107), 3) := by decide +kernel
theorem dX2_runRound_114 : decode cX2_runRound 114 = .ok (.aload_n 0, 1) := by decide +kernel
theorem dX2_runRound_115 : decode cX2_runRound 115 = .ok (.iconst 1, 1) := by decide +kernel
theorem dX2_runRound_116 : decode cX2_runRound 116 = .ok (.putfield 45, 3) := by decide +kernel
theorem dX2_runRound_119 : decode cX2_runRound 119 = .ok (.aload_n 0, 1) := by decide +kernel
theorem dX2_runRound_120 : decode cX2_runRound 120 = .ok (.invokevirtual 68, 3) := by decide +kernel
theorem dX2_runRound_123 : decode cX2_runRound 123 = .ok (.aload_n 0, 1) := by decide +kernel
theorem dX2_runRound_124 : decode cX2_runRound 124 = .ok (.dup, 1) := by decide +kernel
theorem dX2_runRound_125 : decode cX2_runRound 125 = .ok (.getfield 41, 3) := by decide +kernel
theorem dX2_runRound_128 : decode cX2_runRound 128 = .ok (.iconst 1, 1) := by decide +kernel
theorem dX2_runRound_129 : decode cX2_runRound 129 = .ok (.iadd, 1) := by decide +kernel
theorem dX2_runRound_130 : decode cX2_runRound 130 = .ok (.putfield 41, 3) := by decide +kernel
theorem dX2_runRound_133 : decode cX2_runRound 133 = .ok (.iload_n 1, 1) := by decide +kernel
theorem dX2_runRound_134 : decode cX2_runRound 134 = .ok (.ireturn, 1) := by decide +kernel
theorem dX2_hasPeaks_0 : decode cX2_hasPeaks 0 = .ok (.aload_n 0, 1) := by decide +kernel
theorem dX2_hasPeaks_1 : decode cX2_hasPeaks 1 = .ok (.getfield 41, 3) := by decide +kernel
theorem dX2_hasPeaks_4 : decode cX2_hasPeaks 4 = .ok (.ifCond .le 7, 3) := by decide +kernel
theorem dX2_hasPeaks_7 : decode cX2_hasPeaks 7 = .ok (.iconst 1, 1) := by decide +kernel
theorem dX2_hasPeaks_8 : decode cX2_hasPeaks 8 = .ok (.goto 4, 3) := by decide +kernel
theorem dX2_hasPeaks_11 : decode cX2_hasPeaks 11 = .ok (.iconst 0, 1) := by decide +kernel
theorem dX2_hasPeaks_12 : decode cX2_hasPeaks 12 = .ok (.ireturn, 1) := by decide +kernel
set_option maxRecDepth 20000 in
theorem ggX2_keepPeaks_X2_hasPeaks : GoodIn wsX2_keepPeaks wsX2_hasPeaks := goodIn_r _ [9, 10, 26, 27, 28, 29, 30, 31, 32, 33, 34, 35, 36] (by decide +kernel) (by decide +kernel)
set_option maxRecDepth 20000 in
theorem gX2_keepPeaks_X2_hasPeaks : GoodIn wsX2_keepPeaks (wsV RX2 71 RX2 yX2_hasPeaks wsX2_hasPeaks) := goodIn_app (goodIn_of _ (by decide +kernel)) ggX2_keepPeaks_X2_hasPeaks
set_option maxRecDepth 20000 in
theorem ggX2_keepPeaks_X1_isLess : GoodIn wsX2_keepPeaks wsX1_isLess := goodIn_r _ [15, 16, 17, 18, 14, 19, 20, 21, 22, 23, 24, 25] (by decide +kernel) (by decide +kernel)
set_option maxRecDepth 20000 in
theorem gX2_keepPeaks_X1_isLess : GoodIn wsX2_keepPeaks (wsV RX2 78 RX1 yX1_isLess wsX1_isLess) := goodIn_app (goodIn_of _ (by decide +kernel)) ggX2_keepPeaks_X1_isLess
theorem dX2_keepPeaks_0 : decode cX2_keepPeaks 0 = .ok (.aload_n 0, 1) := by decide +kernel
theorem dX2_keepPeaks_1 : decode cX2_keepPeaks 1 = .ok (.invokevirtual 71, 3) := by decide +kernel
theorem dX2_keepPeaks_4 : decode cX2_keepPeaks 4 = .ok (.ifCond .eq 21, 3) := by decide +kernel
theorem dX2_keepPeaks_7 : decode cX2_keepPeaks 7 = .ok (.aload_n 0, 1) := by decide +kernel
theorem dX2_keepPeaks_8 : decode cX2_keepPeaks 8 = .ok (.getfield 9, 3) := by decide +kernel
theorem dX2_keepPeaks_11 : decode cX2_keepPeaks 11 = .ok (.aload_n 0, 1) := by decide +kernel
theorem dX2_keepPeaks_12 : decode cX2_keepPeaks 12 = .ok (.getfield 75, 3) := by decide +kernel
theorem dX2_keepPeaks_15 : decode cX2_keepPeaks 15 = .ok (.aload_n 0, 1) := by decide +kernel
theorem dX2_keepPeaks_16 : decode cX2_keepPeaks 16 = .ok (.getfield 38, 3) := by decide +kernel
theorem dX2_keepPeaks_19 : decode cX2_keepPeaks 19 = .ok (.invokevirtual 78, 3) := by decide +kernel
theorem dX2_keepPeaks_22 : decode cX2_keepPeaks 22 = .ok (.ifCond .eq 11, 3) := by decide +kernel
theorem dX2_keepPeaks_25 : decode cX2_keepPeaks 25 = .ok (.aload_n 0, 1) := by decide +kernel
theorem dX2_keepPeaks_26 : decode cX2_keepPeaks 26 = .ok (.aload_n 0, 1) := by decide +kernel
theorem dX2_keepPeaks_27 : decode cX2_keepPeaks 27 = .ok (.getfield 38, 3) := by decide +kernel
theorem dX2_keepPeaks_30 : decode cX2_keepPeaks 30 = .ok (.putfield 75, 3) := by decide +kernel
theorem dX2_keepPeaks_33 : decode cX2_keepPeaks 33 = .ok (.aload_n 0, 1) := by decide +kernel
theorem dX2_keepPeaks_34 : decode cX2_keepPeaks 34 = .ok (.invokevirtual 71, 3) := by decide +kernel
theorem dX2_keepPeaks_37 : decode cX2_keepPeaks 37 = .ok (.ifCond .eq 21, 3) := by decide +kernel
theorem dX2_keepPeaks_40 : decode cX2_keepPeaks 40 = .ok (.aload_n 0, 1) := by decide +kernel
theorem dX2_keepPeaks_41 : decode cX2_keepPeaks 41 = .ok (.getfield 9, 3) := by decide +kernel
theorem dX2_keepPeaks_44 : decode cX2_keepPeaks 44 = .ok (.aload_n 0, 1) := by decide +kernel
theorem dX2_keepPeaks_45 : decode cX2_keepPeaks 45 = .ok (.getfield 38, 3) := by decide +kernel
theorem dX2_keepPeaks_48 : decode cX2_keepPeaks 48 = .ok (.aload_n 0, 1) := by decide +kernel
theorem dX2_keepPeaks_49 : decode cX2_keepPeaks 49 = .ok (.getfield 82, 3) := by decide +kernel
theorem dX2_keepPeaks_52 : decode cX2_keepPeaks 52 = .ok (.invokevirtual 78, 3) := by decide +kernel
theorem dX2_keepPeaks_55 : decode cX2_keepPeaks 55 = .ok (.ifCond .eq 11, 3) := by decide +kernel
theorem dX2_keepPeaks_58 : decode cX2_keepPeaks 58 = .ok (.aload_n 0, 1) := by decide +kernel
theorem dX2_keepPeaks_59 : decode cX2_keepPeaks 59 = .ok (.aload_n 0, 1) := by decide +kernel
theorem dX2_keepPeaks_60 : decode cX2_keepPeaks 60 = .ok (.getfield 38, 3) := by decide +kernel
theorem dX2_keepPeaks_63 : decode cX2_keepPeaks 63 = .ok (.putfield 82, 3) := by decide +kernel
theorem dX2_keepPeaks_66 : decode cX2_keepPeaks 66 = .ok (.return_, 1) := by decide +kernel
set_option maxRecDepth 20000 in
theorem ggX2_isLit_X0_has : GoodIn wsX2_isLit wsX0_has := goodIn_r _ [8, 9, 21, 22, 23, 24] (by decide +kernel) (by decide +kernel)
set_option maxRecDepth 20000 in
theorem gX2_isLit_X0_has : GoodIn wsX2_isLit (wsV RX2 85 RX0 yX0_has wsX0_has) := goodIn_app (goodIn_of _ (by decide +kernel)) ggX2_isLit_X0_has
theorem dX2_isLit_0 : decode cX2_isLit 0 = .ok (.aload_n 0, 1) := by decide +kernel
theorem dX2_isLit_1 : decode cX2_isLit 1 = .ok (.getfield 45, 3) := by decide +kernel
theorem dX2_isLit_4 : decode cX2_isLit 4 = .ok (.ifCond .eq 27, 3) := by decide +kernel
theorem dX2_isLit_7 : decode cX2_isLit 7 = .ok (.aload_n 0, 1) := by decide +kernel
theorem dX2_isLit_8 : decode cX2_isLit 8 = .ok (.getfield 18, 3) := by decide +kernel
theorem dX2_isLit_11 : decode cX2_isLit 11 = .ok (.iload_n 1, 1) := by decide +kernel
theorem dX2_isLit_12 : decode cX2_isLit 12 = .ok (.invokevirtual 85, 3) := by decide +kernel
theorem dX2_isLit_15 : decode cX2_isLit 15 = .ok (.ifCond .eq 16, 3) := by decide +kernel
theorem dX2_isLit_18 : decode cX2_isLit 18 = .ok (.aload_n 0, 1) := by decide +kernel
theorem dX2_isLit_19 : decode cX2_isLit 19 = .ok (.getfield 30, 3) := by decide +kernel
theorem dX2_isLit_22 : decode cX2_isLit 22 = .ok (.iload_n 1, 1) := by decide +kernel
theorem dX2_isLit_23 : decode cX2_isLit 23 = .ok (.baload, 1) := by decide +kernel
theorem dX2_isLit_24 : decode cX2_isLit 24 = .ok (.ifCond .eq 7, 3) := by decide +kernel
theorem dX2_isLit_27 : decode cX2_isLit 27 = .ok (.iconst 1, 1) := by decide +kernel
theorem dX2_isLit_28 : decode cX2_isLit 28 = .ok (.goto 4, 3) := by decide +kernel
theorem dX2_isLit_31 : decode cX2_isLit 31 = .ok (.iconst 0, 1) := by decide +kernel
theorem dX2_isLit_32 : decode cX2_isLit 32 = .ok (.ireturn, 1) := by decide +kernel
set_option maxRecDepth 20000 in
theorem ggX2_countLit_X2_isLit : GoodIn wsX2_countLit wsX2_isLit := goodIn_r _ [7, 8, 1, 9, 10, 11, 12, 13, 14, 15, 16, 17, 18, 19, 20, 21, 22, 23, 24, 25, 26, 27, 28, 29, 30] (by decide +kernel) (by decide +kernel)
set_option maxRecDepth 20000 in
theorem gX2_countLit_X2_isLit : GoodIn wsX2_countLit (wsV RX2 89 RX2 yX2_isLit wsX2_isLit) := goodIn_app (goodIn_of _ (by decide +kernel)) ggX2_countLit_X2_isLit
theorem dX2_countLit_0 : decode cX2_countLit 0 = .ok (.iconst 0, 1) := by decide +kernel
theorem dX2_countLit_1 : decode cX2_countLit 1 = .ok (.istore_n 1, 1) := by decide +kernel
theorem dX2_countLit_2 : decode cX2_countLit 2 = .ok (.iconst 0, 1) := by decide +kernel
theorem dX2_countLit_3 : decode cX2_countLit 3 = .ok (.istore_n 2, 1) := by decide +kernel
theorem dX2_countLit_4 : decode cX2_countLit 4 = .ok (.iload_n 2, 1) := by decide +kernel
theorem dX2_countLit_5 : decode cX2_countLit 5 = .ok (.aload_n 0, 1) := by decide +kernel
theorem dX2_countLit_6 : decode cX2_countLit 6 = .ok (.getfield 18, 3) := by decide +kernel
theorem dX2_countLit_9 : decode cX2_countLit 9 = .ok (.getfield 49, 3) := by decide +kernel
theorem dX2_countLit_12 : decode cX2_countLit 12 = .ok (.if_icmp .ge 20, 3) := by decide +kernel
theorem dX2_countLit_15 : decode cX2_countLit 15 = .ok (.aload_n 0, 1) := by decide +kernel
theorem dX2_countLit_16 : decode cX2_countLit 16 = .ok (.iload_n 2, 1) := by decide +kernel
theorem dX2_countLit_17 : decode cX2_countLit 17 = .ok (.invokevirtual 89, 3) := by decide +kernel
theorem dX2_countLit_20 : decode cX2_countLit 20 = .ok (.ifCond .eq 6, 3) := by decide +kernel
theorem dX2_countLit_23 : decode cX2_countLit 23 = .ok (.iinc 1 1, 3) := by decide +kernel
theorem dX2_countLit_26 : decode cX2_countLit 26 = .ok (.iinc 2 1, 3) := by decide +kernel
theorem dX2_countLit_29 : decode cX2_countLit 29 = .ok (.goto (-25), 3) := by decide +kernel
theorem dX2_countLit_32 : decode cX2_countLit 32 = .ok (.iload_n 1, 1) := by decide +kernel
theorem dX2_countLit_33 : decode cX2_countLit 33 = .ok (.ireturn, 1) := by decide +kernel
set_option maxRecDepth 20000 in
theorem ggX3_init_X2_init : GoodIn wsX3_init wsX2_init := goodIn_r _ [11, 12, 2, 3, 13, 14, 15, 16, 17, 18, 19, 20, 21, 22, 23, 24, 25, 26, 27, 28, 29, 30, 32, 33, 34, 35, 36, 37, 38, 39, 40, 41, 42, 43, 44, 45, 46] (by decide +kernel) (by decide +kernel)
set_option maxRecDepth 20000 in
theorem gX3_init_X2_init : GoodIn wsX3_init (wsX2_init) := ggX3_init_X2_init
theorem dX3_init_0 : decode cX3_init 0 = .ok (.aload_n 0, 1) := by decide +kernel
theorem dX3_init_1 : decode cX3_init 1 = .ok (.invokespecial 1, 3) := by decide +kernel
theorem dX3_init_4 : decode cX3_init 4 = .ok (.aload_n 0, 1) := by decide +kernel
theorem dX3_init_5 : decode cX3_init 5 = .ok (.iconst 4, 1) := by decide +kernel
theorem dX3_init_6 : decode cX3_init 6 = .ok (.anewarray 9, 3) := by decide +kernel
theorem dX3_init_9 : decode cX3_init 9 = .ok (.putfield 11, 3) := by decide +kernel
theorem dX3_init_12 : decode cX3_init 12 = .ok (.iconst 0, 1) := by decide +kernel
theorem dX3_init_13 : decode cX3_init 13 = .ok (.istore_n 1, 1) := by decide +kernel
theorem dX3_init_14 : decode cX3_init 14 = .ok (.iload_n 1, 1) := by decide +kernel
theorem dX3_init_15 : decode cX3_init 15 = .ok (.iconst 4, 1) := by decide +kernel
theorem dX3_init_16 : decode cX3_init 16 = .ok (.if_icmp .ge 27, 3) := by decide +kernel
theorem dX3_init_19 : decode cX3_init 19 = .ok (.aload_n 0, 1) := by decide +kernel
theorem dX3_init_20 : decode cX3_init 20 = .ok (.getfield 11, 3) := by decide +kernel
theorem dX3_init_23 : decode cX3_init 23 = .ok (.iload_n 1, 1) := by decide +kernel
theorem dX3_init_24 : decode cX3_init 24 = .ok (.new 9, 3) := by decide +kernel
theorem dX3_init_27 : decode cX3_init 27 = .ok (.dup, 1) := by decide +kernel
theorem dX3_init_28 : decode cX3_init 28 = .ok (.getstatic 15, 3) := by decide +kernel
theorem dX3_init_31 : decode cX3_init 31 = .ok (.iload_n 1, 1) := by decide +kernel
theorem dX3_init_32 : decode cX3_init 32 = .ok (.aaload, 1) := by decide +kernel
theorem dX3_init_33 : decode cX3_init 33 = .ok (.invokespecial 19, 3) := by decide +kernel
theorem dX3_init_36 : decode cX3_init 36 = .ok (.aastore, 1) := by decide +kernel
theorem dX3_init_37 : decode cX3_init 37 = .ok (.iinc 1 1, 3) := by decide +kernel
theorem dX3_init_40 : decode cX3_init 40 = .ok (.goto (-26), 3) := by decide +kernel
theorem dX3_init_43 : decode cX3_init 43 = .ok (.return_, 1) := by decide +kernel
set_option maxRecDepth 20000 in
theorem ggX3_put_X3_wireAt : GoodIn wsX3_put wsX3_wireAt := goodIn_ca (goodIn_r _ [5, 6, 7, 8, 9, 10, 4, 11, 48] (by decide +kernel) (by decide +kernel)) (goodIn_sub (fun _ h => List.mem_cons_of_mem _ (List.mem_append_right _ h)) (by decide +kernel))
set_option maxRecDepth 20000 in
theorem gX3_put_X3_wireAt : GoodIn wsX3_put (wsV RX3 22 RX3 yX3_wireAt wsX3_wireAt) := goodIn_app (goodIn_of _ (by decide +kernel)) ggX3_put_X3_wireAt
set_option maxRecDepth 20000 in
theorem ggX3_put_X3_numberOn : GoodIn wsX3_put wsX3_numberOn := goodIn_ca (goodIn_r _ [14, 6, 7, 15, 16, 17, 18, 19, 20, 21, 22, 23, 24, 25, 26, 27, 28, 29, 30, 31, 32, 33, 34, 35, 36, 37, 38, 49, 50, 51, 52, 53, 54, 55, 56, 57, 58, 59] (by decide +kernel) (by decide +kernel)) (goodIn_sub (fun _ h => List.mem_cons_of_mem _ (List.mem_append_right _ h)) (by decide +kernel))
set_option maxRecDepth 20000 in
theorem gX3_put_X3_numberOn : GoodIn wsX3_put (va_wsS RX3 26 yX3_numberOn wsX3_numberOn) := goodIn_app (goodIn_of _ (by decide +kernel)) ggX3_put_X3_numberOn
set_option maxRecDepth 20000 in
theorem ggX3_put_X2_takeDry : GoodIn wsX3_put wsX2_takeDry := goodIn_r _ [43, 44, 45, 46, 47, 49, 50, 51, 52, 53, 54, 55, 56, 57, 58, 59] (by decide +kernel) (by decide +kernel)
set_option maxRecDepth 20000 in
theorem gX3_put_X2_takeDry : GoodIn wsX3_put (wsV RX3 30 RX2 yX2_takeDry wsX2_takeDry) := goodIn_app (goodIn_of _ (by decide +kernel)) ggX3_put_X2_takeDry
