theorem dX4_light_0 : decode cX4_light 0 = .ok (.aload_n 0, 1) := by decide +kernel
theorem dX4_light_1 : decode cX4_light 1 = .ok (.iconst 0, 1) := by decide +kernel
theorem dX4_light_2 : decode cX4_light 2 = .ok (.putfield 63, 3) := by decide +kernel
theorem dX4_light_5 : decode cX4_light 5 = .ok (.aload_n 0, 1) := by decide +kernel
theorem dX4_light_6 : decode cX4_light 6 = .ok (.iload_n 1, 1) := by decide +kernel
theorem dX4_light_7 : decode cX4_light 7 = .ok (.iload_n 2, 1) := by decide +kernel
theorem dX4_light_8 : decode cX4_light 8 = .ok (.invokevirtual 168, 3) := by decide +kernel
theorem dX4_light_11 : decode cX4_light 11 = .ok (.ifCond .eq 30, 3) := by decide +kernel
theorem dX4_light_14 : decode cX4_light 14 = .ok (.aload_n 0, 1) := by decide +kernel
theorem dX4_light_15 : decode cX4_light 15 = .ok (.getfield 29, 3) := by decide +kernel
theorem dX4_light_18 : decode cX4_light 18 = .ok (.iload_n 1, 1) := by decide +kernel
theorem dX4_light_19 : decode cX4_light 19 = .ok (.baload, 1) := by decide +kernel
theorem dX4_light_20 : decode cX4_light 20 = .ok (.ifCond .eq 21, 3) := by decide +kernel
theorem dX4_light_23 : decode cX4_light 23 = .ok (.aload_n 0, 1) := by decide +kernel
theorem dX4_light_24 : decode cX4_light 24 = .ok (.getfield 48, 3) := by decide +kernel
theorem dX4_light_27 : decode cX4_light 27 = .ok (.bipush 12, 2) := by decide +kernel
theorem dX4_light_29 : decode cX4_light 29 = .ok (.iload_n 1, 1) := by decide +kernel
theorem dX4_light_30 : decode cX4_light 30 = .ok (.imul, 1) := by decide +kernel
theorem dX4_light_31 : decode cX4_light 31 = .ok (.iload_n 2, 1) := by decide +kernel
theorem dX4_light_32 : decode cX4_light 32 = .ok (.iadd, 1) := by decide +kernel
theorem dX4_light_33 : decode cX4_light 33 = .ok (.baload, 1) := by decide +kernel
theorem dX4_light_34 : decode cX4_light 34 = .ok (.ifCond .eq 7, 3) := by decide +kernel
theorem dX4_light_37 : decode cX4_light 37 = .ok (.iconst 1, 1) := by decide +kernel
theorem dX4_light_38 : decode cX4_light 38 = .ok (.goto 4, 3) := by decide +kernel
theorem dX4_light_41 : decode cX4_light 41 = .ok (.iconst 0, 1) := by decide +kernel
theorem dX4_light_42 : decode cX4_light 42 = .ok (.ireturn, 1) := by decide +kernel
set_option maxRecDepth 20000 in
theorem ggX4_against_X4_isWire : GoodIn wsX4_against wsX4_isWire := goodIn_r _ [6] (by decide +kernel) (by decide +kernel)
set_option maxRecDepth 20000 in
theorem gX4_against_X4_isWire : GoodIn wsX4_against (va_wsS RX4 142 yX4_isWire wsX4_isWire) := goodIn_app (goodIn_of _ (by decide +kernel)) ggX4_against_X4_isWire
set_option maxRecDepth 20000 in
theorem ggX4_against_X4_refuses : GoodIn wsX4_against wsX4_refuses := goodIn_r _ [10, 11, 31, 32, 33, 34, 35, 36, 37, 38, 39, 40, 41, 42, 43, 44, 45, 46, 47, 48] (by decide +kernel) (by decide +kernel)
set_option maxRecDepth 20000 in
theorem gX4_against_X4_refuses : GoodIn wsX4_against (wsV RX4 153 RX4 yX4_refuses wsX4_refuses) := goodIn_app (goodIn_of _ (by decide +kernel)) ggX4_against_X4_refuses
set_option maxRecDepth 20000 in
theorem ggX4_against_X4_order : GoodIn wsX4_against wsX4_order := goodIn_r _ [14, 15, 16, 5, 17, 18, 19, 20, 21, 22, 23, 24, 25, 26, 27, 28, 29, 30] (by decide +kernel) (by decide +kernel)
set_option maxRecDepth 20000 in
theorem gX4_against_X4_order : GoodIn wsX4_against (va_wsS RX4 116 yX4_order wsX4_order) := goodIn_app (goodIn_of _ (by decide +kernel)) ggX4_against_X4_order
set_option maxRecDepth 20000 in
theorem ggX4_against_X4_size : GoodIn wsX4_against wsX4_size := goodIn_r _ [25, 26, 27, 28, 5, 29, 30, 18, 19, 20, 21, 22] (by decide +kernel) (by decide +kernel)
set_option maxRecDepth 20000 in
theorem gX4_against_X4_size : GoodIn wsX4_against (va_wsS RX4 87 yX4_size wsX4_size) := goodIn_app (goodIn_of _ (by decide +kernel)) ggX4_against_X4_size
theorem dX4_against_0 : decode cX4_against 0 = .ok (.aload_n 0, 1) := by decide +kernel
theorem dX4_against_1 : decode cX4_against 1 = .ok (.iload_n 1, 1) := by decide +kernel
theorem dX4_against_2 : decode cX4_against 2 = .ok (.invokestatic 142, 3) := by decide +kernel
theorem dX4_against_5 : decode cX4_against 5 = .ok (.ifCond .ne 7, 3) := by decide +kernel
theorem dX4_against_8 : decode cX4_against 8 = .ok (.iconst 1, 1) := by decide +kernel
theorem dX4_against_9 : decode cX4_against 9 = .ok (.goto 4, 3) := by decide +kernel
theorem dX4_against_12 : decode cX4_against 12 = .ok (.iconst 0, 1) := by decide +kernel
theorem dX4_against_13 : decode cX4_against 13 = .ok (.iconst 0, 1) := by decide +kernel
theorem dX4_against_14 : decode cX4_against 14 = .ok (.invokevirtual 153, 3) := by decide +kernel
theorem dX4_against_17 : decode cX4_against 17 = .ok (.ifCond .eq 5, 3) := by decide +kernel
theorem dX4_against_20 : decode cX4_against 20 = .ok (.iconst 0, 1) := by decide +kernel
theorem dX4_against_21 : decode cX4_against 21 = .ok (.ireturn, 1) := by decide +kernel
theorem dX4_against_22 : decode cX4_against 22 = .ok (.iload_n 1, 1) := by decide +kernel
theorem dX4_against_23 : decode cX4_against 23 = .ok (.aload_n 0, 1) := by decide +kernel
theorem dX4_against_24 : decode cX4_against 24 = .ok (.getfield 13, 3) := by decide +kernel
theorem dX4_against_27 : decode cX4_against 27 = .ok (.iload_n 1, 1) := by decide +kernel
theorem dX4_against_28 : decode cX4_against 28 = .ok (.laload, 1) := by decide +kernel
theorem dX4_against_29 : decode cX4_against 29 = .ok (.aload_n 0, 1) := by decide +kernel
theorem dX4_against_30 : decode cX4_against 30 = .ok (.getfield 7, 3) := by decide +kernel
theorem dX4_against_33 : decode cX4_against 33 = .ok (.iload_n 1, 1) := by decide +kernel
theorem dX4_against_34 : decode cX4_against 34 = .ok (.laload, 1) := by decide +kernel
theorem dX4_against_35 : decode cX4_against 35 = .ok (.invokestatic 116, 3) := by decide +kernel
theorem dX4_against_38 : decode cX4_against 38 = .ok (.istore_n 2, 1) := by decide +kernel
theorem dX4_against_39 : decode cX4_against 39 = .ok (.iload_n 1, 1) := by decide +kernel
theorem dX4_against_40 : decode cX4_against 40 = .ok (.iconst 1, 1) := by decide +kernel
theorem dX4_against_41 : decode cX4_against 41 = .ok (.if_icmp .le 37, 3) := by decide +kernel
theorem dX4_against_44 : decode cX4_against 44 = .ok (.iload_n 1, 1) := by decide +kernel
theorem dX4_against_45 : decode cX4_against 45 = .ok (.aload_n 0, 1) := by decide +kernel
theorem dX4_against_46 : decode cX4_against 46 = .ok (.getfield 13, 3) := by decide +kernel
theorem dX4_against_49 : decode cX4_against 49 = .ok (.iload_n 1, 1) := by decide +kernel
theorem dX4_against_50 : decode cX4_against 50 = .ok (.laload, 1) := by decide +kernel
theorem dX4_against_51 : decode cX4_against 51 = .ok (.invokestatic 87, 3) := by decide +kernel
theorem dX4_against_54 : decode cX4_against 54 = .ok (.lconst 0, 1) := by decide +kernel
theorem dX4_against_55 : decode cX4_against 55 = .ok (.lcmp, 1) := by decide +kernel
theorem dX4_against_56 : decode cX4_against 56 = .ok (.ifCond .ne 22, 3) := by decide +kernel
theorem dX4_against_59 : decode cX4_against 59 = .ok (.iload_n 1, 1) := by decide +kernel
theorem dX4_against_60 : decode cX4_against 60 = .ok (.aload_n 0, 1) := by decide +kernel
theorem dX4_against_61 : decode cX4_against 61 = .ok (.getfield 7, 3) := by decide +kernel
theorem dX4_against_64 : decode cX4_against 64 = .ok (.iload_n 1, 1) := by decide +kernel
theorem dX4_against_65 : decode cX4_against 65 = .ok (.laload, 1) := by decide +kernel
theorem dX4_against_66 : decode cX4_against 66 = .ok (.invokestatic 87, 3) := by decide +kernel
theorem dX4_against_69 : decode cX4_against 69 = .ok (.lconst 0, 1) := by decide +kernel
theorem dX4_against_70 : decode cX4_against 70 = .ok (.lcmp, 1) := by decide +kernel
theorem dX4_against_71 : decode cX4_against 71 = .ok (.ifCond .ne 7, 3) := by decide +kernel
theorem dX4_against_74 : decode cX4_against 74 = .ok (.iconst 1, 1) := by decide +kernel
theorem dX4_against_75 : decode cX4_against 75 = .ok (.goto 4, 3) := by decide +kernel
theorem dX4_against_78 : decode cX4_against 78 = .ok (.iconst 0, 1) := by decide +kernel
theorem dX4_against_79 : decode cX4_against 79 = .ok (.istore_n 3, 1) := by decide +kernel
theorem dX4_against_80 : decode cX4_against 80 = .ok (.iload_n 3, 1) := by decide +kernel
theorem dX4_against_81 : decode cX4_against 81 = .ok (.ifCond .eq 11, 3) := by decide +kernel
theorem dX4_against_84 : decode cX4_against 84 = .ok (.iload_n 2, 1) := by decide +kernel
theorem dX4_against_85 : decode cX4_against 85 = .ok (.ifCond .eq 7, 3) := by decide +kernel
theorem dX4_against_88 : decode cX4_against 88 = .ok (.iconst 2, 1) := by decide +kernel
theorem dX4_against_89 : decode cX4_against 89 = .ok (.goto 4, 3) := by decide +kernel
theorem dX4_against_92 : decode cX4_against 92 = .ok (.iload_n 2, 1) := by decide +kernel
theorem dX4_against_93 : decode cX4_against 93 = .ok (.ireturn, 1) := by decide +kernel
set_option maxRecDepth 20000 in
theorem ggX4_save_X4_isWire : GoodIn wsX4_save wsX4_isWire := goodIn_r _ [12] (by decide +kernel) (by decide +kernel)
set_option maxRecDepth 20000 in
theorem gX4_save_X4_isWire : GoodIn wsX4_save (va_wsS RX4 142 yX4_isWire wsX4_isWire) := goodIn_app (goodIn_of _ (by decide +kernel)) ggX4_save_X4_isWire
set_option maxRecDepth 20000 in
theorem ggX4_save_X4_refuses : GoodIn wsX4_save wsX4_refuses := goodIn_r _ [16, 17, 18, 19, 20, 21, 22, 23, 24, 25, 26, 27, 28, 29, 30, 31, 32, 33, 34, 35] (by decide +kernel) (by decide +kernel)
set_option maxRecDepth 20000 in
theorem gX4_save_X4_refuses : GoodIn wsX4_save (wsV RX4 153 RX4 yX4_refuses wsX4_refuses) := goodIn_app (goodIn_of _ (by decide +kernel)) ggX4_save_X4_refuses
theorem dX4_save_0 : decode cX4_save 0 = .ok (.aload_n 0, 1) := by decide +kernel
theorem dX4_save_1 : decode cX4_save 1 = .ok (.iload_n 1, 1) := by decide +kernel
theorem dX4_save_2 : decode cX4_save 2 = .ok (.invokestatic 142, 3) := by decide +kernel
theorem dX4_save_5 : decode cX4_save 5 = .ok (.ifCond .eq 12, 3) := by decide +kernel
theorem dX4_save_8 : decode cX4_save 8 = .ok (.iload_n 2, 1) := by decide +kernel
theorem dX4_save_9 : decode cX4_save 9 = .ok (.ifCond .lt 8, 3) := by decide +kernel
theorem dX4_save_12 : decode cX4_save 12 = .ok (.iload_n 2, 1) := by decide +kernel
theorem dX4_save_13 : decode cX4_save 13 = .ok (.iconst 3, 1) := by decide +kernel
theorem dX4_save_14 : decode cX4_save 14 = .ok (.if_icmp .le 7, 3) := by decide +kernel
theorem dX4_save_17 : decode cX4_save 17 = .ok (.iconst 1, 1) := by decide +kernel
theorem dX4_save_18 : decode cX4_save 18 = .ok (.goto 4, 3) := by decide +kernel
theorem dX4_save_21 : decode cX4_save 21 = .ok (.iconst 0, 1) := by decide +kernel
theorem dX4_save_22 : decode cX4_save 22 = .ok (.iconst 0, 1) := by decide +kernel
theorem dX4_save_23 : decode cX4_save 23 = .ok (.invokevirtual 153, 3) := by decide +kernel
theorem dX4_save_26 : decode cX4_save 26 = .ok (.ifCond .eq 5, 3) := by decide +kernel
theorem dX4_save_29 : decode cX4_save 29 = .ok (.iconst 0, 1) := by decide +kernel
theorem dX4_save_30 : decode cX4_save 30 = .ok (.ireturn, 1) := by decide +kernel
theorem dX4_save_31 : decode cX4_save 31 = .ok (.iconst 4, 1) := by decide +kernel
theorem dX4_save_32 : decode cX4_save 32 = .ok (.iload_n 1, 1) := by decide +kernel
theorem dX4_save_33 : decode cX4_save 33 = .ok (.imul, 1) := by decide +kernel
theorem dX4_save_34 : decode cX4_save 34 = .ok (.iload_n 2, 1) := by decide +kernel
theorem dX4_save_35 : decode cX4_save 35 = .ok (.iadd, 1) := by decide +kernel
theorem dX4_save_36 : decode cX4_save 36 = .ok (.istore_n 3, 1) := by decide +kernel
theorem dX4_save_37 : decode cX4_save 37 = .ok (.aload_n 0, 1) := by decide +kernel
theorem dX4_save_38 : decode cX4_save 38 = .ok (.getfield 51, 3) := by decide +kernel
theorem dX4_save_41 : decode cX4_save 41 = .ok (.iload_n 3, 1) := by decide +kernel
theorem dX4_save_42 : decode cX4_save 42 = .ok (.aload_n 0, 1) := by decide +kernel
theorem dX4_save_43 : decode cX4_save 43 = .ok (.getfield 26, 3) := by decide +kernel
theorem dX4_save_46 : decode cX4_save 46 = .ok (.iload_n 1, 1) := by decide +kernel
theorem dX4_save_47 : decode cX4_save 47 = .ok (.iaload, 1) := by decide +kernel
theorem dX4_save_48 : decode cX4_save 48 = .ok (.iastore, 1) := by decide +kernel
theorem dX4_save_49 : decode cX4_save 49 = .ok (.iconst 0, 1) := by decide +kernel
theorem dX4_save_50 : decode cX4_save 50 = .ok (.istore 4, 2) := by decide +kernel
theorem dX4_save_52 : decode cX4_save 52 = .ok (.iload 4, 2) := by decide +kernel
theorem dX4_save_54 : decode cX4_save 54 = .ok (.aload_n 0, 1) := by decide +kernel
theorem dX4_save_55 : decode cX4_save 55 = .ok (.getfield 26, 3) := by decide +kernel
theorem dX4_save_58 : decode cX4_save 58 = .ok (.iload_n 1, 1) := by decide +kernel
theorem dX4_save_59 : decode cX4_save 59 = .ok (.iaload, 1) := by decide +kernel
theorem dX4_save_60 : decode cX4_save 60 = .ok (.if_icmp .ge 81, 3) := by decide +kernel
theorem dX4_save_63 : decode cX4_save 63 = .ok (.aload_n 0, 1) := by decide +kernel
theorem dX4_save_64 : decode cX4_save 64 = .ok (.getfield 54, 3) := by decide +kernel
theorem dX4_save_67 : decode cX4_save 67 = .ok (.bipush 12, 2) := by decide +kernel
theorem dX4_save_69 : decode cX4_save 69 = .ok (.iload_n 3, 1) := by decide +kernel
theorem dX4_save_70 : decode cX4_save 70 = .ok (.imul, 1) := by decide +kernel
theorem dX4_save_71 : decode cX4_save 71 = .ok (.iload 4, 2) := by decide +kernel
theorem dX4_save_73 : decode cX4_save 73 = .ok (.iadd, 1) := by decide +kernel
theorem dX4_save_74 : decode cX4_save 74 = .ok (.aload_n 0, 1) := by decide +kernel
theorem dX4_save_75 : decode cX4_save 75 = .ok (.getfield 36, 3) := by decide +kernel
theorem dX4_save_78 : decode cX4_save 78 = .ok (.bipush 12, 2) := by decide +kernel
theorem dX4_save_80 : decode cX4_save 80 = .ok (.iload_n 1, 1) := by decide +kernel
theorem dX4_save_81 : decode cX4_save 81 = .ok (.imul, 1) := by decide +kernel
theorem dX4_save_82 : decode cX4_save 82 = .ok (.iload 4, 2) := by decide +kernel
theorem dX4_save_84 : decode cX4_save 84 = .ok (.iadd, 1) := by decide +kernel
theorem dX4_save_85 : decode cX4_save 85 = .ok (.iaload, 1) := by decide +kernel
theorem dX4_save_86 : decode cX4_save 86 = .ok (.iastore, 1) := by decide +kernel
theorem dX4_save_87 : decode cX4_save 87 = .ok (.aload_n 0, 1) := by decide +kernel
theorem dX4_save_88 : decode cX4_save 88 = .ok (.getfield 57, 3) := by decide +kernel
theorem dX4_save_91 : decode cX4_save 91 = .ok (.bipush 12, 2) := by decide +kernel
theorem dX4_save_93 : decode cX4_save 93 = .ok (.iload_n 3, 1) := by decide +kernel
theorem dX4_save_94 : decode cX4_save 94 = .ok (.imul, 1) := by decide +kernel
theorem dX4_save_95 : decode cX4_save 95 = .ok (.iload 4, 2) := by decide +kernel
theorem dX4_save_97 : decode cX4_save 97 = .ok (.iadd, 1) := by decide +kernel
theorem dX4_save_98 : decode cX4_save 98 = .ok (.aload_n 0, 1) := by decide +kernel
theorem dX4_save_99 : decode cX4_save 99 = .ok (.getfield 39, 3) := by decide +kernel
theorem dX4_save_102 : decode cX4_save 102 = .ok (.bipush 12, 2) := by decide +kernel
theorem dX4_save_104 : decode cX4_save 104 = .ok (.iload_n 1, 1) := by decide +kernel
theorem dX4_save_105 : decode cX4_save 105 = .ok (.imul, 1) := by decide +kernel
theorem dX4_save_106 : decode cX4_save 106 = .ok (.iload 4, 2) := by decide +kernel
theorem dX4_save_108 : decode cX4_save 108 = .ok (.iadd, 1) := by decide +kernel
theorem dX4_save_109 : decode cX4_save 109 = .ok (.laload, 1) := by decide +kernel
theorem dX4_save_110 : decode cX4_save 110 = .ok (.lastore, 1) := by decide +kernel
theorem dX4_save_111 : decode cX4_save 111 = .ok (.aload_n 0, 1) := by decide +kernel
theorem dX4_save_112 : decode cX4_save 112 = .ok (.getfield 60, 3) := by decide +kernel
theorem dX4_save_115 : decode cX4_save 115 = .ok (.bipush 12, 2) := by decide +kernel
theorem dX4_save_117 : decode cX4_save 117 = .ok (.iload_n 3, 1) := by decide +kernel
theorem dX4_save_118 : decode cX4_save 118 = .ok (.imul, 1) := by decide +kernel
theorem dX4_save_119 : decode cX4_save 119 = .ok (.iload 4, 2) := by decide +kernel
theorem dX4_save_121 : decode cX4_save 121 = .ok (.iadd, 1) := by decide +kernel
theorem dX4_save_122 : decode cX4_save 122 = .ok (.aload_n 0, 1) := by decide +kernel
theorem dX4_save_123 : decode cX4_save 123 = .ok (.getfield 45, 3) := by decide +kernel
theorem dX4_save_126 : decode cX4_save 126 = .ok (.bipush 12, 2) := by decide +kernel
theorem dX4_save_128 : decode cX4_save 128 = .ok (.iload_n 1, 1) := by decide +kernel
theorem dX4_save_129 : decode cX4_save 129 = .ok (.imul, 1) := by decide +kernel
theorem dX4_save_130 : decode cX4_save 130 = .ok (.iload 4, 2) := by decide +kernel
theorem dX4_save_132 : decode cX4_save 132 = .ok (.iadd, 1) := by decide +kernel
theorem dX4_save_133 : decode cX4_save 133 = .ok (.baload, 1) := by decide +kernel
theorem dX4_save_134 : decode cX4_save 134 = .ok (.bastore, 1) := by decide +kernel
theorem dX4_save_135 : decode cX4_save 135 = .ok (.iinc 4 1, 3) := by decide +kernel
theorem dX4_save_138 : decode cX4_save 138 = .ok (.goto (-86), 3) := by decide +kernel
theorem dX4_save_141 : decode cX4_save 141 = .ok (.aload_n 0, 1) := by decide +kernel
theorem dX4_save_142 : decode cX4_save 142 = .ok (.getfield 26, 3) := by decide +kernel
theorem dX4_save_145 : decode cX4_save 145 = .ok (.iload_n 1, 1) := by decide +kernel
theorem dX4_save_146 : decode cX4_save 146 = .ok (.iaload, 1) := by decide +kernel
theorem dX4_save_147 : decode cX4_save 147 = .ok (.ireturn, 1) := by decide +kernel
set_option maxRecDepth 20000 in
theorem ggX4_recall_X4_isWire : GoodIn wsX4_recall wsX4_isWire := goodIn_r _ [13] (by decide +kernel) (by decide +kernel)
set_option maxRecDepth 20000 in
theorem gX4_recall_X4_isWire : GoodIn wsX4_recall (va_wsS RX4 142 yX4_isWire wsX4_isWire) := goodIn_app (goodIn_of _ (by decide +kernel)) ggX4_recall_X4_isWire
set_option maxRecDepth 20000 in
theorem ggX4_recall_X4_refuses : GoodIn wsX4_recall wsX4_refuses := goodIn_r _ [17, 18, 19, 20, 21, 22, 23, 24, 25, 26, 27, 28, 29, 30, 31, 32, 33, 34, 35, 36] (by decide +kernel) (by decide +kernel)
set_option maxRecDepth 20000 in
theorem gX4_recall_X4_refuses : GoodIn wsX4_recall (wsV RX4 153 RX4 yX4_refuses wsX4_refuses) := goodIn_app (goodIn_of _ (by decide +kernel)) ggX4_recall_X4_refuses
theorem dX4_recall_0 : decode cX4_recall 0 = .ok (.aload_n 0, 1) := by decide +kernel
theorem dX4_recall_1 : decode cX4_recall 1 = .ok (.iload_n 1, 1) := by decide +kernel
theorem dX4_recall_2 : decode cX4_recall 2 = .ok (.invokestatic 142, 3) := by decide +kernel
theorem dX4_recall_5 : decode cX4_recall 5 = .ok (.ifCond .eq 12, 3) := by decide +kernel
theorem dX4_recall_8 : decode cX4_recall 8 = .ok (.iload_n 2, 1) := by decide +kernel
theorem dX4_recall_9 : decode cX4_recall 9 = .ok (.ifCond .lt 8, 3) := by decide +kernel
theorem dX4_recall_12 : decode cX4_recall 12 = .ok (.iload_n 2, 1) := by decide +kernel
theorem dX4_recall_13 : decode cX4_recall 13 = .ok (.iconst 3, 1) := by decide +kernel
theorem dX4_recall_14 : decode cX4_recall 14 = .ok (.if_icmp .le 7, 3) := by decide +kernel
theorem dX4_recall_17 : decode cX4_recall 17 = .ok (.iconst 1, 1) := by decide +kernel
theorem dX4_recall_18 : decode cX4_recall 18 = .ok (.goto 4, 3) := by decide +kernel
theorem dX4_recall_21 : decode cX4_recall 21 = .ok (.iconst 0, 1) := by decide +kernel
theorem dX4_recall_22 : decode cX4_recall 22 = .ok (.iconst 0, 1) := by decide +kernel
theorem dX4_recall_23 : decode cX4_recall 23 = .ok (.invokevirtual 153, 3) := by decide +kernel
theorem dX4_recall_26 : decode cX4_recall 26 = .ok (.ifCond .eq 5, 3) := by decide +kernel
theorem dX4_recall_29 : decode cX4_recall 29 = .ok (.iconst 0, 1) := by decide +kernel
theorem dX4_recall_30 : decode cX4_recall 30 = .ok (.ireturn, 1) := by decide +kernel
theorem dX4_recall_31 : decode cX4_recall 31 = .ok (.iconst 4, 1) := by decide +kernel
theorem dX4_recall_32 : decode cX4_recall 32 = .ok (.iload_n 1, 1) := by decide +kernel
theorem dX4_recall_33 : decode cX4_recall 33 = .ok (.imul, 1) := by decide +kernel
theorem dX4_recall_34 : decode cX4_recall 34 = .ok (.iload_n 2, 1) := by decide +kernel
theorem dX4_recall_35 : decode cX4_recall 35 = .ok (.iadd, 1) := by decide +kernel
theorem dX4_recall_36 : decode cX4_recall 36 = .ok (.istore_n 3, 1) := by decide +kernel
theorem dX4_recall_37 : decode cX4_recall 37 = .ok (.aload_n 0, 1) := by decide +kernel
theorem dX4_recall_38 : decode cX4_recall 38 = .ok (.getfield 26, 3) := by decide +kernel
theorem dX4_recall_41 : decode cX4_recall 41 = .ok (.iload_n 1, 1) := by decide +kernel
theorem dX4_recall_42 : decode cX4_recall 42 = .ok (.aload_n 0, 1) := by decide +kernel
theorem dX4_recall_43 : decode cX4_recall 43 = .ok (.getfield 51, 3) := by decide +kernel
theorem dX4_recall_46 : decode cX4_recall 46 = .ok (.iload_n 3, 1) := by decide +kernel
theorem dX4_recall_47 : decode cX4_recall 47 = .ok (.iaload, 1) := by decide +kernel
theorem dX4_recall_48 : decode cX4_recall 48 = .ok (.iastore, 1) := by decide +kernel
theorem dX4_recall_49 : decode cX4_recall 49 = .ok (.iconst 0, 1) := by decide +kernel
theorem dX4_recall_50 : decode cX4_recall 50 = .ok (.istore 4, 2) := by decide +kernel
theorem dX4_recall_52 : decode cX4_recall 52 = .ok (.iload 4, 2) := by decide +kernel
theorem dX4_recall_54 : decode cX4_recall 54 = .ok (.aload_n 0, 1) := by decide +kernel
theorem dX4_recall_55 : decode cX4_recall 55 = .ok (.getfield 26, 3) := by decide +kernel
theorem dX4_recall_58 : decode cX4_recall 58 = .ok (.iload_n 1, 1) := by decide +kernel
theorem dX4_recall_59 : decode cX4_recall 59 = .ok (.iaload, 1) := by decide +kernel
theorem dX4_recall_60 : decode cX4_recall 60 = .ok (.if_icmp .ge 81, 3) := by decide +kernel
theorem dX4_recall_63 : decode cX4_recall 63 = .ok (.aload_n 0, 1) := by decide +kernel
theorem dX4_recall_64 : decode cX4_recall 64 = .ok (.getfield 36, 3) := by decide +kernel
theorem dX4_recall_67 : decode cX4_recall 67 = .ok (.bipush 12, 2) := by decide +kernel
theorem dX4_recall_69 : decode cX4_recall 69 = .ok (.iload_n 1, 1) := by decide +kernel
theorem dX4_recall_70 : decode cX4_recall 70 = .ok (.imul, 1) := by decide +kernel
theorem dX4_recall_71 : decode cX4_recall 71 = .ok (.iload 4, 2) := by decide +kernel
theorem dX4_recall_73 : decode cX4_recall 73 = .ok (.iadd, 1) := by decide +kernel
theorem dX4_recall_74 : decode cX4_recall 74 = .ok (.aload_n 0, 1) := by decide +kernel
theorem dX4_recall_75 : decode cX4_recall 75 = .ok (.getfield 54, 3) := by decide +kernel
theorem dX4_recall_78 : decode cX4_recall 78 = .ok (.bipush 12, 2) := by decide +kernel
theorem dX4_recall_80 : decode cX4_recall 80 = .ok (.iload_n 3, 1) := by decide +kernel
theorem dX4_recall_81 : decode cX4_recall 81 = .ok (.imul, 1) := by decide +kernel
theorem dX4_recall_82 : decode cX4_recall 82 = .ok (.iload 4, 2) := by decide +kernel
theorem dX4_recall_84 : decode cX4_recall 84 = .ok (.iadd, 1) := by decide +kernel
theorem dX4_recall_85 : decode cX4_recall 85 = .ok (.iaload, 1) := by decide +kernel
theorem dX4_recall_86 : decode cX4_recall 86 = .ok (.iastore, 1) := by decide +kernel
theorem dX4_recall_87 : decode cX4_recall 87 = .ok (.aload_n 0, 1) := by decide +kernel
theorem dX4_recall_88 : decode cX4_recall 88 = .ok (.getfield 39, 3) := by decide +kernel
theorem dX4_recall_91 : decode cX4_recall 91 = .ok (.bipush 12, 2) := by decide +kernel
theorem dX4_recall_93 : decode cX4_recall 93 = .ok (.iload_n 1, 1) := by decide +kernel
theorem dX4_recall_94 : decode cX4_recall 94 = .ok (.imul, 1) := by decide +kernel
theorem dX4_recall_95 : decode cX4_recall 95 = .ok (.iload 4, 2) := by decide +kernel
theorem dX4_recall_97 : decode cX4_recall 97 = .ok (.iadd, 1) := by decide +kernel
theorem dX4_recall_98 : decode cX4_recall 98 = .ok (.aload_n 0, 1) := by decide +kernel
theorem dX4_recall_99 : decode cX4_recall 99 = .ok (.getfield 57, 3) := by decide +kernel
theorem dX4_recall_102 : decode cX4_recall 102 = .ok (.bipush 12, 2) := by decide +kernel
theorem dX4_recall_104 : decode cX4_recall 104 = .ok (.iload_n 3, 1) := by decide +kernel
theorem dX4_recall_105 : decode cX4_recall 105 = .ok (.imul, 1) := by decide +kernel
theorem dX4_recall_106 : decode cX4_recall 106 = .ok (.iload 4, 2) := by decide +kernel
theorem dX4_recall_108 : decode cX4_recall 108 = .ok (.iadd, 1) := by decide +kernel
theorem dX4_recall_109 : decode cX4_recall 109 = .ok (.laload, 1) := by decide +kernel
theorem dX4_recall_110 : decode cX4_recall 110 = .ok (.lastore, 1) := by decide +kernel
theorem dX4_recall_111 : decode cX4_recall 111 = .ok (.aload_n 0, 1) := by decide +kernel
theorem dX4_recall_112 : decode cX4_recall 112 = .ok (.getfield 45, 3) := by decide +kernel
theorem dX4_recall_115 : decode cX4_recall 115 = .ok (.bipush 12, 2) := by decide +kernel
theorem dX4_recall_117 : decode cX4_recall 117 = .ok (.iload_n 1, 1) := by decide +kernel
theorem dX4_recall_118 : decode cX4_recall 118 = .ok (.imul, 1) := by decide +kernel
theorem dX4_recall_119 : decode cX4_recall 119 = .ok (.iload 4, 2) := by decide +kernel
theorem dX4_recall_121 : decode cX4_recall 121 = .ok (.iadd, 1) := by decide +kernel
theorem dX4_recall_122 : decode cX4_recall 122 = .ok (.aload_n 0, 1) := by decide +kernel
theorem dX4_recall_123 : decode cX4_recall 123 = .ok (.getfield 60, 3) := by decide +kernel
theorem dX4_recall_126 : decode cX4_recall 126 = .ok (.bipush 12, 2) := by decide +kernel
theorem dX4_recall_128 : decode cX4_recall 128 = .ok (.iload_n 3, 1) := by decide +kernel
theorem dX4_recall_129 : decode cX4_recall 129 = .ok (.imul, 1) := by decide +kernel
theorem dX4_recall_130 : decode cX4_recall 130 = .ok (.iload 4, 2) := by decide +kernel
theorem dX4_recall_132 : decode cX4_recall 132 = .ok (.iadd, 1) := by decide +kernel
theorem dX4_recall_133 : decode cX4_recall 133 = .ok (.baload, 1) := by decide +kernel
theorem dX4_recall_134 : decode cX4_recall 134 = .ok (.bastore, 1) := by decide +kernel
theorem dX4_recall_135 : decode cX4_recall 135 = .ok (.iinc 4 1, 3) := by decide +kernel
theorem dX4_recall_138 : decode cX4_recall 138 = .ok (.goto (-86), 3) := by decide +kernel
theorem dX4_recall_141 : decode cX4_recall 141 = .ok (.aload_n 0, 1) := by decide +kernel
theorem dX4_recall_142 : decode cX4_recall 142 = .ok (.getfield 29, 3) := by decide +kernel
theorem dX4_recall_145 : decode cX4_recall 145 = .ok (.iload_n 1, 1) := by decide +kernel
theorem dX4_recall_146 : decode cX4_recall 146 = .ok (.iconst 0, 1) := by decide +kernel
theorem dX4_recall_147 : decode cX4_recall 147 = .ok (.bastore, 1) := by decide +kernel
theorem dX4_recall_148 : decode cX4_recall 148 = .ok (.aload_n 0, 1) := by decide +kernel
theorem dX4_recall_149 : decode cX4_recall 149 = .ok (.getfield 26, 3) := by decide +kernel
theorem dX4_recall_152 : decode cX4_recall 152 = .ok (.iload_n 1, 1) := by decide +kernel
theorem dX4_recall_153 : decode cX4_recall 153 = .ok (.iaload, 1) := by decide +kernel
theorem dX4_recall_154 : decode cX4_recall 154 = .ok (.ireturn, 1) := by decide +kernel
set_option maxRecDepth 20000 in
theorem ggX4_about_X4_isWire : GoodIn wsX4_about wsX4_isWire := goodIn_r _ [10] (by decide +kernel) (by decide +kernel)
set_option maxRecDepth 20000 in
theorem gX4_about_X4_isWire : GoodIn wsX4_about (va_wsS RX4 142 yX4_isWire wsX4_isWire) := goodIn_app (goodIn_of _ (by decide +kernel)) ggX4_about_X4_isWire
theorem dX4_about_0 : decode cX4_about 0 = .ok (.aload_n 0, 1) := by decide +kernel
theorem dX4_about_1 : decode cX4_about 1 = .ok (.iconst 0, 1) := by decide +kernel
theorem dX4_about_2 : decode cX4_about 2 = .ok (.putfield 63, 3) := by decide +kernel
theorem dX4_about_5 : decode cX4_about 5 = .ok (.iload_n 1, 1) := by decide +kernel
theorem dX4_about_6 : decode cX4_about 6 = .ok (.invokestatic 142, 3) := by decide +kernel
theorem dX4_about_9 : decode cX4_about 9 = .ok (.ifCond .eq 12, 3) := by decide +kernel
theorem dX4_about_12 : decode cX4_about 12 = .ok (.iload_n 2, 1) := by decide +kernel
theorem dX4_about_13 : decode cX4_about 13 = .ok (.ifCond .lt 8, 3) := by decide +kernel
theorem dX4_about_16 : decode cX4_about 16 = .ok (.iload_n 2, 1) := by decide +kernel
theorem dX4_about_17 : decode cX4_about 17 = .ok (.iconst 3, 1) := by decide +kernel
theorem dX4_about_18 : decode cX4_about 18 = .ok (.if_icmp .le 5, 3) := by decide +kernel
theorem dX4_about_21 : decode cX4_about 21 = .ok (.iconst (-1), 1) := by decide +kernel
theorem dX4_about_22 : decode cX4_about 22 = .ok (.ireturn, 1) := by decide +kernel
theorem dX4_about_23 : decode cX4_about 23 = .ok (.iload_n 2, 1) := by decide +kernel
theorem dX4_about_24 : decode cX4_about 24 = .ok (.ifCond .ne 10, 3) := by decide +kernel
theorem dX4_about_27 : decode cX4_about 27 = .ok (.aload_n 0, 1) := by decide +kernel
theorem dX4_about_28 : decode cX4_about 28 = .ok (.getfield 26, 3) := by decide +kernel
theorem dX4_about_31 : decode cX4_about 31 = .ok (.iload_n 1, 1) := by decide +kernel
theorem dX4_about_32 : decode cX4_about 32 = .ok (.iaload, 1) := by decide +kernel
theorem dX4_about_33 : decode cX4_about 33 = .ok (.ireturn, 1) := by decide +kernel
theorem dX4_about_34 : decode cX4_about 34 = .ok (.iload_n 2, 1) := by decide +kernel
theorem dX4_about_35 : decode cX4_about 35 = .ok (.iconst 3, 1) := by decide +kernel
theorem dX4_about_36 : decode cX4_about 36 = .ok (.if_icmp .ne 10, 3) := by decide +kernel
theorem dX4_about_39 : decode cX4_about 39 = .ok (.aload_n 0, 1) := by decide +kernel
theorem dX4_about_40 : decode cX4_about 40 = .ok (.getfield 22, 3) := by decide +kernel
theorem dX4_about_43 : decode cX4_about 43 = .ok (.iload_n 1, 1) := by decide +kernel
theorem dX4_about_44 : decode cX4_about 44 = .ok (.iaload, 1) := by decide +kernel
theorem dX4_about_45 : decode cX4_about 45 = .ok (.ireturn, 1) := by decide +kernel
theorem dX4_about_46 : decode cX4_about 46 = .ok (.iconst 0, 1) := by decide +kernel
theorem dX4_about_47 : decode cX4_about 47 = .ok (.istore_n 3, 1) := by decide +kernel
theorem dX4_about_48 : decode cX4_about 48 = .ok (.bipush 12, 2) := by decide +kernel
theorem dX4_about_50 : decode cX4_about 50 = .ok (.iload_n 1, 1) := by decide +kernel
theorem dX4_about_51 : decode cX4_about 51 = .ok (.imul, 1) := by decide +kernel
theorem dX4_about_52 : decode cX4_about 52 = .ok (.istore 4, 2) := by decide +kernel
theorem dX4_about_54 : decode cX4_about 54 = .ok (.iload 4, 2) := by decide +kernel
theorem dX4_about_56 : decode cX4_about 56 = .ok (.bipush 12, 2) := by decide +kernel
theorem dX4_about_58 : decode cX4_about 58 = .ok (.iload_n 1, 1) := by decide +kernel
theorem dX4_about_59 : decode cX4_about 59 = .ok (.imul, 1) := by decide +kernel
theorem dX4_about_60 : decode cX4_about 60 = .ok (.aload_n 0, 1) := by decide +kernel
theorem dX4_about_61 : decode cX4_about 61 = .ok (.getfield 26, 3) := by decide +kernel
theorem dX4_about_64 : decode cX4_about 64 = .ok (.iload_n 1, 1) := by decide +kernel
theorem dX4_about_65 : decode cX4_about 65 = .ok (.iaload, 1) := by decide +kernel
theorem dX4_about_66 : decode cX4_about 66 = .ok (.iadd, 1) := by decide +kernel
theorem dX4_about_67 : decode cX4_about 67 = .ok (.if_icmp .ge 59, 3) := by decide +kernel
theorem dX4_about_70 : decode cX4_about 70 = .ok (.iload_n 3, 1) := by decide +kernel
theorem dX4_about_71 : decode cX4_about 71 = .ok (.iload_n 2, 1) := by decide +kernel
theorem dX4_about_72 : decode cX4_about 72 = .ok (.iconst 1, 1) := by decide +kernel
theorem dX4_about_73 : decode cX4_about 73 = .ok (.if_icmp .ne 21, 3) := by decide +kernel
theorem dX4_about_76 : decode cX4_about 76 = .ok (.aload_n 0, 1) := by decide +kernel
theorem dX4_about_77 : decode cX4_about 77 = .ok (.getfield 45, 3) := by decide +kernel
theorem dX4_about_80 : decode cX4_about 80 = .ok (.iload 4, 2) := by decide +kernel
theorem dX4_about_82 : decode cX4_about 82 = .ok (.baload, 1) := by decide +kernel
theorem dX4_about_83 : decode cX4_about 83 = .ok (.ifCond .eq 7, 3) := by decide +kernel
theorem dX4_about_86 : decode cX4_about 86 = .ok (.iconst 1, 1) := by decide +kernel
theorem dX4_about_87 : decode cX4_about 87 = .ok (.goto 31, 3) := by decide +kernel
theorem dX4_about_90 : decode cX4_about 90 = .ok (.iconst 0, 1) := by decide +kernel
theorem dX4_about_91 : decode cX4_about 91 = .ok (.goto 27, 3) := by decide +kernel
theorem dX4_about_94 : decode cX4_about 94 = .ok (.aload_n 0, 1) := by decide +kernel
theorem dX4_about_95 : decode cX4_about 95 = .ok (.getfield 29, 3) := by decide +kernel
theorem dX4_about_98 : decode cX4_about 98 = .ok (.iload_n 1, 1) := by decide +kernel
theorem dX4_about_99 : decode cX4_about 99 = .ok (.baload, 1) := by decide +kernel
theorem dX4_about_100 : decode cX4_about 100 = .ok (.ifCond .eq 17, 3) := by decide +kernel
theorem dX4_about_103 : decode cX4_about 103 = .ok (.aload_n 0, 1) := by decide +kernel
theorem dX4_about_104 : decode cX4_about 104 = .ok (.getfield 48, 3) := by decide +kernel
theorem dX4_about_107 : decode cX4_about 107 = .ok (.iload 4, 2) := by decide +kernel
theorem dX4_about_109 : decode cX4_about 109 = .ok (.baload, 1) := by decide +kernel
theorem dX4_about_110 : decode cX4_about 110 = .ok (.ifCond .eq 7, 3) := by decide +kernel
theorem dX4_about_113 : decode cX4_about 113 = .ok (.iconst 1, 1) := by decide +kernel
theorem dX4_about_114 : decode cX4_about 114 = .ok (.goto 4, 3) := by decide +kernel
theorem dX4_about_117 : decode cX4_about 117 = .ok (.iconst 0, 1) := by decide +kernel
theorem dX4_about_118 : decode cX4_about 118 = .ok (.iadd, 1) := by decide +kernel
theorem dX4_about_119 : decode cX4_about 119 = .ok (.istore_n 3, 1) := by decide +kernel
theorem dX4_about_120 : decode cX4_about 120 = .ok (.iinc 4 1, 3) := by decide +kernel
theorem dX4_about_123 : decode cX4_about 123 = .ok (.goto (-69), 3) := by decide +kernel
theorem dX4_about_126 : decode cX4_about 126 = .ok (.iload_n 3, 1) := by decide +kernel
theorem dX4_about_127 : decode cX4_about 127 = .ok (.ireturn, 1) := by decide +kernel
theorem dJ9_max_7cf53_0 : decode cJ9_max_7cf53 0 = .ok (.iload_n 0, 1) := by decide +kernel
theorem dJ9_max_7cf53_1 : decode cJ9_max_7cf53 1 = .ok (.iload_n 1, 1) := by decide +kernel
theorem dJ9_max_7cf53_2 : decode cJ9_max_7cf53 2 = .ok (.if_icmp .lt 7, 3) := by decide +kernel
theorem dJ9_max_7cf53_5 : decode cJ9_max_7cf53 5 = .ok (.iload_n 0, 1) := by decide +kernel
theorem dJ9_max_7cf53_6 : decode cJ9_max_7cf53 6 = .ok (.goto 4, 3) := by decide +kernel
theorem dJ9_max_7cf53_9 : decode cJ9_max_7cf53 9 = .ok (.iload_n 1, 1) := by decide +kernel
theorem dJ9_max_7cf53_10 : decode cJ9_max_7cf53 10 = .ok (.ireturn, 1) := by decide +kernel
theorem dJ9_min_f86c9_0 : decode cJ9_min_f86c9 0 = .ok (.lload_n 0, 1) := by decide +kernel
theorem dJ9_min_f86c9_1 : decode cJ9_min_f86c9 1 = .ok (.lload_n 2, 1) := by decide +kernel
theorem dJ9_min_f86c9_2 : decode cJ9_min_f86c9 2 = .ok (.lcmp, 1) := by decide +kernel
theorem dJ9_min_f86c9_3 : decode cJ9_min_f86c9 3 = .ok (.ifCond .gt 7, 3) := by decide +kernel
theorem dJ9_min_f86c9_6 : decode cJ9_min_f86c9 6 = .ok (.lload_n 0, 1) := by decide +kernel
theorem dJ9_min_f86c9_7 : decode cJ9_min_f86c9 7 = .ok (.goto 4, 3) := by decide +kernel
theorem dJ9_min_f86c9_10 : decode cJ9_min_f86c9 10 = .ok (.lload_n 2, 1) := by decide +kernel
theorem dJ9_min_f86c9_11 : decode cJ9_min_f86c9 11 = .ok (.lreturn, 1) := by decide +kernel
set_option maxRecDepth 20000 in
theorem ggL_put_X3_put : GoodIn wsL_put wsX3_put := goodIn_ca (goodIn_r _ [6, 7, 8, 9, 5, 10, 11, 12, 13, 14, 15, 16, 17, 18, 19, 20, 21, 22, 23, 24, 25, 26, 27, 28, 29, 30, 31, 32, 33, 34, 35, 36, 37, 38, 39, 40, 41, 42, 43, 44, 45, 46, 47, 48, 49, 50, 51, 52, 53, 54, 55, 56, 57, 58, 59, 60, 61, 62, 63, 64] (by decide +kernel) (by decide +kernel)) (goodIn_sub (fun _ h => List.mem_cons_of_mem _ (List.mem_append_right _ h)) (by decide +kernel))
set_option maxRecDepth 20000 in
theorem gL_put_X3_put : GoodIn wsL_put (wsV RL 7 RX3 yX3_put wsX3_put) := goodIn_app (goodIn_of _ (by decide +kernel)) ggL_put_X3_put
theorem dL_put_0 : decode cL_put 0 = .ok (.aload 4, 2) := by decide +kernel
theorem dL_put_2 : decode cL_put 2 = .ok (.iconst 0, 1) := by decide +kernel
theorem dL_put_3 : decode cL_put 3 = .ok (.aload_n 0, 1) := by decide +kernel
theorem dL_put_4 : decode cL_put 4 = .ok (.iload_n 1, 1) := by decide +kernel
theorem dL_put_5 : decode cL_put 5 = .ok (.iload_n 2, 1) := by decide +kernel
theorem dL_put_6 : decode cL_put 6 = .ok (.iload_n 3, 1) := by decide +kernel
theorem dL_put_7 : decode cL_put 7 = .ok (.invokevirtual 7, 3) := by decide +kernel
theorem dL_put_10 : decode cL_put 10 = .ok (.ifCond .eq 7, 3) := by decide +kernel
theorem dL_put_13 : decode cL_put 13 = .ok (.lconst 1, 1) := by decide +kernel
theorem dL_put_14 : decode cL_put 14 = .ok (.goto 4, 3) := by decide +kernel
theorem dL_put_17 : decode cL_put 17 = .ok (.lconst 0, 1) := by decide +kernel
theorem dL_put_18 : decode cL_put 18 = .ok (.lastore, 1) := by decide +kernel
theorem dL_put_19 : decode cL_put 19 = .ok (.goto 7, 3) := by decide +kernel
theorem dL_put_22 : decode cL_put 22 = .ok (.astore 5, 2) := by decide +kernel
