theorem dX3_recall_5 : decode cX3_recall 5 = .ok (.astore_n 3, 1) := by decide +kernel
theorem dX3_recall_6 : decode cX3_recall 6 = .ok (.aload_n 3, 1) := by decide +kernel
theorem dX3_recall_7 : decode cX3_recall 7 = .ok (.iload_n 2, 1) := by decide +kernel
theorem dX3_recall_8 : decode cX3_recall 8 = .ok (.invokestatic 138, 3) := by decide +kernel
theorem dX3_recall_11 : decode cX3_recall 11 = .ok (.astore 4, 2) := by decide +kernel
theorem dX3_recall_13 : decode cX3_recall 13 = .ok (.aload_n 3, 1) := by decide +kernel
theorem dX3_recall_14 : decode cX3_recall 14 = .ok (.getfield 51, 3) := by decide +kernel
theorem dX3_recall_17 : decode cX3_recall 17 = .ok (.aload 4, 2) := by decide +kernel
theorem dX3_recall_19 : decode cX3_recall 19 = .ok (.invokevirtual 142, 3) := by decide +kernel
theorem dX3_recall_22 : decode cX3_recall 22 = .ok (.aload_n 3, 1) := by decide +kernel
theorem dX3_recall_23 : decode cX3_recall 23 = .ok (.iconst 0, 1) := by decide +kernel
theorem dX3_recall_24 : decode cX3_recall 24 = .ok (.putfield 66, 3) := by decide +kernel
theorem dX3_recall_27 : decode cX3_recall 27 = .ok (.aload_n 3, 1) := by decide +kernel
theorem dX3_recall_28 : decode cX3_recall 28 = .ok (.getfield 51, 3) := by decide +kernel
theorem dX3_recall_31 : decode cX3_recall 31 = .ok (.getfield 146, 3) := by decide +kernel
theorem dX3_recall_34 : decode cX3_recall 34 = .ok (.ireturn, 1) := by decide +kernel
set_option maxRecDepth 20000 in
theorem ggX3_patch_X3_wireAt : GoodIn wsX3_patch wsX3_wireAt := goodIn_ca (goodIn_r _ [7, 8, 9, 10, 11, 12, 6, 13, 88] (by decide +kernel) (by decide +kernel)) (goodIn_sub (fun _ h => List.mem_cons_of_mem _ (List.mem_append_right _ h)) (by decide +kernel))
set_option maxRecDepth 20000 in
theorem gX3_patch_X3_wireAt : GoodIn wsX3_patch (wsV RX3 22 RX3 yX3_wireAt wsX3_wireAt) := goodIn_app (goodIn_of _ (by decide +kernel)) ggX3_patch_X3_wireAt
set_option maxRecDepth 20000 in
theorem ggX3_patch_X1_castTo : GoodIn wsX3_patch wsX1_castTo := goodIn_r _ [18, 19, 20, 21, 17, 22, 23, 24, 25, 26, 27, 28, 29, 30, 31, 32, 33, 34, 35, 36, 37, 38, 39, 40, 41, 42, 43, 44, 45, 46, 47, 48, 49, 50, 51, 52, 53, 54, 55, 56, 57, 58, 59, 60, 61, 62, 63, 64, 65, 66, 67] (by decide +kernel) (by decide +kernel)
set_option maxRecDepth 20000 in
theorem gX3_patch_X1_castTo : GoodIn wsX3_patch (wsV RX3 150 RX1 yX1_castTo wsX1_castTo) := goodIn_app (goodIn_of _ (by decide +kernel)) ggX3_patch_X1_castTo
set_option maxRecDepth 20000 in
theorem ggX3_patch_X2_takeDry : GoodIn wsX3_patch wsX2_takeDry := goodIn_r _ [72, 73, 74, 75, 76, 77, 78, 79, 80, 81, 82, 83, 84, 85, 86, 87] (by decide +kernel) (by decide +kernel)
set_option maxRecDepth 20000 in
theorem gX3_patch_X2_takeDry : GoodIn wsX3_patch (wsV RX3 30 RX2 yX2_takeDry wsX2_takeDry) := goodIn_app (goodIn_of _ (by decide +kernel)) ggX3_patch_X2_takeDry
theorem dX3_patch_0 : decode cX3_patch 0 = .ok (.aload_n 0, 1) := by decide +kernel
theorem dX3_patch_1 : decode cX3_patch 1 = .ok (.iload_n 1, 1) := by decide +kernel
theorem dX3_patch_2 : decode cX3_patch 2 = .ok (.invokevirtual 22, 3) := by decide +kernel
theorem dX3_patch_5 : decode cX3_patch 5 = .ok (.astore_n 3, 1) := by decide +kernel
theorem dX3_patch_6 : decode cX3_patch 6 = .ok (.aload_n 0, 1) := by decide +kernel
theorem dX3_patch_7 : decode cX3_patch 7 = .ok (.iload_n 2, 1) := by decide +kernel
theorem dX3_patch_8 : decode cX3_patch 8 = .ok (.invokevirtual 22, 3) := by decide +kernel
theorem dX3_patch_11 : decode cX3_patch 11 = .ok (.astore 4, 2) := by decide +kernel
theorem dX3_patch_13 : decode cX3_patch 13 = .ok (.aload_n 3, 1) := by decide +kernel
theorem dX3_patch_14 : decode cX3_patch 14 = .ok (.getfield 34, 3) := by decide +kernel
theorem dX3_patch_17 : decode cX3_patch 17 = .ok (.aload 4, 2) := by decide +kernel
theorem dX3_patch_19 : decode cX3_patch 19 = .ok (.getfield 34, 3) := by decide +kernel
theorem dX3_patch_22 : decode cX3_patch 22 = .ok (.aload_n 3, 1) := by decide +kernel
theorem dX3_patch_23 : decode cX3_patch 23 = .ok (.getfield 106, 3) := by decide +kernel
theorem dX3_patch_26 : decode cX3_patch 26 = .ok (.invokevirtual 150, 3) := by decide +kernel
theorem dX3_patch_29 : decode cX3_patch 29 = .ok (.lstore 5, 2) := by decide +kernel
theorem dX3_patch_31 : decode cX3_patch 31 = .ok (.aload 4, 2) := by decide +kernel
theorem dX3_patch_33 : decode cX3_patch 33 = .ok (.lload 5, 2) := by decide +kernel
theorem dX3_patch_35 : decode cX3_patch 35 = .ok (.invokevirtual 30, 3) := by decide +kernel
theorem dX3_patch_38 : decode cX3_patch 38 = .ok (.pop, 1) := by decide +kernel
theorem dX3_patch_39 : decode cX3_patch 39 = .ok (.lload 5, 2) := by decide +kernel
theorem dX3_patch_41 : decode cX3_patch 41 = .ok (.lreturn, 1) := by decide +kernel
set_option maxRecDepth 20000 in
theorem ggX3_about_X3_isWire : GoodIn wsX3_about wsX3_isWire := goodIn_r _ [8] (by decide +kernel) (by decide +kernel)
set_option maxRecDepth 20000 in
theorem gX3_about_X3_isWire : GoodIn wsX3_about (va_wsS RX3 125 yX3_isWire wsX3_isWire) := goodIn_app (goodIn_of _ (by decide +kernel)) ggX3_about_X3_isWire
set_option maxRecDepth 20000 in
theorem ggX3_about_X0_countOn : GoodIn wsX3_about wsX0_countOn := goodIn_r _ [13, 14, 15, 45, 46, 47, 48] (by decide +kernel) (by decide +kernel)
set_option maxRecDepth 20000 in
theorem gX3_about_X0_countOn : GoodIn wsX3_about (wsV RX3 154 RX0 yX0_countOn wsX0_countOn) := goodIn_app (goodIn_of _ (by decide +kernel)) ggX3_about_X0_countOn
set_option maxRecDepth 20000 in
theorem ggX3_about_X2_countLit : GoodIn wsX3_about wsX2_countLit := goodIn_r _ [20, 21, 22, 23, 24, 25, 19, 26, 27, 28, 29, 30, 31, 12, 32, 14, 34, 35, 36, 37, 38, 39, 40, 41, 42, 43, 44, 45, 46, 47, 48] (by decide +kernel) (by decide +kernel)
set_option maxRecDepth 20000 in
theorem gX3_about_X2_countLit : GoodIn wsX3_about (wsV RX3 157 RX2 yX2_countLit wsX2_countLit) := goodIn_app (goodIn_of _ (by decide +kernel)) ggX3_about_X2_countLit
theorem dX3_about_0 : decode cX3_about 0 = .ok (.iload_n 1, 1) := by decide +kernel
theorem dX3_about_1 : decode cX3_about 1 = .ok (.invokestatic 125, 3) := by decide +kernel
theorem dX3_about_4 : decode cX3_about 4 = .ok (.ifCond .ne 5, 3) := by decide +kernel
theorem dX3_about_7 : decode cX3_about 7 = .ok (.iconst (-1), 1) := by decide +kernel
theorem dX3_about_8 : decode cX3_about 8 = .ok (.ireturn, 1) := by decide +kernel
theorem dX3_about_9 : decode cX3_about 9 = .ok (.aload_n 0, 1) := by decide +kernel
theorem dX3_about_10 : decode cX3_about 10 = .ok (.getfield 11, 3) := by decide +kernel
theorem dX3_about_13 : decode cX3_about 13 = .ok (.iload_n 1, 1) := by decide +kernel
theorem dX3_about_14 : decode cX3_about 14 = .ok (.aaload, 1) := by decide +kernel
theorem dX3_about_15 : decode cX3_about 15 = .ok (.astore_n 3, 1) := by decide +kernel
theorem dX3_about_16 : decode cX3_about 16 = .ok (.iload_n 2, 1) := by decide +kernel
theorem dX3_about_17 : decode cX3_about 17 = .ok (.tableswitch 57 0 3 #[31, 39, 47, 52], 31) := by decide +kernel
theorem dX3_about_48 : decode cX3_about 48 = .ok (.aload_n 3, 1) := by decide +kernel
theorem dX3_about_49 : decode cX3_about 49 = .ok (.getfield 51, 3) := by decide +kernel
theorem dX3_about_52 : decode cX3_about 52 = .ok (.getfield 146, 3) := by decide +kernel
theorem dX3_about_55 : decode cX3_about 55 = .ok (.ireturn, 1) := by decide +kernel
theorem dX3_about_56 : decode cX3_about 56 = .ok (.aload_n 3, 1) := by decide +kernel
theorem dX3_about_57 : decode cX3_about 57 = .ok (.getfield 51, 3) := by decide +kernel
theorem dX3_about_60 : decode cX3_about 60 = .ok (.invokevirtual 154, 3) := by decide +kernel
theorem dX3_about_63 : decode cX3_about 63 = .ok (.ireturn, 1) := by decide +kernel
theorem dX3_about_64 : decode cX3_about 64 = .ok (.aload_n 3, 1) := by decide +kernel
theorem dX3_about_65 : decode cX3_about 65 = .ok (.invokevirtual 157, 3) := by decide +kernel
theorem dX3_about_68 : decode cX3_about 68 = .ok (.ireturn, 1) := by decide +kernel
theorem dX3_about_69 : decode cX3_about 69 = .ok (.aload_n 3, 1) := by decide +kernel
theorem dX3_about_70 : decode cX3_about 70 = .ok (.getfield 160, 3) := by decide +kernel
theorem dX3_about_73 : decode cX3_about 73 = .ok (.ireturn, 1) := by decide +kernel
theorem dX3_about_74 : decode cX3_about 74 = .ok (.iconst (-1), 1) := by decide +kernel
theorem dX3_about_75 : decode cX3_about 75 = .ok (.ireturn, 1) := by decide +kernel
theorem dX3_isWire_0 : decode cX3_isWire 0 = .ok (.iload_n 0, 1) := by decide +kernel
theorem dX3_isWire_1 : decode cX3_isWire 1 = .ok (.ifCond .lt 12, 3) := by decide +kernel
theorem dX3_isWire_4 : decode cX3_isWire 4 = .ok (.iload_n 0, 1) := by decide +kernel
theorem dX3_isWire_5 : decode cX3_isWire 5 = .ok (.iconst 4, 1) := by decide +kernel
theorem dX3_isWire_6 : decode cX3_isWire 6 = .ok (.if_icmp .ge 7, 3) := by decide +kernel
theorem dX3_isWire_9 : decode cX3_isWire 9 = .ok (.iconst 1, 1) := by decide +kernel
theorem dX3_isWire_10 : decode cX3_isWire 10 = .ok (.goto 4, 3) := by decide +kernel
theorem dX3_isWire_13 : decode cX3_isWire 13 = .ok (.iconst 0, 1) := by decide +kernel
theorem dX3_isWire_14 : decode cX3_isWire 14 = .ok (.ireturn, 1) := by decide +kernel
set_option maxRecDepth 20000 in
theorem ggX3_wireAt_X3_isWire : GoodIn wsX3_wireAt wsX3_isWire := goodIn_r _ [7] (by decide +kernel) (by decide +kernel)
set_option maxRecDepth 20000 in
theorem gX3_wireAt_X3_isWire : GoodIn wsX3_wireAt (va_wsS RX3 125 yX3_isWire wsX3_isWire) := goodIn_app (goodIn_of _ (by decide +kernel)) ggX3_wireAt_X3_isWire
theorem dX3_wireAt_0 : decode cX3_wireAt 0 = .ok (.iload_n 1, 1) := by decide +kernel
theorem dX3_wireAt_1 : decode cX3_wireAt 1 = .ok (.invokestatic 125, 3) := by decide +kernel
theorem dX3_wireAt_4 : decode cX3_wireAt 4 = .ok (.ifCond .ne 13, 3) := by decide +kernel
theorem dX3_wireAt_7 : decode cX3_wireAt 7 = .ok (.new 44, 3) := by decide +kernel
theorem dX3_wireAt_10 : decode cX3_wireAt 10 = .ok (.dup, 1) := by decide +kernel
theorem dX3_wireAt_11 : decode cX3_wireAt 11 = .ok (.ldc 163, 2) := by decide +kernel
theorem dX3_wireAt_13 : decode cX3_wireAt 13 = .ok (.invokespecial 48, 3) := by decide +kernel
theorem dX3_wireAt_16 : decode cX3_wireAt 16 = .ok (.athrow, 1) := by decide +kernel
theorem dX3_wireAt_17 : decode cX3_wireAt 17 = .ok (.aload_n 0, 1) := by decide +kernel
theorem dX3_wireAt_18 : decode cX3_wireAt 18 = .ok (.getfield 11, 3) := by decide +kernel
theorem dX3_wireAt_21 : decode cX3_wireAt 21 = .ok (.iload_n 1, 1) := by decide +kernel
theorem dX3_wireAt_22 : decode cX3_wireAt 22 = .ok (.aaload, 1) := by decide +kernel
theorem dX3_wireAt_23 : decode cX3_wireAt 23 = .ok (.areturn, 1) := by decide +kernel
set_option maxRecDepth 20000 in
theorem ggX3_needPedal_X0_has : GoodIn wsX3_needPedal wsX0_has := goodIn_r _ [8, 9, 21, 22, 23, 24] (by decide +kernel) (by decide +kernel)
set_option maxRecDepth 20000 in
theorem gX3_needPedal_X0_has : GoodIn wsX3_needPedal (wsV RX3 165 RX0 yX0_has wsX0_has) := goodIn_app (goodIn_of _ (by decide +kernel)) ggX3_needPedal_X0_has
theorem dX3_needPedal_0 : decode cX3_needPedal 0 = .ok (.aload_n 0, 1) := by decide +kernel
theorem dX3_needPedal_1 : decode cX3_needPedal 1 = .ok (.getfield 51, 3) := by decide +kernel
theorem dX3_needPedal_4 : decode cX3_needPedal 4 = .ok (.iload_n 1, 1) := by decide +kernel
theorem dX3_needPedal_5 : decode cX3_needPedal 5 = .ok (.invokevirtual 165, 3) := by decide +kernel
theorem dX3_needPedal_8 : decode cX3_needPedal 8 = .ok (.ifCond .ne 13, 3) := by decide +kernel
theorem dX3_needPedal_11 : decode cX3_needPedal 11 = .ok (.new 44, 3) := by decide +kernel
theorem dX3_needPedal_14 : decode cX3_needPedal 14 = .ok (.dup, 1) := by decide +kernel
theorem dX3_needPedal_15 : decode cX3_needPedal 15 = .ok (.ldc 168, 2) := by decide +kernel
theorem dX3_needPedal_17 : decode cX3_needPedal 17 = .ok (.invokespecial 48, 3) := by decide +kernel
theorem dX3_needPedal_20 : decode cX3_needPedal 20 = .ok (.athrow, 1) := by decide +kernel
theorem dX3_needPedal_21 : decode cX3_needPedal 21 = .ok (.return_, 1) := by decide +kernel
theorem dX3_presetOf_0 : decode cX3_presetOf 0 = .ok (.iload_n 1, 1) := by decide +kernel
theorem dX3_presetOf_1 : decode cX3_presetOf 1 = .ok (.ifCond .lt 8, 3) := by decide +kernel
theorem dX3_presetOf_4 : decode cX3_presetOf 4 = .ok (.iload_n 1, 1) := by decide +kernel
theorem dX3_presetOf_5 : decode cX3_presetOf 5 = .ok (.iconst 4, 1) := by decide +kernel
theorem dX3_presetOf_6 : decode cX3_presetOf 6 = .ok (.if_icmp .lt 13, 3) := by decide +kernel
theorem dX3_presetOf_9 : decode cX3_presetOf 9 = .ok (.new 44, 3) := by decide +kernel
theorem dX3_presetOf_12 : decode cX3_presetOf 12 = .ok (.dup, 1) := by decide +kernel
theorem dX3_presetOf_13 : decode cX3_presetOf 13 = .ok (.ldc 170, 2) := by decide +kernel
theorem dX3_presetOf_15 : decode cX3_presetOf 15 = .ok (.invokespecial 48, 3) := by decide +kernel
theorem dX3_presetOf_18 : decode cX3_presetOf 18 = .ok (.athrow, 1) := by decide +kernel
theorem dX3_presetOf_19 : decode cX3_presetOf 19 = .ok (.aload_n 0, 1) := by decide +kernel
theorem dX3_presetOf_20 : decode cX3_presetOf 20 = .ok (.getfield 172, 3) := by decide +kernel
theorem dX3_presetOf_23 : decode cX3_presetOf 23 = .ok (.iload_n 1, 1) := by decide +kernel
theorem dX3_presetOf_24 : decode cX3_presetOf 24 = .ok (.aaload, 1) := by decide +kernel
theorem dX3_presetOf_25 : decode cX3_presetOf 25 = .ok (.areturn, 1) := by decide +kernel
set_option maxRecDepth 20000 in
theorem ggX3_numberOn_X1_codeOf : GoodIn wsX3_numberOn wsX1_codeOf := goodIn_r _ [8, 9, 10] (by decide +kernel) (by decide +kernel)
set_option maxRecDepth 20000 in
theorem gX3_numberOn_X1_codeOf : GoodIn wsX3_numberOn (wsV RX3 176 RX1 yX1_codeOf wsX1_codeOf) := goodIn_app (goodIn_of _ (by decide +kernel)) ggX3_numberOn_X1_codeOf
set_option maxRecDepth 20000 in
theorem ggX3_numberOn_X1_isIll : GoodIn wsX3_numberOn wsX1_isIll := goodIn_r _ [14, 15, 16, 17, 18, 7, 19, 20, 21, 22, 23, 24, 25, 26] (by decide +kernel) (by decide +kernel)
set_option maxRecDepth 20000 in
theorem gX3_numberOn_X1_isIll : GoodIn wsX3_numberOn (wsV RX3 180 RX1 yX1_isIll wsX1_isIll) := goodIn_app (goodIn_of _ (by decide +kernel)) ggX3_numberOn_X1_isIll
theorem dX3_numberOn_0 : decode cX3_numberOn 0 = .ok (.aload_n 0, 1) := by decide +kernel
theorem dX3_numberOn_1 : decode cX3_numberOn 1 = .ok (.getfield 34, 3) := by decide +kernel
theorem dX3_numberOn_4 : decode cX3_numberOn 4 = .ok (.iload_n 1, 1) := by decide +kernel
theorem dX3_numberOn_5 : decode cX3_numberOn 5 = .ok (.iload_n 2, 1) := by decide +kernel
theorem dX3_numberOn_6 : decode cX3_numberOn 6 = .ok (.invokevirtual 176, 3) := by decide +kernel
theorem dX3_numberOn_9 : decode cX3_numberOn 9 = .ok (.lstore_n 3, 1) := by decide +kernel
theorem dX3_numberOn_10 : decode cX3_numberOn 10 = .ok (.aload_n 0, 1) := by decide +kernel
theorem dX3_numberOn_11 : decode cX3_numberOn 11 = .ok (.getfield 34, 3) := by decide +kernel
theorem dX3_numberOn_14 : decode cX3_numberOn 14 = .ok (.lload_n 3, 1) := by decide +kernel
theorem dX3_numberOn_15 : decode cX3_numberOn 15 = .ok (.invokevirtual 180, 3) := by decide +kernel
theorem dX3_numberOn_18 : decode cX3_numberOn 18 = .ok (.ifCond .eq 13, 3) := by decide +kernel
theorem dX3_numberOn_21 : decode cX3_numberOn 21 = .ok (.new 44, 3) := by decide +kernel
theorem dX3_numberOn_24 : decode cX3_numberOn 24 = .ok (.dup, 1) := by decide +kernel
theorem dX3_numberOn_25 : decode cX3_numberOn 25 = .ok (.ldc 183, 2) := by decide +kernel
theorem dX3_numberOn_27 : decode cX3_numberOn 27 = .ok (.invokespecial 48, 3) := by decide +kernel
theorem dX3_numberOn_30 : decode cX3_numberOn 30 = .ok (.athrow, 1) := by decide +kernel
theorem dX3_numberOn_31 : decode cX3_numberOn 31 = .ok (.lload_n 3, 1) := by decide +kernel
theorem dX3_numberOn_32 : decode cX3_numberOn 32 = .ok (.lreturn, 1) := by decide +kernel
theorem dX4_init_0 : decode cX4_init 0 = .ok (.aload_n 0, 1) := by decide +kernel
theorem dX4_init_1 : decode cX4_init 1 = .ok (.invokespecial 1, 3) := by decide +kernel
theorem dX4_init_4 : decode cX4_init 4 = .ok (.aload_n 0, 1) := by decide +kernel
theorem dX4_init_5 : decode cX4_init 5 = .ok (.iconst 4, 1) := by decide +kernel
theorem dX4_init_6 : decode cX4_init 6 = .ok (.newarray .long, 2) := by decide +kernel
theorem dX4_init_8 : decode cX4_init 8 = .ok (.putfield 7, 3) := by decide +kernel
theorem dX4_init_11 : decode cX4_init 11 = .ok (.aload_n 0, 1) := by decide +kernel
theorem dX4_init_12 : decode cX4_init 12 = .ok (.iconst 4, 1) := by decide +kernel
theorem dX4_init_13 : decode cX4_init 13 = .ok (.newarray .long, 2) := by decide +kernel
theorem dX4_init_15 : decode cX4_init 15 = .ok (.putfield 13, 3) := by decide +kernel
theorem dX4_init_18 : decode cX4_init 18 = .ok (.aload_n 0, 1) := by decide +kernel
theorem dX4_init_19 : decode cX4_init 19 = .ok (.iconst 4, 1) := by decide +kernel
theorem dX4_init_20 : decode cX4_init 20 = .ok (.newarray .long, 2) := by decide +kernel
theorem dX4_init_22 : decode cX4_init 22 = .ok (.putfield 16, 3) := by decide +kernel
theorem dX4_init_25 : decode cX4_init 25 = .ok (.aload_n 0, 1) := by decide +kernel
theorem dX4_init_26 : decode cX4_init 26 = .ok (.iconst 4, 1) := by decide +kernel
theorem dX4_init_27 : decode cX4_init 27 = .ok (.newarray .long, 2) := by decide +kernel
theorem dX4_init_29 : decode cX4_init 29 = .ok (.putfield 19, 3) := by decide +kernel
theorem dX4_init_32 : decode cX4_init 32 = .ok (.aload_n 0, 1) := by decide +kernel
theorem dX4_init_33 : decode cX4_init 33 = .ok (.iconst 4, 1) := by decide +kernel
theorem dX4_init_34 : decode cX4_init 34 = .ok (.newarray .int, 2) := by decide +kernel
theorem dX4_init_36 : decode cX4_init 36 = .ok (.putfield 22, 3) := by decide +kernel
theorem dX4_init_39 : decode cX4_init 39 = .ok (.aload_n 0, 1) := by decide +kernel
theorem dX4_init_40 : decode cX4_init 40 = .ok (.iconst 4, 1) := by decide +kernel
theorem dX4_init_41 : decode cX4_init 41 = .ok (.newarray .int, 2) := by decide +kernel
theorem dX4_init_43 : decode cX4_init 43 = .ok (.putfield 26, 3) := by decide +kernel
theorem dX4_init_46 : decode cX4_init 46 = .ok (.aload_n 0, 1) := by decide +kernel
theorem dX4_init_47 : decode cX4_init 47 = .ok (.iconst 4, 1) := by decide +kernel
theorem dX4_init_48 : decode cX4_init 48 = .ok (.newarray .boolean, 2) := by decide +kernel
theorem dX4_init_50 : decode cX4_init 50 = .ok (.putfield 29, 3) := by decide +kernel
theorem dX4_init_53 : decode cX4_init 53 = .ok (.aload_n 0, 1) := by decide +kernel
theorem dX4_init_54 : decode cX4_init 54 = .ok (.iconst 4, 1) := by decide +kernel
theorem dX4_init_55 : decode cX4_init 55 = .ok (.newarray .boolean, 2) := by decide +kernel
theorem dX4_init_57 : decode cX4_init 57 = .ok (.putfield 33, 3) := by decide +kernel
theorem dX4_init_60 : decode cX4_init 60 = .ok (.aload_n 0, 1) := by decide +kernel
theorem dX4_init_61 : decode cX4_init 61 = .ok (.bipush 48, 2) := by decide +kernel
theorem dX4_init_63 : decode cX4_init 63 = .ok (.newarray .int, 2) := by decide +kernel
theorem dX4_init_65 : decode cX4_init 65 = .ok (.putfield 36, 3) := by decide +kernel
theorem dX4_init_68 : decode cX4_init 68 = .ok (.aload_n 0, 1) := by decide +kernel
theorem dX4_init_69 : decode cX4_init 69 = .ok (.bipush 48, 2) := by decide +kernel
theorem dX4_init_71 : decode cX4_init 71 = .ok (.newarray .long, 2) := by decide +kernel
theorem dX4_init_73 : decode cX4_init 73 = .ok (.putfield 39, 3) := by decide +kernel
theorem dX4_init_76 : decode cX4_init 76 = .ok (.aload_n 0, 1) := by decide +kernel
theorem dX4_init_77 : decode cX4_init 77 = .ok (.bipush 48, 2) := by decide +kernel
theorem dX4_init_79 : decode cX4_init 79 = .ok (.newarray .long, 2) := by decide +kernel
theorem dX4_init_81 : decode cX4_init 81 = .ok (.putfield 42, 3) := by decide +kernel
theorem dX4_init_84 : decode cX4_init 84 = .ok (.aload_n 0, 1) := by decide +kernel
theorem dX4_init_85 : decode cX4_init 85 = .ok (.bipush 48, 2) := by decide +kernel
theorem dX4_init_87 : decode cX4_init 87 = .ok (.newarray .boolean, 2) := by decide +kernel
theorem dX4_init_89 : decode cX4_init 89 = .ok (.putfield 45, 3) := by decide +kernel
theorem dX4_init_92 : decode cX4_init 92 = .ok (.aload_n 0, 1) := by decide +kernel
theorem dX4_init_93 : decode cX4_init 93 = .ok (.bipush 48, 2) := by decide +kernel
theorem dX4_init_95 : decode cX4_init 95 = .ok (.newarray .boolean, 2) := by decide +kernel
theorem dX4_init_97 : decode cX4_init 97 = .ok (.putfield 48, 3) := by decide +kernel
theorem dX4_init_100 : decode cX4_init 100 = .ok (.aload_n 0, 1) := by decide +kernel
theorem dX4_init_101 : decode cX4_init 101 = .ok (.bipush 16, 2) := by decide +kernel
theorem dX4_init_103 : decode cX4_init 103 = .ok (.newarray .int, 2) := by decide +kernel
theorem dX4_init_105 : decode cX4_init 105 = .ok (.putfield 51, 3) := by decide +kernel
theorem dX4_init_108 : decode cX4_init 108 = .ok (.aload_n 0, 1) := by decide +kernel
theorem dX4_init_109 : decode cX4_init 109 = .ok (.sipush 192, 3) := by decide +kernel
theorem dX4_init_112 : decode cX4_init 112 = .ok (.newarray .int, 2) := by decide +kernel
theorem dX4_init_114 : decode cX4_init 114 = .ok (.putfield 54, 3) := by decide +kernel
theorem dX4_init_117 : decode cX4_init 117 = .ok (.aload_n 0, 1) := by decide +kernel
theorem dX4_init_118 : decode cX4_init 118 = .ok (.sipush 192, 3) := by decide +kernel
theorem dX4_init_121 : decode cX4_init 121 = .ok (.newarray .long, 2) := by decide +kernel
theorem dX4_init_123 : decode cX4_init 123 = .ok (.putfield 57, 3) := by decide +kernel
theorem dX4_init_126 : decode cX4_init 126 = .ok (.aload_n 0, 1) := by decide +kernel
theorem dX4_init_127 : decode cX4_init 127 = .ok (.sipush 192, 3) := by decide +kernel
theorem dX4_init_130 : decode cX4_init 130 = .ok (.newarray .boolean, 2) := by decide +kernel
theorem dX4_init_132 : decode cX4_init 132 = .ok (.putfield 60, 3) := by decide +kernel
theorem dX4_init_135 : decode cX4_init 135 = .ok (.return_, 1) := by decide +kernel
theorem dX4_thrown_0 : decode cX4_thrown 0 = .ok (.aload_n 0, 1) := by decide +kernel
theorem dX4_thrown_1 : decode cX4_thrown 1 = .ok (.getfield 63, 3) := by decide +kernel
theorem dX4_thrown_4 : decode cX4_thrown 4 = .ok (.ireturn, 1) := by decide +kernel
theorem dX4_isWire_0 : decode cX4_isWire 0 = .ok (.iload_n 0, 1) := by decide +kernel
theorem dX4_isWire_1 : decode cX4_isWire 1 = .ok (.ifCond .lt 12, 3) := by decide +kernel
theorem dX4_isWire_4 : decode cX4_isWire 4 = .ok (.iload_n 0, 1) := by decide +kernel
theorem dX4_isWire_5 : decode cX4_isWire 5 = .ok (.iconst 4, 1) := by decide +kernel
theorem dX4_isWire_6 : decode cX4_isWire 6 = .ok (.if_icmp .ge 7, 3) := by decide +kernel
theorem dX4_isWire_9 : decode cX4_isWire 9 = .ok (.iconst 1, 1) := by decide +kernel
theorem dX4_isWire_10 : decode cX4_isWire 10 = .ok (.goto 4, 3) := by decide +kernel
theorem dX4_isWire_13 : decode cX4_isWire 13 = .ok (.iconst 0, 1) := by decide +kernel
theorem dX4_isWire_14 : decode cX4_isWire 14 = .ok (.ireturn, 1) := by decide +kernel
theorem dX4_fractionBits_0 : decode cX4_fractionBits 0 = .ok (.iload_n 0, 1) := by decide +kernel
theorem dX4_fractionBits_1 : decode cX4_fractionBits 1 = .ok (.iconst 2, 1) := by decide +kernel
theorem dX4_fractionBits_2 : decode cX4_fractionBits 2 = .ok (.if_icmp .ne 8, 3) := by decide +kernel
theorem dX4_fractionBits_5 : decode cX4_fractionBits 5 = .ok (.bipush 23, 2) := by decide +kernel
theorem dX4_fractionBits_7 : decode cX4_fractionBits 7 = .ok (.goto 5, 3) := by decide +kernel
theorem dX4_fractionBits_10 : decode cX4_fractionBits 10 = .ok (.bipush 52, 2) := by decide +kernel
theorem dX4_fractionBits_12 : decode cX4_fractionBits 12 = .ok (.ireturn, 1) := by decide +kernel
theorem dX4_signBit_0 : decode cX4_signBit 0 = .ok (.iload_n 0, 1) := by decide +kernel
theorem dX4_signBit_1 : decode cX4_signBit 1 = .ok (.iconst 2, 1) := by decide +kernel
theorem dX4_signBit_2 : decode cX4_signBit 2 = .ok (.if_icmp .ne 9, 3) := by decide +kernel
theorem dX4_signBit_5 : decode cX4_signBit 5 = .ok (.ldc2_w 67, 3) := by decide +kernel
theorem dX4_signBit_8 : decode cX4_signBit 8 = .ok (.goto 6, 3) := by decide +kernel
theorem dX4_signBit_11 : decode cX4_signBit 11 = .ok (.ldc2_w 69, 3) := by decide +kernel
theorem dX4_signBit_14 : decode cX4_signBit 14 = .ok (.lreturn, 1) := by decide +kernel
theorem dX4_endless_0 : decode cX4_endless 0 = .ok (.iload_n 0, 1) := by decide +kernel
theorem dX4_endless_1 : decode cX4_endless 1 = .ok (.iconst 2, 1) := by decide +kernel
theorem dX4_endless_2 : decode cX4_endless 2 = .ok (.if_icmp .ne 9, 3) := by decide +kernel
theorem dX4_endless_5 : decode cX4_endless 5 = .ok (.ldc2_w 71, 3) := by decide +kernel
theorem dX4_endless_8 : decode cX4_endless 8 = .ok (.goto 6, 3) := by decide +kernel
theorem dX4_endless_11 : decode cX4_endless 11 = .ok (.ldc2_w 73, 3) := by decide +kernel
theorem dX4_endless_14 : decode cX4_endless 14 = .ok (.lreturn, 1) := by decide +kernel
theorem dX4_bare_0 : decode cX4_bare 0 = .ok (.iload_n 0, 1) := by decide +kernel
theorem dX4_bare_1 : decode cX4_bare 1 = .ok (.iconst 2, 1) := by decide +kernel
theorem dX4_bare_2 : decode cX4_bare 2 = .ok (.if_icmp .ne 11, 3) := by decide +kernel
theorem dX4_bare_5 : decode cX4_bare 5 = .ok (.lload_n 1, 1) := by decide +kernel
theorem dX4_bare_6 : decode cX4_bare 6 = .ok (.ldc2_w 75, 3) := by decide +kernel
theorem dX4_bare_9 : decode cX4_bare 9 = .ok (.land, 1) := by decide +kernel
theorem dX4_bare_10 : decode cX4_bare 10 = .ok (.goto 4, 3) := by decide +kernel
theorem dX4_bare_13 : decode cX4_bare 13 = .ok (.lload_n 1, 1) := by decide +kernel
theorem dX4_bare_14 : decode cX4_bare 14 = .ok (.lreturn, 1) := by decide +kernel
theorem dX4_asCode_0 : decode cX4_asCode 0 = .ok (.iload_n 0, 1) := by decide +kernel
theorem dX4_asCode_1 : decode cX4_asCode 1 = .ok (.iconst 2, 1) := by decide +kernel
theorem dX4_asCode_2 : decode cX4_asCode 2 = .ok (.if_icmp .ne 9, 3) := by decide +kernel
theorem dX4_asCode_5 : decode cX4_asCode 5 = .ok (.lload_n 1, 1) := by decide +kernel
theorem dX4_asCode_6 : decode cX4_asCode 6 = .ok (.l2i, 1) := by decide +kernel
theorem dX4_asCode_7 : decode cX4_asCode 7 = .ok (.i2l, 1) := by decide +kernel
theorem dX4_asCode_8 : decode cX4_asCode 8 = .ok (.goto 4, 3) := by decide +kernel
theorem dX4_asCode_11 : decode cX4_asCode 11 = .ok (.lload_n 1, 1) := by decide +kernel
theorem dX4_asCode_12 : decode cX4_asCode 12 = .ok (.lreturn, 1) := by decide +kernel
set_option maxRecDepth 20000 in
theorem ggX4_size_X4_bare : GoodIn wsX4_size wsX4_bare := goodIn_r _ [5, 6] (by decide +kernel) (by decide +kernel)
set_option maxRecDepth 20000 in
theorem gX4_size_X4_bare : GoodIn wsX4_size (va_wsS RX4 77 yX4_bare wsX4_bare) := goodIn_app (goodIn_of _ (by decide +kernel)) ggX4_size_X4_bare
set_option maxRecDepth 20000 in
theorem ggX4_size_X4_signBit : GoodIn wsX4_size wsX4_signBit := goodIn_r _ [9, 10, 11] (by decide +kernel) (by decide +kernel)
set_option maxRecDepth 20000 in
theorem gX4_size_X4_signBit : GoodIn wsX4_size (va_wsS RX4 81 yX4_signBit wsX4_signBit) := goodIn_app (goodIn_of _ (by decide +kernel)) ggX4_size_X4_signBit
theorem dX4_size_0 : decode cX4_size 0 = .ok (.iload_n 0, 1) := by decide +kernel
theorem dX4_size_1 : decode cX4_size 1 = .ok (.lload_n 1, 1) := by decide +kernel
theorem dX4_size_2 : decode cX4_size 2 = .ok (.invokestatic 77, 3) := by decide +kernel
theorem dX4_size_5 : decode cX4_size 5 = .ok (.iload_n 0, 1) := by decide +kernel
theorem dX4_size_6 : decode cX4_size 6 = .ok (.invokestatic 81, 3) := by decide +kernel
theorem dX4_size_9 : decode cX4_size 9 = .ok (.ldc2_w 85, 3) := by decide +kernel
theorem dX4_size_12 : decode cX4_size 12 = .ok (.lxor, 1) := by decide +kernel
theorem dX4_size_13 : decode cX4_size 13 = .ok (.land, 1) := by decide +kernel
theorem dX4_size_14 : decode cX4_size 14 = .ok (.lreturn, 1) := by decide +kernel
set_option maxRecDepth 20000 in
theorem ggX4_below_X4_signBit : GoodIn wsX4_below wsX4_signBit := goodIn_r _ [4, 5, 6] (by decide +kernel) (by decide +kernel)
set_option maxRecDepth 20000 in
theorem gX4_below_X4_signBit : GoodIn wsX4_below (va_wsS RX4 81 yX4_signBit wsX4_signBit) := goodIn_app (goodIn_of _ (by decide +kernel)) ggX4_below_X4_signBit
theorem dX4_below_0 : decode cX4_below 0 = .ok (.lload_n 1, 1) := by decide +kernel
theorem dX4_below_1 : decode cX4_below 1 = .ok (.iload_n 0, 1) := by decide +kernel
theorem dX4_below_2 : decode cX4_below 2 = .ok (.invokestatic 81, 3) := by decide +kernel
theorem dX4_below_5 : decode cX4_below 5 = .ok (.land, 1) := by decide +kernel
theorem dX4_below_6 : decode cX4_below 6 = .ok (.lconst 0, 1) := by decide +kernel
theorem dX4_below_7 : decode cX4_below 7 = .ok (.lcmp, 1) := by decide +kernel
theorem dX4_below_8 : decode cX4_below 8 = .ok (.ifCond .eq 7, 3) := by decide +kernel
theorem dX4_below_11 : decode cX4_below 11 = .ok (.iconst 1, 1) := by decide +kernel
theorem dX4_below_12 : decode cX4_below 12 = .ok (.goto 4, 3) := by decide +kernel
theorem dX4_below_15 : decode cX4_below 15 = .ok (.iconst 0, 1) := by decide +kernel
theorem dX4_below_16 : decode cX4_below 16 = .ok (.ireturn, 1) := by decide +kernel
theorem dX4_coded_0 : decode cX4_coded 0 = .ok (.iload_n 0, 1) := by decide +kernel
theorem dX4_coded_1 : decode cX4_coded 1 = .ok (.ifCond .eq 8, 3) := by decide +kernel
theorem dX4_coded_4 : decode cX4_coded 4 = .ok (.iload_n 0, 1) := by decide +kernel
theorem dX4_coded_5 : decode cX4_coded 5 = .ok (.iconst 2, 1) := by decide +kernel
theorem dX4_coded_6 : decode cX4_coded 6 = .ok (.if_icmp .ne 6, 3) := by decide +kernel
theorem dX4_coded_9 : decode cX4_coded 9 = .ok (.iload_n 2, 1) := by decide +kernel
theorem dX4_coded_10 : decode cX4_coded 10 = .ok (.i2l, 1) := by decide +kernel
theorem dX4_coded_11 : decode cX4_coded 11 = .ok (.lreturn, 1) := by decide +kernel
theorem dX4_coded_12 : decode cX4_coded 12 = .ok (.iload_n 1, 1) := by decide +kernel
theorem dX4_coded_13 : decode cX4_coded 13 = .ok (.i2l, 1) := by decide +kernel
theorem dX4_coded_14 : decode cX4_coded 14 = .ok (.bipush 32, 2) := by decide +kernel
theorem dX4_coded_16 : decode cX4_coded 16 = .ok (.lshl, 1) := by decide +kernel
theorem dX4_coded_17 : decode cX4_coded 17 = .ok (.iload_n 2, 1) := by decide +kernel
theorem dX4_coded_18 : decode cX4_coded 18 = .ok (.i2l, 1) := by decide +kernel
theorem dX4_coded_19 : decode cX4_coded 19 = .ok (.ldc2_w 75, 3) := by decide +kernel
theorem dX4_coded_22 : decode cX4_coded 22 = .ok (.land, 1) := by decide +kernel
theorem dX4_coded_23 : decode cX4_coded 23 = .ok (.lor, 1) := by decide +kernel
theorem dX4_coded_24 : decode cX4_coded 24 = .ok (.lreturn, 1) := by decide +kernel
set_option maxRecDepth 20000 in
theorem ggX4_isIll_X4_size : GoodIn wsX4_isIll wsX4_size := goodIn_r _ [4, 5, 6, 7, 3, 8, 9, 10, 11, 12, 13, 14] (by decide +kernel) (by decide +kernel)
set_option maxRecDepth 20000 in
theorem gX4_isIll_X4_size : GoodIn wsX4_isIll (va_wsS RX4 87 yX4_size wsX4_size) := goodIn_app (goodIn_of _ (by decide +kernel)) ggX4_isIll_X4_size
set_option maxRecDepth 20000 in
theorem ggX4_isIll_X4_endless : GoodIn wsX4_isIll wsX4_endless := goodIn_r _ [17, 18, 19] (by decide +kernel) (by decide +kernel)
set_option maxRecDepth 20000 in
theorem gX4_isIll_X4_endless : GoodIn wsX4_isIll (va_wsS RX4 90 yX4_endless wsX4_endless) := goodIn_app (goodIn_of _ (by decide +kernel)) ggX4_isIll_X4_endless
theorem dX4_isIll_0 : decode cX4_isIll 0 = .ok (.iload_n 0, 1) := by decide +kernel
theorem dX4_isIll_1 : decode cX4_isIll 1 = .ok (.iconst 1, 1) := by decide +kernel
theorem dX4_isIll_2 : decode cX4_isIll 2 = .ok (.if_icmp .le 20, 3) := by decide +kernel
theorem dX4_isIll_5 : decode cX4_isIll 5 = .ok (.iload_n 0, 1) := by decide +kernel
theorem dX4_isIll_6 : decode cX4_isIll 6 = .ok (.lload_n 1, 1) := by decide +kernel
theorem dX4_isIll_7 : decode cX4_isIll 7 = .ok (.invokestatic 87, 3) := by decide +kernel
theorem dX4_isIll_10 : decode cX4_isIll 10 = .ok (.iload_n 0, 1) := by decide +kernel
theorem dX4_isIll_11 : decode cX4_isIll 11 = .ok (.invokestatic 90, 3) := by decide +kernel
theorem dX4_isIll_14 : decode cX4_isIll 14 = .ok (.lcmp, 1) := by decide +kernel
theorem dX4_isIll_15 : decode cX4_isIll 15 = .ok (.ifCond .le 7, 3) := by decide +kernel
theorem dX4_isIll_18 : decode cX4_isIll 18 = .ok (.iconst 1, 1) := by decide +kernel
theorem dX4_isIll_19 : decode cX4_isIll 19 = .ok (.goto 4, 3) := by decide +kernel
theorem dX4_isIll_22 : decode cX4_isIll 22 = .ok (.iconst 0, 1) := by decide +kernel
theorem dX4_isIll_23 : decode cX4_isIll 23 = .ok (.ireturn, 1) := by decide +kernel
set_option maxRecDepth 20000 in
theorem ggX4_order_X4_below : GoodIn wsX4_order wsX4_below := goodIn_r _ [4, 5, 6, 3, 7, 8, 9] (by decide +kernel) (by decide +kernel)
set_option maxRecDepth 20000 in
theorem gX4_order_X4_below : GoodIn wsX4_order (va_wsS RX4 93 yX4_below wsX4_below) := goodIn_app (goodIn_of _ (by decide +kernel)) ggX4_order_X4_below
set_option maxRecDepth 20000 in
theorem ggX4_order_X4_size : GoodIn wsX4_order wsX4_size := goodIn_r _ [12, 13, 14, 15, 3, 16, 17, 5, 6, 7, 8, 9] (by decide +kernel) (by decide +kernel)
set_option maxRecDepth 20000 in
theorem gX4_order_X4_size : GoodIn wsX4_order (va_wsS RX4 87 yX4_size wsX4_size) := goodIn_app (goodIn_of _ (by decide +kernel)) ggX4_order_X4_size
theorem dX4_order_0 : decode cX4_order 0 = .ok (.iload_n 0, 1) := by decide +kernel
theorem dX4_order_1 : decode cX4_order 1 = .ok (.iconst 2, 1) := by decide +kernel
theorem dX4_order_2 : decode cX4_order 2 = .ok (.if_icmp .ge 25, 3) := by decide +kernel
theorem dX4_order_5 : decode cX4_order 5 = .ok (.lload_n 1, 1) := by decide +kernel
theorem dX4_order_6 : decode cX4_order 6 = .ok (.lload_n 3, 1) := by decide +kernel
theorem dX4_order_7 : decode cX4_order 7 = .ok (.lcmp, 1) := by decide +kernel
theorem dX4_order_8 : decode cX4_order 8 = .ok (.ifCond .ge 7, 3) := by decide +kernel
theorem dX4_order_11 : decode cX4_order 11 = .ok (.iconst (-1), 1) := by decide +kernel
theorem dX4_order_12 : decode cX4_order 12 = .ok (.goto 14, 3) := by decide +kernel
theorem dX4_order_15 : decode cX4_order 15 = .ok (.lload_n 1, 1) := by decide +kernel
theorem dX4_order_16 : decode cX4_order 16 = .ok (.lload_n 3, 1) := by decide +kernel
theorem dX4_order_17 : decode cX4_order 17 = .ok (.lcmp, 1) := by decide +kernel
theorem dX4_order_18 : decode cX4_order 18 = .ok (.ifCond .ne 7, 3) := by decide +kernel
theorem dX4_order_21 : decode cX4_order 21 = .ok (.iconst 0, 1) := by decide +kernel
theorem dX4_order_22 : decode cX4_order 22 = .ok (.goto 4, 3) := by decide +kernel
theorem dX4_order_25 : decode cX4_order 25 = .ok (.iconst 1, 1) := by decide +kernel
theorem dX4_order_26 : decode cX4_order 26 = .ok (.ireturn, 1) := by decide +kernel
theorem dX4_order_27 : decode cX4_order 27 = .ok (.iload_n 0, 1) := by decide +kernel
theorem dX4_order_28 : decode cX4_order 28 = .ok (.lload_n 1, 1) := by decide +kernel
theorem dX4_order_29 : decode cX4_order 29 = .ok (.invokestatic 93, 3) := by decide +kernel
theorem dX4_order_32 : decode cX4_order 32 = .ok (.istore 5, 2) := by decide +kernel
theorem dX4_order_34 : decode cX4_order 34 = .ok (.iload_n 0, 1) := by decide +kernel
theorem dX4_order_35 : decode cX4_order 35 = .ok (.lload_n 3, 1) := by decide +kernel
theorem dX4_order_36 : decode cX4_order 36 = .ok (.invokestatic 93, 3) := by decide +kernel
theorem dX4_order_39 : decode cX4_order 39 = .ok (.istore 6, 2) := by decide +kernel
theorem dX4_order_41 : decode cX4_order 41 = .ok (.iload 5, 2) := by decide +kernel
theorem dX4_order_43 : decode cX4_order 43 = .ok (.iload 6, 2) := by decide +kernel
theorem dX4_order_45 : decode cX4_order 45 = .ok (.if_icmp .eq 14, 3) := by decide +kernel
theorem dX4_order_48 : decode cX4_order 48 = .ok (.iload 5, 2) := by decide +kernel
theorem dX4_order_50 : decode cX4_order 50 = .ok (.ifCond .eq 7, 3) := by decide +kernel
theorem dX4_order_53 : decode cX4_order 53 = .ok (.iconst (-1), 1) := by decide +kernel
theorem dX4_order_54 : decode cX4_order 54 = .ok (.goto 4, 3) := by decide +kernel
theorem dX4_order_57 : decode cX4_order 57 = .ok (.iconst 1, 1) := by decide +kernel
theorem dX4_order_58 : decode cX4_order 58 = .ok (.ireturn, 1) := by decide +kernel
theorem dX4_order_59 : decode cX4_order 59 = .ok (.iload_n 0, 1) := by decide +kernel
theorem dX4_order_60 : decode cX4_order 60 = .ok (.lload_n 1, 1) := by decide +kernel
theorem dX4_order_61 : decode cX4_order 61 = .ok (.invokestatic 87, 3) := by decide +kernel
theorem dX4_order_64 : decode cX4_order 64 = .ok (.lstore 7, 2) := by decide +kernel
theorem dX4_order_66 : decode cX4_order 66 = .ok (.iload_n 0, 1) := by decide +kernel
theorem dX4_order_67 : decode cX4_order 67 = .ok (.lload_n 3, 1) := by decide +kernel
theorem dX4_order_68 : decode cX4_order 68 = .ok (.invokestatic 87, 3) := by decide +kernel
theorem dX4_order_71 : decode cX4_order 71 = .ok (.lstore 9, 2) := by decide +kernel
theorem dX4_order_73 : decode cX4_order 73 = .ok (.lload 7, 2) := by decide +kernel
theorem dX4_order_75 : decode cX4_order 75 = .ok (.lload 9, 2) := by decide +kernel
theorem dX4_order_77 : decode cX4_order 77 = .ok (.lcmp, 1) := by decide +kernel
theorem dX4_order_78 : decode cX4_order 78 = .ok (.ifCond .ne 5, 3) := by decide +kernel
