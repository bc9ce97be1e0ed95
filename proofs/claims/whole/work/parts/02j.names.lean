theorem dX4_refuses_17 : decode cX4_refuses 17 = .ok (.iconst 0, 1) := by decide +kernel
theorem dX4_refuses_18 : decode cX4_refuses 18 = .ok (.putfield 63, 3) := by decide +kernel
theorem dX4_refuses_21 : decode cX4_refuses 21 = .ok (.aload_n 0, 1) := by decide +kernel
theorem dX4_refuses_22 : decode cX4_refuses 22 = .ok (.getfield 63, 3) := by decide +kernel
theorem dX4_refuses_25 : decode cX4_refuses 25 = .ok (.ifCond .eq 7, 3) := by decide +kernel
theorem dX4_refuses_28 : decode cX4_refuses 28 = .ok (.iconst 1, 1) := by decide +kernel
theorem dX4_refuses_29 : decode cX4_refuses 29 = .ok (.goto 4, 3) := by decide +kernel
theorem dX4_refuses_32 : decode cX4_refuses 32 = .ok (.iconst 0, 1) := by decide +kernel
theorem dX4_refuses_33 : decode cX4_refuses 33 = .ok (.ireturn, 1) := by decide +kernel
set_option maxRecDepth 20000 in
theorem ggX4_isPedal_X4_isWire : GoodIn wsX4_isPedal wsX4_isWire := goodIn_r _ [5] (by decide +kernel) (by decide +kernel)
set_option maxRecDepth 20000 in
theorem gX4_isPedal_X4_isWire : GoodIn wsX4_isPedal (va_wsS RX4 142 yX4_isWire wsX4_isWire) := goodIn_app (goodIn_of _ (by decide +kernel)) ggX4_isPedal_X4_isWire
theorem dX4_isPedal_0 : decode cX4_isPedal 0 = .ok (.iload_n 1, 1) := by decide +kernel
theorem dX4_isPedal_1 : decode cX4_isPedal 1 = .ok (.invokestatic 142, 3) := by decide +kernel
theorem dX4_isPedal_4 : decode cX4_isPedal 4 = .ok (.ifCond .eq 21, 3) := by decide +kernel
theorem dX4_isPedal_7 : decode cX4_isPedal 7 = .ok (.iload_n 2, 1) := by decide +kernel
theorem dX4_isPedal_8 : decode cX4_isPedal 8 = .ok (.ifCond .lt 17, 3) := by decide +kernel
theorem dX4_isPedal_11 : decode cX4_isPedal 11 = .ok (.iload_n 2, 1) := by decide +kernel
theorem dX4_isPedal_12 : decode cX4_isPedal 12 = .ok (.aload_n 0, 1) := by decide +kernel
theorem dX4_isPedal_13 : decode cX4_isPedal 13 = .ok (.getfield 26, 3) := by decide +kernel
theorem dX4_isPedal_16 : decode cX4_isPedal 16 = .ok (.iload_n 1, 1) := by decide +kernel
theorem dX4_isPedal_17 : decode cX4_isPedal 17 = .ok (.iaload, 1) := by decide +kernel
theorem dX4_isPedal_18 : decode cX4_isPedal 18 = .ok (.if_icmp .ge 7, 3) := by decide +kernel
theorem dX4_isPedal_21 : decode cX4_isPedal 21 = .ok (.iconst 1, 1) := by decide +kernel
theorem dX4_isPedal_22 : decode cX4_isPedal 22 = .ok (.goto 4, 3) := by decide +kernel
theorem dX4_isPedal_25 : decode cX4_isPedal 25 = .ok (.iconst 0, 1) := by decide +kernel
theorem dX4_isPedal_26 : decode cX4_isPedal 26 = .ok (.ireturn, 1) := by decide +kernel
theorem dX4_come_0 : decode cX4_come 0 = .ok (.aload_n 0, 1) := by decide +kernel
theorem dX4_come_1 : decode cX4_come 1 = .ok (.getfield 7, 3) := by decide +kernel
theorem dX4_come_4 : decode cX4_come 4 = .ok (.iload_n 1, 1) := by decide +kernel
theorem dX4_come_5 : decode cX4_come 5 = .ok (.laload, 1) := by decide +kernel
theorem dX4_come_6 : decode cX4_come 6 = .ok (.lload_n 2, 1) := by decide +kernel
theorem dX4_come_7 : decode cX4_come 7 = .ok (.lcmp, 1) := by decide +kernel
theorem dX4_come_8 : decode cX4_come 8 = .ok (.ifCond .eq 7, 3) := by decide +kernel
theorem dX4_come_11 : decode cX4_come 11 = .ok (.iconst 1, 1) := by decide +kernel
theorem dX4_come_12 : decode cX4_come 12 = .ok (.goto 4, 3) := by decide +kernel
theorem dX4_come_15 : decode cX4_come 15 = .ok (.iconst 0, 1) := by decide +kernel
theorem dX4_come_16 : decode cX4_come 16 = .ok (.istore 4, 2) := by decide +kernel
theorem dX4_come_18 : decode cX4_come 18 = .ok (.aload_n 0, 1) := by decide +kernel
theorem dX4_come_19 : decode cX4_come 19 = .ok (.getfield 7, 3) := by decide +kernel
theorem dX4_come_22 : decode cX4_come 22 = .ok (.iload_n 1, 1) := by decide +kernel
theorem dX4_come_23 : decode cX4_come 23 = .ok (.lload_n 2, 1) := by decide +kernel
theorem dX4_come_24 : decode cX4_come 24 = .ok (.lastore, 1) := by decide +kernel
theorem dX4_come_25 : decode cX4_come 25 = .ok (.aload_n 0, 1) := by decide +kernel
theorem dX4_come_26 : decode cX4_come 26 = .ok (.getfield 13, 3) := by decide +kernel
theorem dX4_come_29 : decode cX4_come 29 = .ok (.iload_n 1, 1) := by decide +kernel
theorem dX4_come_30 : decode cX4_come 30 = .ok (.lload_n 2, 1) := by decide +kernel
theorem dX4_come_31 : decode cX4_come 31 = .ok (.lastore, 1) := by decide +kernel
theorem dX4_come_32 : decode cX4_come 32 = .ok (.aload_n 0, 1) := by decide +kernel
theorem dX4_come_33 : decode cX4_come 33 = .ok (.getfield 22, 3) := by decide +kernel
theorem dX4_come_36 : decode cX4_come 36 = .ok (.iload_n 1, 1) := by decide +kernel
theorem dX4_come_37 : decode cX4_come 37 = .ok (.iconst 0, 1) := by decide +kernel
theorem dX4_come_38 : decode cX4_come 38 = .ok (.iastore, 1) := by decide +kernel
theorem dX4_come_39 : decode cX4_come 39 = .ok (.aload_n 0, 1) := by decide +kernel
theorem dX4_come_40 : decode cX4_come 40 = .ok (.getfield 33, 3) := by decide +kernel
theorem dX4_come_43 : decode cX4_come 43 = .ok (.iload_n 1, 1) := by decide +kernel
theorem dX4_come_44 : decode cX4_come 44 = .ok (.iconst 0, 1) := by decide +kernel
theorem dX4_come_45 : decode cX4_come 45 = .ok (.bastore, 1) := by decide +kernel
theorem dX4_come_46 : decode cX4_come 46 = .ok (.aload_n 0, 1) := by decide +kernel
theorem dX4_come_47 : decode cX4_come 47 = .ok (.getfield 29, 3) := by decide +kernel
theorem dX4_come_50 : decode cX4_come 50 = .ok (.iload_n 1, 1) := by decide +kernel
theorem dX4_come_51 : decode cX4_come 51 = .ok (.iconst 0, 1) := by decide +kernel
theorem dX4_come_52 : decode cX4_come 52 = .ok (.bastore, 1) := by decide +kernel
theorem dX4_come_53 : decode cX4_come 53 = .ok (.iload 4, 2) := by decide +kernel
theorem dX4_come_55 : decode cX4_come 55 = .ok (.ireturn, 1) := by decide +kernel
set_option maxRecDepth 20000 in
theorem ggX4_put_X4_isWire : GoodIn wsX4_put wsX4_isWire := goodIn_r _ [4] (by decide +kernel) (by decide +kernel)
set_option maxRecDepth 20000 in
theorem gX4_put_X4_isWire : GoodIn wsX4_put (va_wsS RX4 142 yX4_isWire wsX4_isWire) := goodIn_app (goodIn_of _ (by decide +kernel)) ggX4_put_X4_isWire
set_option maxRecDepth 20000 in
theorem ggX4_put_X4_coded : GoodIn wsX4_put wsX4_coded := goodIn_r _ [7, 8] (by decide +kernel) (by decide +kernel)
set_option maxRecDepth 20000 in
theorem gX4_put_X4_coded : GoodIn wsX4_put (va_wsS RX4 146 yX4_coded wsX4_coded) := goodIn_app (goodIn_of _ (by decide +kernel)) ggX4_put_X4_coded
set_option maxRecDepth 20000 in
theorem ggX4_put_X4_isIll : GoodIn wsX4_put wsX4_isIll := goodIn_r _ [11, 12, 13, 3, 14, 15, 16, 17, 18, 8, 19, 20, 21, 22, 23, 24, 25, 26, 27, 28] (by decide +kernel) (by decide +kernel)
set_option maxRecDepth 20000 in
theorem gX4_put_X4_isIll : GoodIn wsX4_put (va_wsS RX4 150 yX4_isIll wsX4_isIll) := goodIn_app (goodIn_of _ (by decide +kernel)) ggX4_put_X4_isIll
set_option maxRecDepth 20000 in
theorem ggX4_put_X4_refuses : GoodIn wsX4_put wsX4_refuses := goodIn_r _ [32, 33, 43, 44, 45, 46, 47, 48, 49, 50, 51, 52, 53, 54, 55, 56, 57, 58, 59, 60] (by decide +kernel) (by decide +kernel)
set_option maxRecDepth 20000 in
theorem gX4_put_X4_refuses : GoodIn wsX4_put (wsV RX4 153 RX4 yX4_refuses wsX4_refuses) := goodIn_app (goodIn_of _ (by decide +kernel)) ggX4_put_X4_refuses
set_option maxRecDepth 20000 in
theorem ggX4_put_X4_come : GoodIn wsX4_put wsX4_come := goodIn_r _ [37, 38, 39, 40, 41, 42, 43, 44, 45, 46, 47, 48, 49, 50, 51, 52, 53, 54, 55, 56, 57, 58, 59, 60] (by decide +kernel) (by decide +kernel)
set_option maxRecDepth 20000 in
theorem gX4_put_X4_come : GoodIn wsX4_put (wsV RX4 157 RX4 yX4_come wsX4_come) := goodIn_app (goodIn_of _ (by decide +kernel)) ggX4_put_X4_come
theorem dX4_put_0 : decode cX4_put 0 = .ok (.aload_n 0, 1) := by decide +kernel
theorem dX4_put_1 : decode cX4_put 1 = .ok (.iload_n 1, 1) := by decide +kernel
theorem dX4_put_2 : decode cX4_put 2 = .ok (.invokestatic 142, 3) := by decide +kernel
theorem dX4_put_5 : decode cX4_put 5 = .ok (.ifCond .eq 16, 3) := by decide +kernel
theorem dX4_put_8 : decode cX4_put 8 = .ok (.iload_n 1, 1) := by decide +kernel
theorem dX4_put_9 : decode cX4_put 9 = .ok (.iload_n 1, 1) := by decide +kernel
theorem dX4_put_10 : decode cX4_put 10 = .ok (.iload_n 2, 1) := by decide +kernel
theorem dX4_put_11 : decode cX4_put 11 = .ok (.iload_n 3, 1) := by decide +kernel
theorem dX4_put_12 : decode cX4_put 12 = .ok (.invokestatic 146, 3) := by decide +kernel
theorem dX4_put_15 : decode cX4_put 15 = .ok (.invokestatic 150, 3) := by decide +kernel
theorem dX4_put_18 : decode cX4_put 18 = .ok (.ifCond .eq 7, 3) := by decide +kernel
theorem dX4_put_21 : decode cX4_put 21 = .ok (.iconst 1, 1) := by decide +kernel
theorem dX4_put_22 : decode cX4_put 22 = .ok (.goto 4, 3) := by decide +kernel
theorem dX4_put_25 : decode cX4_put 25 = .ok (.iconst 0, 1) := by decide +kernel
theorem dX4_put_26 : decode cX4_put 26 = .ok (.iconst 0, 1) := by decide +kernel
theorem dX4_put_27 : decode cX4_put 27 = .ok (.invokevirtual 153, 3) := by decide +kernel
theorem dX4_put_30 : decode cX4_put 30 = .ok (.ifCond .eq 5, 3) := by decide +kernel
theorem dX4_put_33 : decode cX4_put 33 = .ok (.iconst 0, 1) := by decide +kernel
theorem dX4_put_34 : decode cX4_put 34 = .ok (.ireturn, 1) := by decide +kernel
theorem dX4_put_35 : decode cX4_put 35 = .ok (.aload_n 0, 1) := by decide +kernel
theorem dX4_put_36 : decode cX4_put 36 = .ok (.iload_n 1, 1) := by decide +kernel
theorem dX4_put_37 : decode cX4_put 37 = .ok (.iload_n 1, 1) := by decide +kernel
theorem dX4_put_38 : decode cX4_put 38 = .ok (.iload_n 2, 1) := by decide +kernel
theorem dX4_put_39 : decode cX4_put 39 = .ok (.iload_n 3, 1) := by decide +kernel
theorem dX4_put_40 : decode cX4_put 40 = .ok (.invokestatic 146, 3) := by decide +kernel
theorem dX4_put_43 : decode cX4_put 43 = .ok (.invokevirtual 157, 3) := by decide +kernel
theorem dX4_put_46 : decode cX4_put 46 = .ok (.ireturn, 1) := by decide +kernel
set_option maxRecDepth 20000 in
theorem ggX4_patch_X4_isWire : GoodIn wsX4_patch wsX4_isWire := goodIn_r _ [5] (by decide +kernel) (by decide +kernel)
set_option maxRecDepth 20000 in
theorem gX4_patch_X4_isWire : GoodIn wsX4_patch (va_wsS RX4 142 yX4_isWire wsX4_isWire) := goodIn_app (goodIn_of _ (by decide +kernel)) ggX4_patch_X4_isWire
set_option maxRecDepth 20000 in
theorem ggX4_patch_X4_refuses : GoodIn wsX4_patch wsX4_refuses := goodIn_r _ [9, 10, 60, 61, 62, 63, 64, 65, 66, 67, 68, 69, 70, 71, 72, 73, 74, 75, 76, 77] (by decide +kernel) (by decide +kernel)
set_option maxRecDepth 20000 in
theorem gX4_patch_X4_refuses : GoodIn wsX4_patch (wsV RX4 153 RX4 yX4_refuses wsX4_refuses) := goodIn_app (goodIn_of _ (by decide +kernel)) ggX4_patch_X4_refuses
set_option maxRecDepth 20000 in
theorem ggX4_patch_X4_castTo : GoodIn wsX4_patch wsX4_castTo := goodIn_r _ [13, 14, 15, 4, 16, 17, 18, 19, 20, 21, 22, 23, 24, 25, 26, 27, 28, 29, 30, 31, 32, 33, 34, 35, 36, 37, 38, 39, 40, 41, 42, 43, 44, 45, 46, 47, 48, 49, 50, 51] (by decide +kernel) (by decide +kernel)
set_option maxRecDepth 20000 in
theorem gX4_patch_X4_castTo : GoodIn wsX4_patch (va_wsS RX4 160 yX4_castTo wsX4_castTo) := goodIn_app (goodIn_of _ (by decide +kernel)) ggX4_patch_X4_castTo
set_option maxRecDepth 20000 in
theorem ggX4_patch_X4_come : GoodIn wsX4_patch wsX4_come := goodIn_r _ [55, 56, 1, 57, 58, 59, 60, 61, 62, 63, 64, 65, 66, 67, 68, 69, 70, 71, 72, 73, 74, 75, 76, 77] (by decide +kernel) (by decide +kernel)
set_option maxRecDepth 20000 in
theorem gX4_patch_X4_come : GoodIn wsX4_patch (wsV RX4 157 RX4 yX4_come wsX4_come) := goodIn_app (goodIn_of _ (by decide +kernel)) ggX4_patch_X4_come
theorem dX4_patch_0 : decode cX4_patch 0 = .ok (.aload_n 0, 1) := by decide +kernel
theorem dX4_patch_1 : decode cX4_patch 1 = .ok (.iload_n 1, 1) := by decide +kernel
theorem dX4_patch_2 : decode cX4_patch 2 = .ok (.invokestatic 142, 3) := by decide +kernel
theorem dX4_patch_5 : decode cX4_patch 5 = .ok (.ifCond .eq 10, 3) := by decide +kernel
theorem dX4_patch_8 : decode cX4_patch 8 = .ok (.iload_n 2, 1) := by decide +kernel
theorem dX4_patch_9 : decode cX4_patch 9 = .ok (.invokestatic 142, 3) := by decide +kernel
theorem dX4_patch_12 : decode cX4_patch 12 = .ok (.ifCond .ne 7, 3) := by decide +kernel
theorem dX4_patch_15 : decode cX4_patch 15 = .ok (.iconst 1, 1) := by decide +kernel
theorem dX4_patch_16 : decode cX4_patch 16 = .ok (.goto 4, 3) := by decide +kernel
theorem dX4_patch_19 : decode cX4_patch 19 = .ok (.iconst 0, 1) := by decide +kernel
theorem dX4_patch_20 : decode cX4_patch 20 = .ok (.iconst 0, 1) := by decide +kernel
theorem dX4_patch_21 : decode cX4_patch 21 = .ok (.invokevirtual 153, 3) := by decide +kernel
theorem dX4_patch_24 : decode cX4_patch 24 = .ok (.ifCond .eq 5, 3) := by decide +kernel
theorem dX4_patch_27 : decode cX4_patch 27 = .ok (.lconst 0, 1) := by decide +kernel
theorem dX4_patch_28 : decode cX4_patch 28 = .ok (.lreturn, 1) := by decide +kernel
theorem dX4_patch_29 : decode cX4_patch 29 = .ok (.iload_n 1, 1) := by decide +kernel
theorem dX4_patch_30 : decode cX4_patch 30 = .ok (.iload_n 2, 1) := by decide +kernel
theorem dX4_patch_31 : decode cX4_patch 31 = .ok (.aload_n 0, 1) := by decide +kernel
theorem dX4_patch_32 : decode cX4_patch 32 = .ok (.getfield 13, 3) := by decide +kernel
theorem dX4_patch_35 : decode cX4_patch 35 = .ok (.iload_n 1, 1) := by decide +kernel
theorem dX4_patch_36 : decode cX4_patch 36 = .ok (.laload, 1) := by decide +kernel
theorem dX4_patch_37 : decode cX4_patch 37 = .ok (.invokestatic 160, 3) := by decide +kernel
theorem dX4_patch_40 : decode cX4_patch 40 = .ok (.lstore_n 3, 1) := by decide +kernel
theorem dX4_patch_41 : decode cX4_patch 41 = .ok (.aload_n 0, 1) := by decide +kernel
theorem dX4_patch_42 : decode cX4_patch 42 = .ok (.iload_n 2, 1) := by decide +kernel
theorem dX4_patch_43 : decode cX4_patch 43 = .ok (.lload_n 3, 1) := by decide +kernel
theorem dX4_patch_44 : decode cX4_patch 44 = .ok (.invokevirtual 157, 3) := by decide +kernel
theorem dX4_patch_47 : decode cX4_patch 47 = .ok (.istore 5, 2) := by decide +kernel
theorem dX4_patch_49 : decode cX4_patch 49 = .ok (.lload_n 3, 1) := by decide +kernel
theorem dX4_patch_50 : decode cX4_patch 50 = .ok (.lreturn, 1) := by decide +kernel
theorem dX4_isKind_0 : decode cX4_isKind 0 = .ok (.iload_n 1, 1) := by decide +kernel
theorem dX4_isKind_1 : decode cX4_isKind 1 = .ok (.ifCond .lt 29, 3) := by decide +kernel
theorem dX4_isKind_4 : decode cX4_isKind 4 = .ok (.iload_n 1, 1) := by decide +kernel
theorem dX4_isKind_5 : decode cX4_isKind 5 = .ok (.bipush 9, 2) := by decide +kernel
theorem dX4_isKind_7 : decode cX4_isKind 7 = .ok (.if_icmp .ge 23, 3) := by decide +kernel
theorem dX4_isKind_10 : decode cX4_isKind 10 = .ok (.iload_n 0, 1) := by decide +kernel
theorem dX4_isKind_11 : decode cX4_isKind 11 = .ok (.iconst 1, 1) := by decide +kernel
theorem dX4_isKind_12 : decode cX4_isKind 12 = .ok (.if_icmp .gt 14, 3) := by decide +kernel
theorem dX4_isKind_15 : decode cX4_isKind 15 = .ok (.iload_n 1, 1) := by decide +kernel
theorem dX4_isKind_16 : decode cX4_isKind 16 = .ok (.iconst 3, 1) := by decide +kernel
theorem dX4_isKind_17 : decode cX4_isKind 17 = .ok (.if_icmp .lt 9, 3) := by decide +kernel
theorem dX4_isKind_20 : decode cX4_isKind 20 = .ok (.iload_n 1, 1) := by decide +kernel
theorem dX4_isKind_21 : decode cX4_isKind 21 = .ok (.bipush 8, 2) := by decide +kernel
theorem dX4_isKind_23 : decode cX4_isKind 23 = .ok (.if_icmp .ne 7, 3) := by decide +kernel
theorem dX4_isKind_26 : decode cX4_isKind 26 = .ok (.iconst 1, 1) := by decide +kernel
theorem dX4_isKind_27 : decode cX4_isKind 27 = .ok (.goto 4, 3) := by decide +kernel
theorem dX4_isKind_30 : decode cX4_isKind 30 = .ok (.iconst 0, 1) := by decide +kernel
theorem dX4_isKind_31 : decode cX4_isKind 31 = .ok (.ireturn, 1) := by decide +kernel
set_option maxRecDepth 20000 in
theorem ggX4_pedal_X4_isWire : GoodIn wsX4_pedal wsX4_isWire := goodIn_r _ [9] (by decide +kernel) (by decide +kernel)
set_option maxRecDepth 20000 in
theorem gX4_pedal_X4_isWire : GoodIn wsX4_pedal (va_wsS RX4 142 yX4_isWire wsX4_isWire) := goodIn_app (goodIn_of _ (by decide +kernel)) ggX4_pedal_X4_isWire
set_option maxRecDepth 20000 in
theorem ggX4_pedal_X4_isKind : GoodIn wsX4_pedal wsX4_isKind := goodIn_r _ [12] (by decide +kernel) (by decide +kernel)
set_option maxRecDepth 20000 in
theorem gX4_pedal_X4_isKind : GoodIn wsX4_pedal (va_wsS RX4 164 yX4_isKind wsX4_isKind) := goodIn_app (goodIn_of _ (by decide +kernel)) ggX4_pedal_X4_isKind
set_option maxRecDepth 20000 in
theorem ggX4_pedal_X4_coded : GoodIn wsX4_pedal wsX4_coded := goodIn_r _ [15, 16] (by decide +kernel) (by decide +kernel)
set_option maxRecDepth 20000 in
theorem gX4_pedal_X4_coded : GoodIn wsX4_pedal (va_wsS RX4 146 yX4_coded wsX4_coded) := goodIn_app (goodIn_of _ (by decide +kernel)) ggX4_pedal_X4_coded
set_option maxRecDepth 20000 in
theorem ggX4_pedal_X4_isIll : GoodIn wsX4_pedal wsX4_isIll := goodIn_r _ [19, 20, 21, 8, 22, 23, 24, 25, 26, 16, 27, 28, 29, 30, 31, 32, 33, 34, 35, 36] (by decide +kernel) (by decide +kernel)
set_option maxRecDepth 20000 in
theorem gX4_pedal_X4_isIll : GoodIn wsX4_pedal (va_wsS RX4 150 yX4_isIll wsX4_isIll) := goodIn_app (goodIn_of _ (by decide +kernel)) ggX4_pedal_X4_isIll
set_option maxRecDepth 20000 in
theorem ggX4_pedal_X4_refuses : GoodIn wsX4_pedal wsX4_refuses := goodIn_r _ [40, 41, 42, 43, 44, 45, 46, 47, 48, 49, 50, 51, 52, 53, 54, 55, 56, 57, 58, 59] (by decide +kernel) (by decide +kernel)
set_option maxRecDepth 20000 in
theorem gX4_pedal_X4_refuses : GoodIn wsX4_pedal (wsV RX4 153 RX4 yX4_refuses wsX4_refuses) := goodIn_app (goodIn_of _ (by decide +kernel)) ggX4_pedal_X4_refuses
theorem dX4_pedal_0 : decode cX4_pedal 0 = .ok (.iload_n 1, 1) := by decide +kernel
theorem dX4_pedal_1 : decode cX4_pedal 1 = .ok (.invokestatic 142, 3) := by decide +kernel
theorem dX4_pedal_4 : decode cX4_pedal 4 = .ok (.ifCond .eq 25, 3) := by decide +kernel
theorem dX4_pedal_7 : decode cX4_pedal 7 = .ok (.iload_n 1, 1) := by decide +kernel
theorem dX4_pedal_8 : decode cX4_pedal 8 = .ok (.iload_n 2, 1) := by decide +kernel
theorem dX4_pedal_9 : decode cX4_pedal 9 = .ok (.invokestatic 164, 3) := by decide +kernel
theorem dX4_pedal_12 : decode cX4_pedal 12 = .ok (.ifCond .eq 17, 3) := by decide +kernel
theorem dX4_pedal_15 : decode cX4_pedal 15 = .ok (.iload_n 1, 1) := by decide +kernel
theorem dX4_pedal_16 : decode cX4_pedal 16 = .ok (.iload_n 1, 1) := by decide +kernel
theorem dX4_pedal_17 : decode cX4_pedal 17 = .ok (.iload_n 3, 1) := by decide +kernel
theorem dX4_pedal_18 : decode cX4_pedal 18 = .ok (.iload 4, 2) := by decide +kernel
theorem dX4_pedal_20 : decode cX4_pedal 20 = .ok (.invokestatic 146, 3) := by decide +kernel
theorem dX4_pedal_23 : decode cX4_pedal 23 = .ok (.invokestatic 150, 3) := by decide +kernel
theorem dX4_pedal_26 : decode cX4_pedal 26 = .ok (.ifCond .eq 7, 3) := by decide +kernel
theorem dX4_pedal_29 : decode cX4_pedal 29 = .ok (.iconst 1, 1) := by decide +kernel
theorem dX4_pedal_30 : decode cX4_pedal 30 = .ok (.goto 4, 3) := by decide +kernel
theorem dX4_pedal_33 : decode cX4_pedal 33 = .ok (.iconst 0, 1) := by decide +kernel
theorem dX4_pedal_34 : decode cX4_pedal 34 = .ok (.istore 5, 2) := by decide +kernel
theorem dX4_pedal_36 : decode cX4_pedal 36 = .ok (.aload_n 0, 1) := by decide +kernel
theorem dX4_pedal_37 : decode cX4_pedal 37 = .ok (.iload 5, 2) := by decide +kernel
theorem dX4_pedal_39 : decode cX4_pedal 39 = .ok (.iload 5, 2) := by decide +kernel
theorem dX4_pedal_41 : decode cX4_pedal 41 = .ok (.ifCond .ne 27, 3) := by decide +kernel
theorem dX4_pedal_44 : decode cX4_pedal 44 = .ok (.aload_n 0, 1) := by decide +kernel
theorem dX4_pedal_45 : decode cX4_pedal 45 = .ok (.getfield 26, 3) := by decide +kernel
theorem dX4_pedal_48 : decode cX4_pedal 48 = .ok (.iload 5, 2) := by decide +kernel
theorem dX4_pedal_50 : decode cX4_pedal 50 = .ok (.ifCond .eq 7, 3) := by decide +kernel
theorem dX4_pedal_53 : decode cX4_pedal 53 = .ok (.iconst 0, 1) := by decide +kernel
theorem dX4_pedal_54 : decode cX4_pedal 54 = .ok (.goto 4, 3) := by decide +kernel
theorem dX4_pedal_57 : decode cX4_pedal 57 = .ok (.iload_n 1, 1) := by decide +kernel
theorem dX4_pedal_58 : decode cX4_pedal 58 = .ok (.iaload, 1) := by decide +kernel
theorem dX4_pedal_59 : decode cX4_pedal 59 = .ok (.bipush 12, 2) := by decide +kernel
theorem dX4_pedal_61 : decode cX4_pedal 61 = .ok (.if_icmp .ne 7, 3) := by decide +kernel
theorem dX4_pedal_64 : decode cX4_pedal 64 = .ok (.iconst 1, 1) := by decide +kernel
theorem dX4_pedal_65 : decode cX4_pedal 65 = .ok (.goto 4, 3) := by decide +kernel
theorem dX4_pedal_68 : decode cX4_pedal 68 = .ok (.iconst 0, 1) := by decide +kernel
theorem dX4_pedal_69 : decode cX4_pedal 69 = .ok (.invokevirtual 153, 3) := by decide +kernel
theorem dX4_pedal_72 : decode cX4_pedal 72 = .ok (.ifCond .eq 5, 3) := by decide +kernel
theorem dX4_pedal_75 : decode cX4_pedal 75 = .ok (.iconst 0, 1) := by decide +kernel
theorem dX4_pedal_76 : decode cX4_pedal 76 = .ok (.ireturn, 1) := by decide +kernel
theorem dX4_pedal_77 : decode cX4_pedal 77 = .ok (.bipush 12, 2) := by decide +kernel
theorem dX4_pedal_79 : decode cX4_pedal 79 = .ok (.iload_n 1, 1) := by decide +kernel
theorem dX4_pedal_80 : decode cX4_pedal 80 = .ok (.imul, 1) := by decide +kernel
theorem dX4_pedal_81 : decode cX4_pedal 81 = .ok (.aload_n 0, 1) := by decide +kernel
theorem dX4_pedal_82 : decode cX4_pedal 82 = .ok (.getfield 26, 3) := by decide +kernel
theorem dX4_pedal_85 : decode cX4_pedal 85 = .ok (.iload_n 1, 1) := by decide +kernel
theorem dX4_pedal_86 : decode cX4_pedal 86 = .ok (.iaload, 1) := by decide +kernel
theorem dX4_pedal_87 : decode cX4_pedal 87 = .ok (.iadd, 1) := by decide +kernel
theorem dX4_pedal_88 : decode cX4_pedal 88 = .ok (.istore 6, 2) := by decide +kernel
theorem dX4_pedal_90 : decode cX4_pedal 90 = .ok (.aload_n 0, 1) := by decide +kernel
theorem dX4_pedal_91 : decode cX4_pedal 91 = .ok (.getfield 36, 3) := by decide +kernel
theorem dX4_pedal_94 : decode cX4_pedal 94 = .ok (.iload 6, 2) := by decide +kernel
theorem dX4_pedal_96 : decode cX4_pedal 96 = .ok (.iload_n 2, 1) := by decide +kernel
theorem dX4_pedal_97 : decode cX4_pedal 97 = .ok (.iastore, 1) := by decide +kernel
theorem dX4_pedal_98 : decode cX4_pedal 98 = .ok (.aload_n 0, 1) := by decide +kernel
theorem dX4_pedal_99 : decode cX4_pedal 99 = .ok (.getfield 39, 3) := by decide +kernel
theorem dX4_pedal_102 : decode cX4_pedal 102 = .ok (.iload 6, 2) := by decide +kernel
theorem dX4_pedal_104 : decode cX4_pedal 104 = .ok (.iload_n 1, 1) := by decide +kernel
theorem dX4_pedal_105 : decode cX4_pedal 105 = .ok (.iload_n 3, 1) := by decide +kernel
theorem dX4_pedal_106 : decode cX4_pedal 106 = .ok (.iload 4, 2) := by decide +kernel
theorem dX4_pedal_108 : decode cX4_pedal 108 = .ok (.invokestatic 146, 3) := by decide +kernel
theorem dX4_pedal_111 : decode cX4_pedal 111 = .ok (.lastore, 1) := by decide +kernel
theorem dX4_pedal_112 : decode cX4_pedal 112 = .ok (.aload_n 0, 1) := by decide +kernel
theorem dX4_pedal_113 : decode cX4_pedal 113 = .ok (.getfield 45, 3) := by decide +kernel
theorem dX4_pedal_116 : decode cX4_pedal 116 = .ok (.iload 6, 2) := by decide +kernel
theorem dX4_pedal_118 : decode cX4_pedal 118 = .ok (.iconst 1, 1) := by decide +kernel
theorem dX4_pedal_119 : decode cX4_pedal 119 = .ok (.bastore, 1) := by decide +kernel
theorem dX4_pedal_120 : decode cX4_pedal 120 = .ok (.aload_n 0, 1) := by decide +kernel
theorem dX4_pedal_121 : decode cX4_pedal 121 = .ok (.getfield 26, 3) := by decide +kernel
theorem dX4_pedal_124 : decode cX4_pedal 124 = .ok (.iload_n 1, 1) := by decide +kernel
theorem dX4_pedal_125 : decode cX4_pedal 125 = .ok (.dup2, 1) := by decide +kernel
theorem dX4_pedal_126 : decode cX4_pedal 126 = .ok (.iaload, 1) := by decide +kernel
theorem dX4_pedal_127 : decode cX4_pedal 127 = .ok (.iconst 1, 1) := by decide +kernel
theorem dX4_pedal_128 : decode cX4_pedal 128 = .ok (.iadd, 1) := by decide +kernel
theorem dX4_pedal_129 : decode cX4_pedal 129 = .ok (.iastore, 1) := by decide +kernel
theorem dX4_pedal_130 : decode cX4_pedal 130 = .ok (.aload_n 0, 1) := by decide +kernel
theorem dX4_pedal_131 : decode cX4_pedal 131 = .ok (.getfield 29, 3) := by decide +kernel
theorem dX4_pedal_134 : decode cX4_pedal 134 = .ok (.iload_n 1, 1) := by decide +kernel
theorem dX4_pedal_135 : decode cX4_pedal 135 = .ok (.iconst 0, 1) := by decide +kernel
theorem dX4_pedal_136 : decode cX4_pedal 136 = .ok (.bastore, 1) := by decide +kernel
theorem dX4_pedal_137 : decode cX4_pedal 137 = .ok (.aload_n 0, 1) := by decide +kernel
theorem dX4_pedal_138 : decode cX4_pedal 138 = .ok (.getfield 26, 3) := by decide +kernel
theorem dX4_pedal_141 : decode cX4_pedal 141 = .ok (.iload_n 1, 1) := by decide +kernel
theorem dX4_pedal_142 : decode cX4_pedal 142 = .ok (.iaload, 1) := by decide +kernel
theorem dX4_pedal_143 : decode cX4_pedal 143 = .ok (.iconst 1, 1) := by decide +kernel
theorem dX4_pedal_144 : decode cX4_pedal 144 = .ok (.isub, 1) := by decide +kernel
theorem dX4_pedal_145 : decode cX4_pedal 145 = .ok (.ireturn, 1) := by decide +kernel
set_option maxRecDepth 20000 in
theorem ggX4_turn_X4_isPedal : GoodIn wsX4_turn wsX4_isPedal := goodIn_r _ [6, 7, 8, 9, 5, 10, 40, 41, 42, 43, 44, 45, 46, 47, 48, 49, 50, 51, 52, 53, 54, 55, 56, 57] (by decide +kernel) (by decide +kernel)
set_option maxRecDepth 20000 in
theorem gX4_turn_X4_isPedal : GoodIn wsX4_turn (wsV RX4 168 RX4 yX4_isPedal wsX4_isPedal) := goodIn_app (goodIn_of _ (by decide +kernel)) ggX4_turn_X4_isPedal
set_option maxRecDepth 20000 in
theorem ggX4_turn_X4_coded : GoodIn wsX4_turn wsX4_coded := goodIn_r _ [13, 14] (by decide +kernel) (by decide +kernel)
set_option maxRecDepth 20000 in
theorem gX4_turn_X4_coded : GoodIn wsX4_turn (va_wsS RX4 146 yX4_coded wsX4_coded) := goodIn_app (goodIn_of _ (by decide +kernel)) ggX4_turn_X4_coded
set_option maxRecDepth 20000 in
theorem ggX4_turn_X4_isIll : GoodIn wsX4_turn wsX4_isIll := goodIn_r _ [17, 18, 19, 5, 20, 21, 22, 23, 24, 14, 25, 26, 27, 28, 29, 30, 31, 32, 33, 34] (by decide +kernel) (by decide +kernel)
set_option maxRecDepth 20000 in
theorem gX4_turn_X4_isIll : GoodIn wsX4_turn (va_wsS RX4 150 yX4_isIll wsX4_isIll) := goodIn_app (goodIn_of _ (by decide +kernel)) ggX4_turn_X4_isIll
set_option maxRecDepth 20000 in
theorem ggX4_turn_X4_refuses : GoodIn wsX4_turn wsX4_refuses := goodIn_r _ [38, 39, 40, 41, 42, 43, 44, 45, 46, 47, 48, 49, 50, 51, 52, 53, 54, 55, 56, 57] (by decide +kernel) (by decide +kernel)
set_option maxRecDepth 20000 in
theorem gX4_turn_X4_refuses : GoodIn wsX4_turn (wsV RX4 153 RX4 yX4_refuses wsX4_refuses) := goodIn_app (goodIn_of _ (by decide +kernel)) ggX4_turn_X4_refuses
theorem dX4_turn_0 : decode cX4_turn 0 = .ok (.aload_n 0, 1) := by decide +kernel
theorem dX4_turn_1 : decode cX4_turn 1 = .ok (.aload_n 0, 1) := by decide +kernel
theorem dX4_turn_2 : decode cX4_turn 2 = .ok (.iload_n 1, 1) := by decide +kernel
theorem dX4_turn_3 : decode cX4_turn 3 = .ok (.iload_n 2, 1) := by decide +kernel
theorem dX4_turn_4 : decode cX4_turn 4 = .ok (.invokevirtual 168, 3) := by decide +kernel
theorem dX4_turn_7 : decode cX4_turn 7 = .ok (.ifCond .eq 17, 3) := by decide +kernel
theorem dX4_turn_10 : decode cX4_turn 10 = .ok (.iload_n 1, 1) := by decide +kernel
theorem dX4_turn_11 : decode cX4_turn 11 = .ok (.iload_n 1, 1) := by decide +kernel
theorem dX4_turn_12 : decode cX4_turn 12 = .ok (.iload_n 3, 1) := by decide +kernel
theorem dX4_turn_13 : decode cX4_turn 13 = .ok (.iload 4, 2) := by decide +kernel
theorem dX4_turn_15 : decode cX4_turn 15 = .ok (.invokestatic 146, 3) := by decide +kernel
theorem dX4_turn_18 : decode cX4_turn 18 = .ok (.invokestatic 150, 3) := by decide +kernel
theorem dX4_turn_21 : decode cX4_turn 21 = .ok (.ifCond .eq 7, 3) := by decide +kernel
theorem dX4_turn_24 : decode cX4_turn 24 = .ok (.iconst 1, 1) := by decide +kernel
theorem dX4_turn_25 : decode cX4_turn 25 = .ok (.goto 4, 3) := by decide +kernel
theorem dX4_turn_28 : decode cX4_turn 28 = .ok (.iconst 0, 1) := by decide +kernel
theorem dX4_turn_29 : decode cX4_turn 29 = .ok (.iconst 0, 1) := by decide +kernel
theorem dX4_turn_30 : decode cX4_turn 30 = .ok (.invokevirtual 153, 3) := by decide +kernel
theorem dX4_turn_33 : decode cX4_turn 33 = .ok (.ifCond .eq 5, 3) := by decide +kernel
theorem dX4_turn_36 : decode cX4_turn 36 = .ok (.iconst 0, 1) := by decide +kernel
theorem dX4_turn_37 : decode cX4_turn 37 = .ok (.ireturn, 1) := by decide +kernel
theorem dX4_turn_38 : decode cX4_turn 38 = .ok (.bipush 12, 2) := by decide +kernel
theorem dX4_turn_40 : decode cX4_turn 40 = .ok (.iload_n 1, 1) := by decide +kernel
theorem dX4_turn_41 : decode cX4_turn 41 = .ok (.imul, 1) := by decide +kernel
theorem dX4_turn_42 : decode cX4_turn 42 = .ok (.iload_n 2, 1) := by decide +kernel
theorem dX4_turn_43 : decode cX4_turn 43 = .ok (.iadd, 1) := by decide +kernel
theorem dX4_turn_44 : decode cX4_turn 44 = .ok (.istore 5, 2) := by decide +kernel
theorem dX4_turn_46 : decode cX4_turn 46 = .ok (.aload_n 0, 1) := by decide +kernel
theorem dX4_turn_47 : decode cX4_turn 47 = .ok (.getfield 39, 3) := by decide +kernel
theorem dX4_turn_50 : decode cX4_turn 50 = .ok (.iload 5, 2) := by decide +kernel
theorem dX4_turn_52 : decode cX4_turn 52 = .ok (.laload, 1) := by decide +kernel
theorem dX4_turn_53 : decode cX4_turn 53 = .ok (.iload_n 1, 1) := by decide +kernel
theorem dX4_turn_54 : decode cX4_turn 54 = .ok (.iload_n 3, 1) := by decide +kernel
theorem dX4_turn_55 : decode cX4_turn 55 = .ok (.iload 4, 2) := by decide +kernel
theorem dX4_turn_57 : decode cX4_turn 57 = .ok (.invokestatic 146, 3) := by decide +kernel
theorem dX4_turn_60 : decode cX4_turn 60 = .ok (.lcmp, 1) := by decide +kernel
theorem dX4_turn_61 : decode cX4_turn 61 = .ok (.ifCond .eq 7, 3) := by decide +kernel
theorem dX4_turn_64 : decode cX4_turn 64 = .ok (.iconst 1, 1) := by decide +kernel
theorem dX4_turn_65 : decode cX4_turn 65 = .ok (.goto 4, 3) := by decide +kernel
theorem dX4_turn_68 : decode cX4_turn 68 = .ok (.iconst 0, 1) := by decide +kernel
theorem dX4_turn_69 : decode cX4_turn 69 = .ok (.istore 6, 2) := by decide +kernel
theorem dX4_turn_71 : decode cX4_turn 71 = .ok (.aload_n 0, 1) := by decide +kernel
theorem dX4_turn_72 : decode cX4_turn 72 = .ok (.getfield 39, 3) := by decide +kernel
theorem dX4_turn_75 : decode cX4_turn 75 = .ok (.iload 5, 2) := by decide +kernel
theorem dX4_turn_77 : decode cX4_turn 77 = .ok (.iload_n 1, 1) := by decide +kernel
theorem dX4_turn_78 : decode cX4_turn 78 = .ok (.iload_n 3, 1) := by decide +kernel
theorem dX4_turn_79 : decode cX4_turn 79 = .ok (.iload 4, 2) := by decide +kernel
theorem dX4_turn_81 : decode cX4_turn 81 = .ok (.invokestatic 146, 3) := by decide +kernel
theorem dX4_turn_84 : decode cX4_turn 84 = .ok (.lastore, 1) := by decide +kernel
theorem dX4_turn_85 : decode cX4_turn 85 = .ok (.iload 6, 2) := by decide +kernel
theorem dX4_turn_87 : decode cX4_turn 87 = .ok (.ireturn, 1) := by decide +kernel
set_option maxRecDepth 20000 in
theorem ggX4_tap_X4_isPedal : GoodIn wsX4_tap wsX4_isPedal := goodIn_r _ [6, 7, 8, 9, 5, 10, 16, 17, 18, 19, 20, 21, 22, 23, 24, 25, 26, 27, 28, 29, 30, 31, 32, 33] (by decide +kernel) (by decide +kernel)
set_option maxRecDepth 20000 in
theorem gX4_tap_X4_isPedal : GoodIn wsX4_tap (wsV RX4 168 RX4 yX4_isPedal wsX4_isPedal) := goodIn_app (goodIn_of _ (by decide +kernel)) ggX4_tap_X4_isPedal
set_option maxRecDepth 20000 in
theorem ggX4_tap_X4_refuses : GoodIn wsX4_tap wsX4_refuses := goodIn_r _ [14, 15, 16, 17, 18, 19, 20, 21, 22, 23, 24, 25, 26, 27, 28, 29, 30, 31, 32, 33] (by decide +kernel) (by decide +kernel)
set_option maxRecDepth 20000 in
theorem gX4_tap_X4_refuses : GoodIn wsX4_tap (wsV RX4 153 RX4 yX4_refuses wsX4_refuses) := goodIn_app (goodIn_of _ (by decide +kernel)) ggX4_tap_X4_refuses
theorem dX4_tap_0 : decode cX4_tap 0 = .ok (.aload_n 0, 1) := by decide +kernel
theorem dX4_tap_1 : decode cX4_tap 1 = .ok (.aload_n 0, 1) := by decide +kernel
theorem dX4_tap_2 : decode cX4_tap 2 = .ok (.iload_n 1, 1) := by decide +kernel
theorem dX4_tap_3 : decode cX4_tap 3 = .ok (.iload_n 2, 1) := by decide +kernel
theorem dX4_tap_4 : decode cX4_tap 4 = .ok (.invokevirtual 168, 3) := by decide +kernel
theorem dX4_tap_7 : decode cX4_tap 7 = .ok (.ifCond .ne 7, 3) := by decide +kernel
theorem dX4_tap_10 : decode cX4_tap 10 = .ok (.iconst 1, 1) := by decide +kernel
theorem dX4_tap_11 : decode cX4_tap 11 = .ok (.goto 4, 3) := by decide +kernel
theorem dX4_tap_14 : decode cX4_tap 14 = .ok (.iconst 0, 1) := by decide +kernel
theorem dX4_tap_15 : decode cX4_tap 15 = .ok (.iconst 0, 1) := by decide +kernel
theorem dX4_tap_16 : decode cX4_tap 16 = .ok (.invokevirtual 153, 3) := by decide +kernel
theorem dX4_tap_19 : decode cX4_tap 19 = .ok (.ifCond .eq 5, 3) := by decide +kernel
theorem dX4_tap_22 : decode cX4_tap 22 = .ok (.iconst 0, 1) := by decide +kernel
theorem dX4_tap_23 : decode cX4_tap 23 = .ok (.ireturn, 1) := by decide +kernel
theorem dX4_tap_24 : decode cX4_tap 24 = .ok (.aload_n 0, 1) := by decide +kernel
theorem dX4_tap_25 : decode cX4_tap 25 = .ok (.getfield 45, 3) := by decide +kernel
theorem dX4_tap_28 : decode cX4_tap 28 = .ok (.bipush 12, 2) := by decide +kernel
theorem dX4_tap_30 : decode cX4_tap 30 = .ok (.iload_n 1, 1) := by decide +kernel
theorem dX4_tap_31 : decode cX4_tap 31 = .ok (.imul, 1) := by decide +kernel
theorem dX4_tap_32 : decode cX4_tap 32 = .ok (.iload_n 2, 1) := by decide +kernel
theorem dX4_tap_33 : decode cX4_tap 33 = .ok (.iadd, 1) := by decide +kernel
theorem dX4_tap_34 : decode cX4_tap 34 = .ok (.aload_n 0, 1) := by decide +kernel
theorem dX4_tap_35 : decode cX4_tap 35 = .ok (.getfield 45, 3) := by decide +kernel
theorem dX4_tap_38 : decode cX4_tap 38 = .ok (.bipush 12, 2) := by decide +kernel
theorem dX4_tap_40 : decode cX4_tap 40 = .ok (.iload_n 1, 1) := by decide +kernel
theorem dX4_tap_41 : decode cX4_tap 41 = .ok (.imul, 1) := by decide +kernel
theorem dX4_tap_42 : decode cX4_tap 42 = .ok (.iload_n 2, 1) := by decide +kernel
theorem dX4_tap_43 : decode cX4_tap 43 = .ok (.iadd, 1) := by decide +kernel
theorem dX4_tap_44 : decode cX4_tap 44 = .ok (.baload, 1) := by decide +kernel
theorem dX4_tap_45 : decode cX4_tap 45 = .ok (.ifCond .ne 7, 3) := by decide +kernel
theorem dX4_tap_48 : decode cX4_tap 48 = .ok (.iconst 1, 1) := by decide +kernel
theorem dX4_tap_49 : decode cX4_tap 49 = .ok (.goto 4, 3) := by decide +kernel
theorem dX4_tap_52 : decode cX4_tap 52 = .ok (.iconst 0, 1) := by decide +kernel
theorem dX4_tap_53 : decode cX4_tap 53 = .ok (.bastore, 1) := by decide +kernel
theorem dX4_tap_54 : decode cX4_tap 54 = .ok (.aload_n 0, 1) := by decide +kernel
theorem dX4_tap_55 : decode cX4_tap 55 = .ok (.getfield 45, 3) := by decide +kernel
theorem dX4_tap_58 : decode cX4_tap 58 = .ok (.bipush 12, 2) := by decide +kernel
theorem dX4_tap_60 : decode cX4_tap 60 = .ok (.iload_n 1, 1) := by decide +kernel
theorem dX4_tap_61 : decode cX4_tap 61 = .ok (.imul, 1) := by decide +kernel
theorem dX4_tap_62 : decode cX4_tap 62 = .ok (.iload_n 2, 1) := by decide +kernel
theorem dX4_tap_63 : decode cX4_tap 63 = .ok (.iadd, 1) := by decide +kernel
theorem dX4_tap_64 : decode cX4_tap 64 = .ok (.baload, 1) := by decide +kernel
theorem dX4_tap_65 : decode cX4_tap 65 = .ok (.ireturn, 1) := by decide +kernel
set_option maxRecDepth 20000 in
theorem ggX4_swap_X4_isPedal : GoodIn wsX4_swap wsX4_isPedal := goodIn_r _ [9, 10, 11, 12, 8, 13, 19, 20, 21, 22, 23, 24, 25, 26, 27, 28, 29, 30, 31, 32, 33, 34, 35, 36] (by decide +kernel) (by decide +kernel)
set_option maxRecDepth 20000 in
theorem gX4_swap_X4_isPedal : GoodIn wsX4_swap (wsV RX4 168 RX4 yX4_isPedal wsX4_isPedal) := goodIn_app (goodIn_of _ (by decide +kernel)) ggX4_swap_X4_isPedal
set_option maxRecDepth 20000 in
theorem ggX4_swap_X4_refuses : GoodIn wsX4_swap wsX4_refuses := goodIn_r _ [17, 18, 19, 20, 21, 22, 23, 24, 25, 26, 27, 28, 29, 30, 31, 32, 33, 34, 35, 36] (by decide +kernel) (by decide +kernel)
set_option maxRecDepth 20000 in
theorem gX4_swap_X4_refuses : GoodIn wsX4_swap (wsV RX4 153 RX4 yX4_refuses wsX4_refuses) := goodIn_app (goodIn_of _ (by decide +kernel)) ggX4_swap_X4_refuses
theorem dX4_swap_0 : decode cX4_swap 0 = .ok (.aload_n 0, 1) := by decide +kernel
theorem dX4_swap_1 : decode cX4_swap 1 = .ok (.aload_n 0, 1) := by decide +kernel
theorem dX4_swap_2 : decode cX4_swap 2 = .ok (.iload_n 1, 1) := by decide +kernel
theorem dX4_swap_3 : decode cX4_swap 3 = .ok (.iload_n 2, 1) := by decide +kernel
theorem dX4_swap_4 : decode cX4_swap 4 = .ok (.invokevirtual 168, 3) := by decide +kernel
theorem dX4_swap_7 : decode cX4_swap 7 = .ok (.ifCond .eq 12, 3) := by decide +kernel
theorem dX4_swap_10 : decode cX4_swap 10 = .ok (.aload_n 0, 1) := by decide +kernel
theorem dX4_swap_11 : decode cX4_swap 11 = .ok (.iload_n 1, 1) := by decide +kernel
theorem dX4_swap_12 : decode cX4_swap 12 = .ok (.iload_n 3, 1) := by decide +kernel
theorem dX4_swap_13 : decode cX4_swap 13 = .ok (.invokevirtual 168, 3) := by decide +kernel
theorem dX4_swap_16 : decode cX4_swap 16 = .ok (.ifCond .ne 7, 3) := by decide +kernel
