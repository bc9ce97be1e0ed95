theorem dX3_put_0 : decode cX3_put 0 = .ok (.aload_n 0, 1) := by decide +kernel
theorem dX3_put_1 : decode cX3_put 1 = .ok (.iload_n 1, 1) := by decide +kernel
theorem dX3_put_2 : decode cX3_put 2 = .ok (.invokevirtual 22, 3) := by decide +kernel
theorem dX3_put_5 : decode cX3_put 5 = .ok (.astore 4, 2) := by decide +kernel
theorem dX3_put_7 : decode cX3_put 7 = .ok (.aload 4, 2) := by decide +kernel
theorem dX3_put_9 : decode cX3_put 9 = .ok (.aload 4, 2) := by decide +kernel
theorem dX3_put_11 : decode cX3_put 11 = .ok (.iload_n 2, 1) := by decide +kernel
theorem dX3_put_12 : decode cX3_put 12 = .ok (.iload_n 3, 1) := by decide +kernel
theorem dX3_put_13 : decode cX3_put 13 = .ok (.invokestatic 26, 3) := by decide +kernel
theorem dX3_put_16 : decode cX3_put 16 = .ok (.invokevirtual 30, 3) := by decide +kernel
theorem dX3_put_19 : decode cX3_put 19 = .ok (.ireturn, 1) := by decide +kernel
set_option maxRecDepth 20000 in
theorem ggX3_pedal_X3_wireAt : GoodIn wsX3_pedal wsX3_wireAt := goodIn_ca (goodIn_r _ [12, 1, 2, 13, 14, 15, 11, 16, 72] (by decide +kernel) (by decide +kernel)) (goodIn_sub (fun _ h => List.mem_cons_of_mem _ (List.mem_append_left _ (List.mem_append_right _ h))) (by decide +kernel))
set_option maxRecDepth 20000 in
theorem gX3_pedal_X3_wireAt : GoodIn wsX3_pedal (wsV RX3 22 RX3 yX3_wireAt wsX3_wireAt) := goodIn_app (goodIn_of _ (by decide +kernel)) ggX3_pedal_X3_wireAt
set_option maxRecDepth 20000 in
theorem ggX3_pedal_X1_hasKind : GoodIn wsX3_pedal wsX1_hasKind := goodIn_r _ [21, 22, 23, 24, 20, 25, 26] (by decide +kernel) (by decide +kernel)
set_option maxRecDepth 20000 in
theorem gX3_pedal_X1_hasKind : GoodIn wsX3_pedal (wsV RX3 38 RX1 yX1_hasKind wsX1_hasKind) := goodIn_app (goodIn_of _ (by decide +kernel)) ggX3_pedal_X1_hasKind
set_option maxRecDepth 20000 in
theorem ggX3_pedal_X3_numberOn : GoodIn wsX3_pedal wsX3_numberOn := goodIn_ca (goodIn_r _ [29, 1, 2, 5, 30, 31, 32, 20, 33, 34, 35, 36, 37, 38, 39, 40, 22, 23, 24, 25, 26, 41, 42, 43, 44, 45, 46, 61, 62, 63, 64, 65, 66, 67, 68, 69, 70, 71] (by decide +kernel) (by decide +kernel)) (goodIn_sub (fun _ h => List.mem_cons_of_mem _ (List.mem_append_left _ (List.mem_append_right _ h))) (by decide +kernel))
set_option maxRecDepth 20000 in
theorem gX3_pedal_X3_numberOn : GoodIn wsX3_pedal (va_wsS RX3 26 yX3_numberOn wsX3_numberOn) := goodIn_app (goodIn_of _ (by decide +kernel)) ggX3_pedal_X3_numberOn
set_option maxRecDepth 20000 in
theorem ggX3_pedal_X0_isFull : GoodIn wsX3_pedal wsX0_isFull := goodIn_r _ [51, 52, 73, 74, 75, 76] (by decide +kernel) (by decide +kernel)
set_option maxRecDepth 20000 in
theorem gX3_pedal_X0_isFull : GoodIn wsX3_pedal (wsV RX3 55 RX0 yX0_isFull wsX0_isFull) := goodIn_app (goodIn_of _ (by decide +kernel)) ggX3_pedal_X0_isFull
set_option maxRecDepth 20000 in
theorem ggX3_pedal_X0_append : GoodIn wsX3_pedal wsX0_append := goodIn_r _ [56, 57, 52, 58, 59, 60, 48, 49, 50, 51, 73, 74, 75, 76] (by decide +kernel) (by decide +kernel)
set_option maxRecDepth 20000 in
theorem gX3_pedal_X0_append : GoodIn wsX3_pedal (wsV RX3 70 RX0 yX0_append wsX0_append) := goodIn_app (goodIn_of _ (by decide +kernel)) ggX3_pedal_X0_append
theorem dX3_pedal_0 : decode cX3_pedal 0 = .ok (.aload_n 0, 1) := by decide +kernel
theorem dX3_pedal_1 : decode cX3_pedal 1 = .ok (.iload_n 1, 1) := by decide +kernel
theorem dX3_pedal_2 : decode cX3_pedal 2 = .ok (.invokevirtual 22, 3) := by decide +kernel
theorem dX3_pedal_5 : decode cX3_pedal 5 = .ok (.astore 5, 2) := by decide +kernel
theorem dX3_pedal_7 : decode cX3_pedal 7 = .ok (.aload 5, 2) := by decide +kernel
theorem dX3_pedal_9 : decode cX3_pedal 9 = .ok (.getfield 34, 3) := by decide +kernel
theorem dX3_pedal_12 : decode cX3_pedal 12 = .ok (.iload_n 2, 1) := by decide +kernel
theorem dX3_pedal_13 : decode cX3_pedal 13 = .ok (.invokevirtual 38, 3) := by decide +kernel
theorem dX3_pedal_16 : decode cX3_pedal 16 = .ok (.ifCond .ne 13, 3) := by decide +kernel
theorem dX3_pedal_19 : decode cX3_pedal 19 = .ok (.new 44, 3) := by decide +kernel
theorem dX3_pedal_22 : decode cX3_pedal 22 = .ok (.dup, 1) := by decide +kernel
theorem dX3_pedal_23 : decode cX3_pedal 23 = .ok (.ldc 46, 2) := by decide +kernel
theorem dX3_pedal_25 : decode cX3_pedal 25 = .ok (.invokespecial 48, 3) := by decide +kernel
theorem dX3_pedal_28 : decode cX3_pedal 28 = .ok (.athrow, 1) := by decide +kernel
theorem dX3_pedal_29 : decode cX3_pedal 29 = .ok (.aload 5, 2) := by decide +kernel
theorem dX3_pedal_31 : decode cX3_pedal 31 = .ok (.iload_n 3, 1) := by decide +kernel
theorem dX3_pedal_32 : decode cX3_pedal 32 = .ok (.iload 4, 2) := by decide +kernel
theorem dX3_pedal_34 : decode cX3_pedal 34 = .ok (.invokestatic 26, 3) := by decide +kernel
theorem dX3_pedal_37 : decode cX3_pedal 37 = .ok (.lstore 6, 2) := by decide +kernel
theorem dX3_pedal_39 : decode cX3_pedal 39 = .ok (.aload 5, 2) := by decide +kernel
theorem dX3_pedal_41 : decode cX3_pedal 41 = .ok (.getfield 51, 3) := by decide +kernel
theorem dX3_pedal_44 : decode cX3_pedal 44 = .ok (.invokevirtual 55, 3) := by decide +kernel
theorem dX3_pedal_47 : decode cX3_pedal 47 = .ok (.ifCond .eq 13, 3) := by decide +kernel
theorem dX3_pedal_50 : decode cX3_pedal 50 = .ok (.new 61, 3) := by decide +kernel
theorem dX3_pedal_53 : decode cX3_pedal 53 = .ok (.dup, 1) := by decide +kernel
theorem dX3_pedal_54 : decode cX3_pedal 54 = .ok (.ldc 63, 2) := by decide +kernel
theorem dX3_pedal_56 : decode cX3_pedal 56 = .ok (.invokespecial 65, 3) := by decide +kernel
theorem dX3_pedal_59 : decode cX3_pedal 59 = .ok (.athrow, 1) := by decide +kernel
theorem dX3_pedal_60 : decode cX3_pedal 60 = .ok (.aload 5, 2) := by decide +kernel
theorem dX3_pedal_62 : decode cX3_pedal 62 = .ok (.iconst 0, 1) := by decide +kernel
theorem dX3_pedal_63 : decode cX3_pedal 63 = .ok (.putfield 66, 3) := by decide +kernel
theorem dX3_pedal_66 : decode cX3_pedal 66 = .ok (.aload 5, 2) := by decide +kernel
theorem dX3_pedal_68 : decode cX3_pedal 68 = .ok (.getfield 51, 3) := by decide +kernel
theorem dX3_pedal_71 : decode cX3_pedal 71 = .ok (.iload_n 2, 1) := by decide +kernel
theorem dX3_pedal_72 : decode cX3_pedal 72 = .ok (.lload 6, 2) := by decide +kernel
theorem dX3_pedal_74 : decode cX3_pedal 74 = .ok (.invokevirtual 70, 3) := by decide +kernel
theorem dX3_pedal_77 : decode cX3_pedal 77 = .ok (.ireturn, 1) := by decide +kernel
set_option maxRecDepth 20000 in
theorem ggX3_turn_X3_wireAt : GoodIn wsX3_turn wsX3_wireAt := goodIn_ca (goodIn_r _ [7, 8, 9, 10, 11, 12, 6, 13, 65] (by decide +kernel) (by decide +kernel)) (goodIn_sub (fun _ h => List.mem_cons_of_mem _ (List.mem_append_right _ h)) (by decide +kernel))
set_option maxRecDepth 20000 in
theorem gX3_turn_X3_wireAt : GoodIn wsX3_turn (wsV RX3 22 RX3 yX3_wireAt wsX3_wireAt) := goodIn_app (goodIn_of _ (by decide +kernel)) ggX3_turn_X3_wireAt
set_option maxRecDepth 20000 in
theorem ggX3_turn_X3_needPedal : GoodIn wsX3_turn wsX3_needPedal := goodIn_ca (goodIn_r _ [16, 8, 9, 1, 17, 18, 19, 20, 21, 22, 50, 51, 52, 53, 54, 55, 56, 57, 58, 59, 60, 61, 62, 63, 64] (by decide +kernel) (by decide +kernel)) (goodIn_sub (fun _ h => List.mem_cons_of_mem _ (List.mem_append_right _ h)) (by decide +kernel))
set_option maxRecDepth 20000 in
theorem gX3_turn_X3_needPedal : GoodIn wsX3_turn (va_wsS RX3 74 yX3_needPedal wsX3_needPedal) := goodIn_app (goodIn_of _ (by decide +kernel)) ggX3_turn_X3_needPedal
set_option maxRecDepth 20000 in
theorem ggX3_turn_X3_numberOn : GoodIn wsX3_turn wsX3_numberOn := goodIn_ca (goodIn_r _ [25, 8, 9, 26, 27, 28, 29, 30, 31, 32, 33, 34, 35, 36, 37, 38, 39, 40, 41, 42, 43, 44, 45, 46, 47, 48, 49, 50, 51, 52, 53, 54, 55, 56, 57, 58, 59, 60] (by decide +kernel) (by decide +kernel)) (goodIn_sub (fun _ h => List.mem_cons_of_mem _ (List.mem_append_right _ h)) (by decide +kernel))
set_option maxRecDepth 20000 in
theorem gX3_turn_X3_numberOn : GoodIn wsX3_turn (va_wsS RX3 26 yX3_numberOn wsX3_numberOn) := goodIn_app (goodIn_of _ (by decide +kernel)) ggX3_turn_X3_numberOn
theorem dX3_turn_0 : decode cX3_turn 0 = .ok (.aload_n 0, 1) := by decide +kernel
theorem dX3_turn_1 : decode cX3_turn 1 = .ok (.iload_n 1, 1) := by decide +kernel
theorem dX3_turn_2 : decode cX3_turn 2 = .ok (.invokevirtual 22, 3) := by decide +kernel
theorem dX3_turn_5 : decode cX3_turn 5 = .ok (.astore 5, 2) := by decide +kernel
theorem dX3_turn_7 : decode cX3_turn 7 = .ok (.aload 5, 2) := by decide +kernel
theorem dX3_turn_9 : decode cX3_turn 9 = .ok (.iload_n 2, 1) := by decide +kernel
theorem dX3_turn_10 : decode cX3_turn 10 = .ok (.invokestatic 74, 3) := by decide +kernel
theorem dX3_turn_13 : decode cX3_turn 13 = .ok (.aload 5, 2) := by decide +kernel
theorem dX3_turn_15 : decode cX3_turn 15 = .ok (.iload_n 3, 1) := by decide +kernel
theorem dX3_turn_16 : decode cX3_turn 16 = .ok (.iload 4, 2) := by decide +kernel
theorem dX3_turn_18 : decode cX3_turn 18 = .ok (.invokestatic 26, 3) := by decide +kernel
theorem dX3_turn_21 : decode cX3_turn 21 = .ok (.lstore 6, 2) := by decide +kernel
theorem dX3_turn_23 : decode cX3_turn 23 = .ok (.aload 5, 2) := by decide +kernel
theorem dX3_turn_25 : decode cX3_turn 25 = .ok (.getfield 51, 3) := by decide +kernel
theorem dX3_turn_28 : decode cX3_turn 28 = .ok (.getfield 78, 3) := by decide +kernel
theorem dX3_turn_31 : decode cX3_turn 31 = .ok (.iload_n 2, 1) := by decide +kernel
theorem dX3_turn_32 : decode cX3_turn 32 = .ok (.laload, 1) := by decide +kernel
theorem dX3_turn_33 : decode cX3_turn 33 = .ok (.lload 6, 2) := by decide +kernel
theorem dX3_turn_35 : decode cX3_turn 35 = .ok (.lcmp, 1) := by decide +kernel
theorem dX3_turn_36 : decode cX3_turn 36 = .ok (.ifCond .eq 7, 3) := by decide +kernel
theorem dX3_turn_39 : decode cX3_turn 39 = .ok (.iconst 1, 1) := by decide +kernel
theorem dX3_turn_40 : decode cX3_turn 40 = .ok (.goto 4, 3) := by decide +kernel
theorem dX3_turn_43 : decode cX3_turn 43 = .ok (.iconst 0, 1) := by decide +kernel
theorem dX3_turn_44 : decode cX3_turn 44 = .ok (.istore 8, 2) := by decide +kernel
theorem dX3_turn_46 : decode cX3_turn 46 = .ok (.aload 5, 2) := by decide +kernel
theorem dX3_turn_48 : decode cX3_turn 48 = .ok (.getfield 51, 3) := by decide +kernel
theorem dX3_turn_51 : decode cX3_turn 51 = .ok (.getfield 78, 3) := by decide +kernel
theorem dX3_turn_54 : decode cX3_turn 54 = .ok (.iload_n 2, 1) := by decide +kernel
theorem dX3_turn_55 : decode cX3_turn 55 = .ok (.lload 6, 2) := by decide +kernel
theorem dX3_turn_57 : decode cX3_turn 57 = .ok (.lastore, 1) := by decide +kernel
theorem dX3_turn_58 : decode cX3_turn 58 = .ok (.iload 8, 2) := by decide +kernel
theorem dX3_turn_60 : decode cX3_turn 60 = .ok (.ireturn, 1) := by decide +kernel
set_option maxRecDepth 20000 in
theorem ggX3_tap_X3_wireAt : GoodIn wsX3_tap wsX3_wireAt := goodIn_ca (goodIn_r _ [7, 8, 9, 10, 11, 12, 6, 13, 38] (by decide +kernel) (by decide +kernel)) (goodIn_sub (fun _ h => List.mem_cons_of_mem _ (List.mem_append_right _ h)) (by decide +kernel))
set_option maxRecDepth 20000 in
theorem gX3_tap_X3_wireAt : GoodIn wsX3_tap (wsV RX3 22 RX3 yX3_wireAt wsX3_wireAt) := goodIn_app (goodIn_of _ (by decide +kernel)) ggX3_tap_X3_wireAt
set_option maxRecDepth 20000 in
theorem ggX3_tap_X3_needPedal : GoodIn wsX3_tap wsX3_needPedal := goodIn_ca (goodIn_r _ [16, 8, 9, 1, 17, 18, 19, 20, 21, 22, 23, 24, 25, 26, 27, 28, 29, 30, 31, 32, 33, 34, 35, 36, 37] (by decide +kernel) (by decide +kernel)) (goodIn_sub (fun _ h => List.mem_cons_of_mem _ (List.mem_append_right _ h)) (by decide +kernel))
set_option maxRecDepth 20000 in
theorem gX3_tap_X3_needPedal : GoodIn wsX3_tap (va_wsS RX3 74 yX3_needPedal wsX3_needPedal) := goodIn_app (goodIn_of _ (by decide +kernel)) ggX3_tap_X3_needPedal
theorem dX3_tap_0 : decode cX3_tap 0 = .ok (.aload_n 0, 1) := by decide +kernel
theorem dX3_tap_1 : decode cX3_tap 1 = .ok (.iload_n 1, 1) := by decide +kernel
theorem dX3_tap_2 : decode cX3_tap 2 = .ok (.invokevirtual 22, 3) := by decide +kernel
theorem dX3_tap_5 : decode cX3_tap 5 = .ok (.astore_n 3, 1) := by decide +kernel
theorem dX3_tap_6 : decode cX3_tap 6 = .ok (.aload_n 3, 1) := by decide +kernel
theorem dX3_tap_7 : decode cX3_tap 7 = .ok (.iload_n 2, 1) := by decide +kernel
theorem dX3_tap_8 : decode cX3_tap 8 = .ok (.invokestatic 74, 3) := by decide +kernel
theorem dX3_tap_11 : decode cX3_tap 11 = .ok (.aload_n 3, 1) := by decide +kernel
theorem dX3_tap_12 : decode cX3_tap 12 = .ok (.getfield 51, 3) := by decide +kernel
theorem dX3_tap_15 : decode cX3_tap 15 = .ok (.getfield 82, 3) := by decide +kernel
theorem dX3_tap_18 : decode cX3_tap 18 = .ok (.iload_n 2, 1) := by decide +kernel
theorem dX3_tap_19 : decode cX3_tap 19 = .ok (.aload_n 3, 1) := by decide +kernel
theorem dX3_tap_20 : decode cX3_tap 20 = .ok (.getfield 51, 3) := by decide +kernel
theorem dX3_tap_23 : decode cX3_tap 23 = .ok (.getfield 82, 3) := by decide +kernel
theorem dX3_tap_26 : decode cX3_tap 26 = .ok (.iload_n 2, 1) := by decide +kernel
theorem dX3_tap_27 : decode cX3_tap 27 = .ok (.baload, 1) := by decide +kernel
theorem dX3_tap_28 : decode cX3_tap 28 = .ok (.ifCond .ne 7, 3) := by decide +kernel
theorem dX3_tap_31 : decode cX3_tap 31 = .ok (.iconst 1, 1) := by decide +kernel
theorem dX3_tap_32 : decode cX3_tap 32 = .ok (.goto 4, 3) := by decide +kernel
theorem dX3_tap_35 : decode cX3_tap 35 = .ok (.iconst 0, 1) := by decide +kernel
theorem dX3_tap_36 : decode cX3_tap 36 = .ok (.bastore, 1) := by decide +kernel
theorem dX3_tap_37 : decode cX3_tap 37 = .ok (.aload_n 3, 1) := by decide +kernel
theorem dX3_tap_38 : decode cX3_tap 38 = .ok (.getfield 51, 3) := by decide +kernel
theorem dX3_tap_41 : decode cX3_tap 41 = .ok (.getfield 82, 3) := by decide +kernel
theorem dX3_tap_44 : decode cX3_tap 44 = .ok (.iload_n 2, 1) := by decide +kernel
theorem dX3_tap_45 : decode cX3_tap 45 = .ok (.baload, 1) := by decide +kernel
theorem dX3_tap_46 : decode cX3_tap 46 = .ok (.ireturn, 1) := by decide +kernel
set_option maxRecDepth 20000 in
theorem ggX3_swap_X3_wireAt : GoodIn wsX3_swap wsX3_wireAt := goodIn_ca (goodIn_r _ [7, 8, 9, 10, 11, 12, 6, 13, 45] (by decide +kernel) (by decide +kernel)) (goodIn_sub (fun _ h => List.mem_cons_of_mem _ (List.mem_append_right _ h)) (by decide +kernel))
set_option maxRecDepth 20000 in
theorem gX3_swap_X3_wireAt : GoodIn wsX3_swap (wsV RX3 22 RX3 yX3_wireAt wsX3_wireAt) := goodIn_app (goodIn_of _ (by decide +kernel)) ggX3_swap_X3_wireAt
set_option maxRecDepth 20000 in
theorem ggX3_swap_X3_needPedal : GoodIn wsX3_swap wsX3_needPedal := goodIn_ca (goodIn_r _ [16, 8, 9, 2, 17, 18, 19, 20, 21, 22, 34, 35, 36, 37, 38, 39, 40, 41, 42, 43, 44, 46, 47, 48, 49] (by decide +kernel) (by decide +kernel)) (goodIn_sub (fun _ h => List.mem_cons_of_mem _ (List.mem_append_right _ h)) (by decide +kernel))
set_option maxRecDepth 20000 in
theorem gX3_swap_X3_needPedal : GoodIn wsX3_swap (va_wsS RX3 74 yX3_needPedal wsX3_needPedal) := goodIn_app (goodIn_of _ (by decide +kernel)) ggX3_swap_X3_needPedal
set_option maxRecDepth 20000 in
theorem ggX3_swap_X0_areUnlike : GoodIn wsX3_swap wsX0_areUnlike := goodIn_r _ [26, 27, 28, 29, 46, 47, 48, 49] (by decide +kernel) (by decide +kernel)
set_option maxRecDepth 20000 in
theorem gX3_swap_X0_areUnlike : GoodIn wsX3_swap (wsV RX3 86 RX0 yX0_areUnlike wsX0_areUnlike) := goodIn_app (goodIn_of _ (by decide +kernel)) ggX3_swap_X0_areUnlike
set_option maxRecDepth 20000 in
theorem ggX3_swap_X0_exchange : GoodIn wsX3_swap wsX0_exchange := goodIn_r _ [33, 27, 28, 29, 46, 47, 48, 49] (by decide +kernel) (by decide +kernel)
set_option maxRecDepth 20000 in
theorem gX3_swap_X0_exchange : GoodIn wsX3_swap (wsV RX3 90 RX0 yX0_exchange wsX0_exchange) := goodIn_app (goodIn_of _ (by decide +kernel)) ggX3_swap_X0_exchange
theorem dX3_swap_0 : decode cX3_swap 0 = .ok (.aload_n 0, 1) := by decide +kernel
theorem dX3_swap_1 : decode cX3_swap 1 = .ok (.iload_n 1, 1) := by decide +kernel
theorem dX3_swap_2 : decode cX3_swap 2 = .ok (.invokevirtual 22, 3) := by decide +kernel
theorem dX3_swap_5 : decode cX3_swap 5 = .ok (.astore 4, 2) := by decide +kernel
theorem dX3_swap_7 : decode cX3_swap 7 = .ok (.aload 4, 2) := by decide +kernel
theorem dX3_swap_9 : decode cX3_swap 9 = .ok (.iload_n 2, 1) := by decide +kernel
theorem dX3_swap_10 : decode cX3_swap 10 = .ok (.invokestatic 74, 3) := by decide +kernel
theorem dX3_swap_13 : decode cX3_swap 13 = .ok (.aload 4, 2) := by decide +kernel
theorem dX3_swap_15 : decode cX3_swap 15 = .ok (.iload_n 3, 1) := by decide +kernel
theorem dX3_swap_16 : decode cX3_swap 16 = .ok (.invokestatic 74, 3) := by decide +kernel
theorem dX3_swap_19 : decode cX3_swap 19 = .ok (.aload 4, 2) := by decide +kernel
theorem dX3_swap_21 : decode cX3_swap 21 = .ok (.iconst 0, 1) := by decide +kernel
theorem dX3_swap_22 : decode cX3_swap 22 = .ok (.putfield 66, 3) := by decide +kernel
theorem dX3_swap_25 : decode cX3_swap 25 = .ok (.aload 4, 2) := by decide +kernel
theorem dX3_swap_27 : decode cX3_swap 27 = .ok (.getfield 51, 3) := by decide +kernel
theorem dX3_swap_30 : decode cX3_swap 30 = .ok (.iload_n 2, 1) := by decide +kernel
theorem dX3_swap_31 : decode cX3_swap 31 = .ok (.iload_n 3, 1) := by decide +kernel
theorem dX3_swap_32 : decode cX3_swap 32 = .ok (.invokevirtual 86, 3) := by decide +kernel
theorem dX3_swap_35 : decode cX3_swap 35 = .ok (.istore 5, 2) := by decide +kernel
theorem dX3_swap_37 : decode cX3_swap 37 = .ok (.aload 4, 2) := by decide +kernel
theorem dX3_swap_39 : decode cX3_swap 39 = .ok (.getfield 51, 3) := by decide +kernel
theorem dX3_swap_42 : decode cX3_swap 42 = .ok (.iload_n 2, 1) := by decide +kernel
theorem dX3_swap_43 : decode cX3_swap 43 = .ok (.iload_n 3, 1) := by decide +kernel
theorem dX3_swap_44 : decode cX3_swap 44 = .ok (.invokevirtual 90, 3) := by decide +kernel
theorem dX3_swap_47 : decode cX3_swap 47 = .ok (.iload 5, 2) := by decide +kernel
theorem dX3_swap_49 : decode cX3_swap 49 = .ok (.ireturn, 1) := by decide +kernel
set_option maxRecDepth 20000 in
theorem ggX3_play_X3_wireAt : GoodIn wsX3_play wsX3_wireAt := goodIn_ca (goodIn_r _ [7, 1, 2, 8, 9, 10, 6, 11, 95] (by decide +kernel) (by decide +kernel)) (goodIn_sub (fun _ h => List.mem_cons_of_mem _ (List.mem_append_right _ h)) (by decide +kernel))
set_option maxRecDepth 20000 in
theorem gX3_play_X3_wireAt : GoodIn wsX3_play (wsV RX3 22 RX3 yX3_wireAt wsX3_wireAt) := goodIn_app (goodIn_of _ (by decide +kernel)) ggX3_play_X3_wireAt
set_option maxRecDepth 20000 in
theorem ggX3_play_X2_runRound : GoodIn wsX3_play wsX2_runRound := goodIn_r _ [16, 17, 18, 19, 20, 21, 22, 23, 24, 25, 26, 27, 28, 29, 30, 31, 32, 33, 34, 35, 36, 37, 38, 39, 40, 41, 42, 43, 44, 45, 46, 47, 48, 49, 50, 51, 52, 53, 54, 55, 56, 57, 58, 59, 60, 61, 62, 63, 64, 65, 66, 67, 68, 69, 70, 71, 72, 73, 74, 75, 76, 77, 78, 79, 80, 81, 82, 83, 84, 85, 86, 15, 87, 88, 89, 90, 91, 92, 93, 94, 96, 97, 98, 99, 100, 101, 102, 103, 104, 105, 106, 107, 108, 109, 110] (by decide +kernel) (by decide +kernel)
set_option maxRecDepth 20000 in
theorem gX3_play_X2_runRound : GoodIn wsX3_play (wsV RX3 96 RX2 yX2_runRound wsX2_runRound) := goodIn_app (goodIn_of _ (by decide +kernel)) ggX3_play_X2_runRound
theorem dX3_play_0 : decode cX3_play 0 = .ok (.aload_n 0, 1) := by decide +kernel
theorem dX3_play_1 : decode cX3_play 1 = .ok (.iload_n 1, 1) := by decide +kernel
theorem dX3_play_2 : decode cX3_play 2 = .ok (.invokevirtual 22, 3) := by decide +kernel
theorem dX3_play_5 : decode cX3_play 5 = .ok (.astore_n 3, 1) := by decide +kernel
theorem dX3_play_6 : decode cX3_play 6 = .ok (.iload_n 2, 1) := by decide +kernel
theorem dX3_play_7 : decode cX3_play 7 = .ok (.iconst 1, 1) := by decide +kernel
theorem dX3_play_8 : decode cX3_play 8 = .ok (.if_icmp .lt 9, 3) := by decide +kernel
theorem dX3_play_11 : decode cX3_play 11 = .ok (.iload_n 2, 1) := by decide +kernel
theorem dX3_play_12 : decode cX3_play 12 = .ok (.bipush 50, 2) := by decide +kernel
theorem dX3_play_14 : decode cX3_play 14 = .ok (.if_icmp .le 13, 3) := by decide +kernel
theorem dX3_play_17 : decode cX3_play 17 = .ok (.new 44, 3) := by decide +kernel
theorem dX3_play_20 : decode cX3_play 20 = .ok (.dup, 1) := by decide +kernel
theorem dX3_play_21 : decode cX3_play 21 = .ok (.ldc 94, 2) := by decide +kernel
theorem dX3_play_23 : decode cX3_play 23 = .ok (.invokespecial 48, 3) := by decide +kernel
theorem dX3_play_26 : decode cX3_play 26 = .ok (.athrow, 1) := by decide +kernel
theorem dX3_play_27 : decode cX3_play 27 = .ok (.iconst 0, 1) := by decide +kernel
theorem dX3_play_28 : decode cX3_play 28 = .ok (.istore 4, 2) := by decide +kernel
theorem dX3_play_30 : decode cX3_play 30 = .ok (.iconst 0, 1) := by decide +kernel
theorem dX3_play_31 : decode cX3_play 31 = .ok (.istore 5, 2) := by decide +kernel
theorem dX3_play_33 : decode cX3_play 33 = .ok (.iload 5, 2) := by decide +kernel
theorem dX3_play_35 : decode cX3_play 35 = .ok (.iload_n 2, 1) := by decide +kernel
theorem dX3_play_36 : decode cX3_play 36 = .ok (.if_icmp .ge 18, 3) := by decide +kernel
theorem dX3_play_39 : decode cX3_play 39 = .ok (.iload 4, 2) := by decide +kernel
theorem dX3_play_41 : decode cX3_play 41 = .ok (.aload_n 3, 1) := by decide +kernel
theorem dX3_play_42 : decode cX3_play 42 = .ok (.invokevirtual 96, 3) := by decide +kernel
theorem dX3_play_45 : decode cX3_play 45 = .ok (.iadd, 1) := by decide +kernel
theorem dX3_play_46 : decode cX3_play 46 = .ok (.istore 4, 2) := by decide +kernel
theorem dX3_play_48 : decode cX3_play 48 = .ok (.iinc 5 1, 3) := by decide +kernel
theorem dX3_play_51 : decode cX3_play 51 = .ok (.goto (-18), 3) := by decide +kernel
theorem dX3_play_54 : decode cX3_play 54 = .ok (.iload 4, 2) := by decide +kernel
theorem dX3_play_56 : decode cX3_play 56 = .ok (.ireturn, 1) := by decide +kernel
set_option maxRecDepth 20000 in
theorem ggX3_code_X3_wireAt : GoodIn wsX3_code wsX3_wireAt := goodIn_ca (goodIn_r _ [13, 1, 2, 14, 15, 16, 12, 17, 35] (by decide +kernel) (by decide +kernel)) (goodIn_sub (fun _ h => List.mem_cons_of_mem _ (List.mem_append_left _ (List.mem_append_right _ h))) (by decide +kernel))
set_option maxRecDepth 20000 in
theorem gX3_code_X3_wireAt : GoodIn wsX3_code (wsV RX3 22 RX3 yX3_wireAt wsX3_wireAt) := goodIn_app (goodIn_of _ (by decide +kernel)) ggX3_code_X3_wireAt
set_option maxRecDepth 20000 in
theorem ggX3_code_X2_hasPeaks : GoodIn wsX3_code wsX2_hasPeaks := goodIn_r _ [22, 23, 24, 25, 26, 27, 28, 29, 30, 31, 32, 33, 34] (by decide +kernel) (by decide +kernel)
set_option maxRecDepth 20000 in
theorem gX3_code_X2_hasPeaks : GoodIn wsX3_code (wsV RX3 109 RX2 yX2_hasPeaks wsX2_hasPeaks) := goodIn_app (goodIn_of _ (by decide +kernel)) ggX3_code_X2_hasPeaks
theorem dX3_code_0 : decode cX3_code 0 = .ok (.aload_n 0, 1) := by decide +kernel
theorem dX3_code_1 : decode cX3_code 1 = .ok (.iload_n 1, 1) := by decide +kernel
theorem dX3_code_2 : decode cX3_code 2 = .ok (.invokevirtual 22, 3) := by decide +kernel
theorem dX3_code_5 : decode cX3_code 5 = .ok (.astore_n 3, 1) := by decide +kernel
theorem dX3_code_6 : decode cX3_code 6 = .ok (.iload_n 2, 1) := by decide +kernel
theorem dX3_code_7 : decode cX3_code 7 = .ok (.ifCond .lt 8, 3) := by decide +kernel
theorem dX3_code_10 : decode cX3_code 10 = .ok (.iload_n 2, 1) := by decide +kernel
theorem dX3_code_11 : decode cX3_code 11 = .ok (.iconst 3, 1) := by decide +kernel
theorem dX3_code_12 : decode cX3_code 12 = .ok (.if_icmp .le 13, 3) := by decide +kernel
theorem dX3_code_15 : decode cX3_code 15 = .ok (.new 44, 3) := by decide +kernel
theorem dX3_code_18 : decode cX3_code 18 = .ok (.dup, 1) := by decide +kernel
theorem dX3_code_19 : decode cX3_code 19 = .ok (.ldc 100, 2) := by decide +kernel
theorem dX3_code_21 : decode cX3_code 21 = .ok (.invokespecial 48, 3) := by decide +kernel
theorem dX3_code_24 : decode cX3_code 24 = .ok (.athrow, 1) := by decide +kernel
theorem dX3_code_25 : decode cX3_code 25 = .ok (.iload_n 2, 1) := by decide +kernel
theorem dX3_code_26 : decode cX3_code 26 = .ok (.ifCond .ne 8, 3) := by decide +kernel
theorem dX3_code_29 : decode cX3_code 29 = .ok (.aload_n 3, 1) := by decide +kernel
theorem dX3_code_30 : decode cX3_code 30 = .ok (.getfield 102, 3) := by decide +kernel
theorem dX3_code_33 : decode cX3_code 33 = .ok (.lreturn, 1) := by decide +kernel
theorem dX3_code_34 : decode cX3_code 34 = .ok (.iload_n 2, 1) := by decide +kernel
theorem dX3_code_35 : decode cX3_code 35 = .ok (.iconst 1, 1) := by decide +kernel
theorem dX3_code_36 : decode cX3_code 36 = .ok (.if_icmp .ne 8, 3) := by decide +kernel
theorem dX3_code_39 : decode cX3_code 39 = .ok (.aload_n 3, 1) := by decide +kernel
theorem dX3_code_40 : decode cX3_code 40 = .ok (.getfield 106, 3) := by decide +kernel
theorem dX3_code_43 : decode cX3_code 43 = .ok (.lreturn, 1) := by decide +kernel
theorem dX3_code_44 : decode cX3_code 44 = .ok (.aload_n 3, 1) := by decide +kernel
theorem dX3_code_45 : decode cX3_code 45 = .ok (.invokevirtual 109, 3) := by decide +kernel
theorem dX3_code_48 : decode cX3_code 48 = .ok (.ifCond .ne 13, 3) := by decide +kernel
theorem dX3_code_51 : decode cX3_code 51 = .ok (.new 61, 3) := by decide +kernel
theorem dX3_code_54 : decode cX3_code 54 = .ok (.dup, 1) := by decide +kernel
theorem dX3_code_55 : decode cX3_code 55 = .ok (.ldc 112, 2) := by decide +kernel
theorem dX3_code_57 : decode cX3_code 57 = .ok (.invokespecial 65, 3) := by decide +kernel
theorem dX3_code_60 : decode cX3_code 60 = .ok (.athrow, 1) := by decide +kernel
theorem dX3_code_61 : decode cX3_code 61 = .ok (.iload_n 2, 1) := by decide +kernel
theorem dX3_code_62 : decode cX3_code 62 = .ok (.iconst 2, 1) := by decide +kernel
theorem dX3_code_63 : decode cX3_code 63 = .ok (.if_icmp .ne 10, 3) := by decide +kernel
theorem dX3_code_66 : decode cX3_code 66 = .ok (.aload_n 3, 1) := by decide +kernel
theorem dX3_code_67 : decode cX3_code 67 = .ok (.getfield 114, 3) := by decide +kernel
theorem dX3_code_70 : decode cX3_code 70 = .ok (.goto 7, 3) := by decide +kernel
theorem dX3_code_73 : decode cX3_code 73 = .ok (.aload_n 3, 1) := by decide +kernel
theorem dX3_code_74 : decode cX3_code 74 = .ok (.getfield 117, 3) := by decide +kernel
theorem dX3_code_77 : decode cX3_code 77 = .ok (.lreturn, 1) := by decide +kernel
set_option maxRecDepth 20000 in
theorem ggX3_trace_X3_wireAt : GoodIn wsX3_trace wsX3_wireAt := goodIn_ca (goodIn_r _ [9, 10, 11, 12, 13, 14, 8, 15, 37] (by decide +kernel) (by decide +kernel)) (goodIn_sub (fun _ h => List.mem_cons_of_mem _ (List.mem_append_right _ h)) (by decide +kernel))
set_option maxRecDepth 20000 in
theorem gX3_trace_X3_wireAt : GoodIn wsX3_trace (wsV RX3 22 RX3 yX3_wireAt wsX3_wireAt) := goodIn_app (goodIn_of _ (by decide +kernel)) ggX3_trace_X3_wireAt
set_option maxRecDepth 20000 in
theorem ggX3_trace_X3_needPedal : GoodIn wsX3_trace wsX3_needPedal := goodIn_ca (goodIn_r _ [18, 10, 11, 19, 20, 21, 22, 23, 24, 25, 26, 27, 28, 29, 30, 31, 32, 33, 34, 35, 36, 38, 39, 40, 41] (by decide +kernel) (by decide +kernel)) (goodIn_sub (fun _ h => List.mem_cons_of_mem _ (List.mem_append_right _ h)) (by decide +kernel))
set_option maxRecDepth 20000 in
theorem gX3_trace_X3_needPedal : GoodIn wsX3_trace (va_wsS RX3 74 yX3_needPedal wsX3_needPedal) := goodIn_app (goodIn_of _ (by decide +kernel)) ggX3_trace_X3_needPedal
theorem dX3_trace_0 : decode cX3_trace 0 = .ok (.aload_n 0, 1) := by decide +kernel
theorem dX3_trace_1 : decode cX3_trace 1 = .ok (.iload_n 1, 1) := by decide +kernel
theorem dX3_trace_2 : decode cX3_trace 2 = .ok (.invokevirtual 22, 3) := by decide +kernel
theorem dX3_trace_5 : decode cX3_trace 5 = .ok (.astore_n 3, 1) := by decide +kernel
theorem dX3_trace_6 : decode cX3_trace 6 = .ok (.aload_n 3, 1) := by decide +kernel
theorem dX3_trace_7 : decode cX3_trace 7 = .ok (.iload_n 2, 1) := by decide +kernel
theorem dX3_trace_8 : decode cX3_trace 8 = .ok (.invokestatic 74, 3) := by decide +kernel
theorem dX3_trace_11 : decode cX3_trace 11 = .ok (.aload_n 3, 1) := by decide +kernel
theorem dX3_trace_12 : decode cX3_trace 12 = .ok (.getfield 66, 3) := by decide +kernel
theorem dX3_trace_15 : decode cX3_trace 15 = .ok (.ifCond .ne 13, 3) := by decide +kernel
theorem dX3_trace_18 : decode cX3_trace 18 = .ok (.new 61, 3) := by decide +kernel
theorem dX3_trace_21 : decode cX3_trace 21 = .ok (.dup, 1) := by decide +kernel
theorem dX3_trace_22 : decode cX3_trace 22 = .ok (.ldc 120, 2) := by decide +kernel
theorem dX3_trace_24 : decode cX3_trace 24 = .ok (.invokespecial 65, 3) := by decide +kernel
theorem dX3_trace_27 : decode cX3_trace 27 = .ok (.athrow, 1) := by decide +kernel
theorem dX3_trace_28 : decode cX3_trace 28 = .ok (.aload_n 3, 1) := by decide +kernel
theorem dX3_trace_29 : decode cX3_trace 29 = .ok (.getfield 122, 3) := by decide +kernel
theorem dX3_trace_32 : decode cX3_trace 32 = .ok (.iload_n 2, 1) := by decide +kernel
theorem dX3_trace_33 : decode cX3_trace 33 = .ok (.laload, 1) := by decide +kernel
theorem dX3_trace_34 : decode cX3_trace 34 = .ok (.lreturn, 1) := by decide +kernel
set_option maxRecDepth 20000 in
theorem ggX3_light_X3_isWire : GoodIn wsX3_light wsX3_isWire := goodIn_r _ [5] (by decide +kernel) (by decide +kernel)
set_option maxRecDepth 20000 in
theorem gX3_light_X3_isWire : GoodIn wsX3_light (va_wsS RX3 125 yX3_isWire wsX3_isWire) := goodIn_app (goodIn_of _ (by decide +kernel)) ggX3_light_X3_isWire
set_option maxRecDepth 20000 in
theorem ggX3_light_X2_isLit : GoodIn wsX3_light wsX2_isLit := goodIn_r _ [10, 11, 12, 13, 14, 15, 16, 17, 18, 19, 21, 22, 23, 24, 25, 26, 27, 28, 29, 30, 31, 32, 33, 34, 35] (by decide +kernel) (by decide +kernel)
set_option maxRecDepth 20000 in
theorem gX3_light_X2_isLit : GoodIn wsX3_light (wsV RX3 128 RX2 yX2_isLit wsX2_isLit) := goodIn_app (goodIn_of _ (by decide +kernel)) ggX3_light_X2_isLit
theorem dX3_light_0 : decode cX3_light 0 = .ok (.iload_n 1, 1) := by decide +kernel
theorem dX3_light_1 : decode cX3_light 1 = .ok (.invokestatic 125, 3) := by decide +kernel
theorem dX3_light_4 : decode cX3_light 4 = .ok (.ifCond .eq 20, 3) := by decide +kernel
theorem dX3_light_7 : decode cX3_light 7 = .ok (.aload_n 0, 1) := by decide +kernel
theorem dX3_light_8 : decode cX3_light 8 = .ok (.getfield 11, 3) := by decide +kernel
theorem dX3_light_11 : decode cX3_light 11 = .ok (.iload_n 1, 1) := by decide +kernel
theorem dX3_light_12 : decode cX3_light 12 = .ok (.aaload, 1) := by decide +kernel
theorem dX3_light_13 : decode cX3_light 13 = .ok (.iload_n 2, 1) := by decide +kernel
theorem dX3_light_14 : decode cX3_light 14 = .ok (.invokevirtual 128, 3) := by decide +kernel
theorem dX3_light_17 : decode cX3_light 17 = .ok (.ifCond .eq 7, 3) := by decide +kernel
theorem dX3_light_20 : decode cX3_light 20 = .ok (.iconst 1, 1) := by decide +kernel
theorem dX3_light_21 : decode cX3_light 21 = .ok (.goto 4, 3) := by decide +kernel
theorem dX3_light_24 : decode cX3_light 24 = .ok (.iconst 0, 1) := by decide +kernel
theorem dX3_light_25 : decode cX3_light 25 = .ok (.ireturn, 1) := by decide +kernel
set_option maxRecDepth 20000 in
theorem ggX3_against_X3_wireAt : GoodIn wsX3_against wsX3_wireAt := goodIn_ca (goodIn_r _ [8, 9, 10, 11, 12, 13, 7, 14, 45] (by decide +kernel) (by decide +kernel)) (goodIn_sub (fun _ h => List.mem_cons_of_mem _ (List.mem_append_right _ h)) (by decide +kernel))
set_option maxRecDepth 20000 in
theorem gX3_against_X3_wireAt : GoodIn wsX3_against (wsV RX3 22 RX3 yX3_wireAt wsX3_wireAt) := goodIn_app (goodIn_of _ (by decide +kernel)) ggX3_against_X3_wireAt
set_option maxRecDepth 20000 in
theorem ggX3_against_X1_isZero : GoodIn wsX3_against wsX1_isZero := goodIn_r _ [19, 20, 21, 22, 23, 18, 24, 25] (by decide +kernel) (by decide +kernel)
set_option maxRecDepth 20000 in
theorem gX3_against_X1_isZero : GoodIn wsX3_against (wsV RX3 131 RX1 yX1_isZero wsX1_isZero) := goodIn_app (goodIn_of _ (by decide +kernel)) ggX3_against_X1_isZero
set_option maxRecDepth 20000 in
theorem ggX3_against_X1_isLess : GoodIn wsX3_against wsX1_isLess := goodIn_r _ [29, 30, 31, 32, 18, 33, 20, 21, 22, 23, 24, 25] (by decide +kernel) (by decide +kernel)
set_option maxRecDepth 20000 in
theorem gX3_against_X1_isLess : GoodIn wsX3_against (wsV RX3 134 RX1 yX1_isLess wsX1_isLess) := goodIn_app (goodIn_of _ (by decide +kernel)) ggX3_against_X1_isLess
theorem dX3_against_0 : decode cX3_against 0 = .ok (.aload_n 0, 1) := by decide +kernel
theorem dX3_against_1 : decode cX3_against 1 = .ok (.iload_n 1, 1) := by decide +kernel
theorem dX3_against_2 : decode cX3_against 2 = .ok (.invokevirtual 22, 3) := by decide +kernel
theorem dX3_against_5 : decode cX3_against 5 = .ok (.astore_n 2, 1) := by decide +kernel
theorem dX3_against_6 : decode cX3_against 6 = .ok (.aload_n 2, 1) := by decide +kernel
theorem dX3_against_7 : decode cX3_against 7 = .ok (.getfield 106, 3) := by decide +kernel
theorem dX3_against_10 : decode cX3_against 10 = .ok (.aload_n 2, 1) := by decide +kernel
theorem dX3_against_11 : decode cX3_against 11 = .ok (.getfield 102, 3) := by decide +kernel
theorem dX3_against_14 : decode cX3_against 14 = .ok (.lcmp, 1) := by decide +kernel
theorem dX3_against_15 : decode cX3_against 15 = .ok (.ifCond .ne 5, 3) := by decide +kernel
theorem dX3_against_18 : decode cX3_against 18 = .ok (.iconst 0, 1) := by decide +kernel
theorem dX3_against_19 : decode cX3_against 19 = .ok (.ireturn, 1) := by decide +kernel
theorem dX3_against_20 : decode cX3_against 20 = .ok (.aload_n 2, 1) := by decide +kernel
theorem dX3_against_21 : decode cX3_against 21 = .ok (.getfield 34, 3) := by decide +kernel
theorem dX3_against_24 : decode cX3_against 24 = .ok (.aload_n 2, 1) := by decide +kernel
theorem dX3_against_25 : decode cX3_against 25 = .ok (.getfield 106, 3) := by decide +kernel
theorem dX3_against_28 : decode cX3_against 28 = .ok (.invokevirtual 131, 3) := by decide +kernel
theorem dX3_against_31 : decode cX3_against 31 = .ok (.ifCond .eq 19, 3) := by decide +kernel
theorem dX3_against_34 : decode cX3_against 34 = .ok (.aload_n 2, 1) := by decide +kernel
theorem dX3_against_35 : decode cX3_against 35 = .ok (.getfield 34, 3) := by decide +kernel
theorem dX3_against_38 : decode cX3_against 38 = .ok (.aload_n 2, 1) := by decide +kernel
theorem dX3_against_39 : decode cX3_against 39 = .ok (.getfield 102, 3) := by decide +kernel
theorem dX3_against_42 : decode cX3_against 42 = .ok (.invokevirtual 131, 3) := by decide +kernel
theorem dX3_against_45 : decode cX3_against 45 = .ok (.ifCond .eq 5, 3) := by decide +kernel
theorem dX3_against_48 : decode cX3_against 48 = .ok (.iconst 2, 1) := by decide +kernel
theorem dX3_against_49 : decode cX3_against 49 = .ok (.ireturn, 1) := by decide +kernel
theorem dX3_against_50 : decode cX3_against 50 = .ok (.aload_n 2, 1) := by decide +kernel
theorem dX3_against_51 : decode cX3_against 51 = .ok (.getfield 34, 3) := by decide +kernel
theorem dX3_against_54 : decode cX3_against 54 = .ok (.aload_n 2, 1) := by decide +kernel
theorem dX3_against_55 : decode cX3_against 55 = .ok (.getfield 106, 3) := by decide +kernel
theorem dX3_against_58 : decode cX3_against 58 = .ok (.aload_n 2, 1) := by decide +kernel
theorem dX3_against_59 : decode cX3_against 59 = .ok (.getfield 102, 3) := by decide +kernel
theorem dX3_against_62 : decode cX3_against 62 = .ok (.invokevirtual 134, 3) := by decide +kernel
theorem dX3_against_65 : decode cX3_against 65 = .ok (.ifCond .eq 7, 3) := by decide +kernel
theorem dX3_against_68 : decode cX3_against 68 = .ok (.iconst (-1), 1) := by decide +kernel
theorem dX3_against_69 : decode cX3_against 69 = .ok (.goto 4, 3) := by decide +kernel
theorem dX3_against_72 : decode cX3_against 72 = .ok (.iconst 1, 1) := by decide +kernel
theorem dX3_against_73 : decode cX3_against 73 = .ok (.ireturn, 1) := by decide +kernel
set_option maxRecDepth 20000 in
theorem ggX3_save_X3_wireAt : GoodIn wsX3_save wsX3_wireAt := goodIn_ca (goodIn_r _ [7, 8, 9, 10, 11, 12, 6, 13, 42] (by decide +kernel) (by decide +kernel)) (goodIn_sub (fun _ h => List.mem_cons_of_mem _ (List.mem_append_right _ h)) (by decide +kernel))
set_option maxRecDepth 20000 in
theorem gX3_save_X3_wireAt : GoodIn wsX3_save (wsV RX3 22 RX3 yX3_wireAt wsX3_wireAt) := goodIn_app (goodIn_of _ (by decide +kernel)) ggX3_save_X3_wireAt
set_option maxRecDepth 20000 in
theorem ggX3_save_X3_presetOf : GoodIn wsX3_save wsX3_presetOf := goodIn_ca (goodIn_r _ [16, 8, 9, 17, 27, 28, 29, 30, 31, 32, 33, 34, 35, 36, 37] (by decide +kernel) (by decide +kernel)) (goodIn_sub (fun _ h => List.mem_cons_of_mem _ (List.mem_append_right _ h)) (by decide +kernel))
set_option maxRecDepth 20000 in
theorem gX3_save_X3_presetOf : GoodIn wsX3_save (va_wsS RX3 138 yX3_presetOf wsX3_presetOf) := goodIn_app (goodIn_of _ (by decide +kernel)) ggX3_save_X3_presetOf
set_option maxRecDepth 20000 in
theorem ggX3_save_X0_become : GoodIn wsX3_save wsX0_become := goodIn_r _ [22, 23, 24, 25, 26, 38, 39, 40, 41] (by decide +kernel) (by decide +kernel)
set_option maxRecDepth 20000 in
theorem gX3_save_X0_become : GoodIn wsX3_save (wsV RX3 142 RX0 yX0_become wsX0_become) := goodIn_app (goodIn_of _ (by decide +kernel)) ggX3_save_X0_become
theorem dX3_save_0 : decode cX3_save 0 = .ok (.aload_n 0, 1) := by decide +kernel
theorem dX3_save_1 : decode cX3_save 1 = .ok (.iload_n 1, 1) := by decide +kernel
theorem dX3_save_2 : decode cX3_save 2 = .ok (.invokevirtual 22, 3) := by decide +kernel
theorem dX3_save_5 : decode cX3_save 5 = .ok (.astore_n 3, 1) := by decide +kernel
theorem dX3_save_6 : decode cX3_save 6 = .ok (.aload_n 3, 1) := by decide +kernel
theorem dX3_save_7 : decode cX3_save 7 = .ok (.iload_n 2, 1) := by decide +kernel
theorem dX3_save_8 : decode cX3_save 8 = .ok (.invokestatic 138, 3) := by decide +kernel
theorem dX3_save_11 : decode cX3_save 11 = .ok (.astore 4, 2) := by decide +kernel
theorem dX3_save_13 : decode cX3_save 13 = .ok (.aload 4, 2) := by decide +kernel
theorem dX3_save_15 : decode cX3_save 15 = .ok (.aload_n 3, 1) := by decide +kernel
theorem dX3_save_16 : decode cX3_save 16 = .ok (.getfield 51, 3) := by decide +kernel
theorem dX3_save_19 : decode cX3_save 19 = .ok (.invokevirtual 142, 3) := by decide +kernel
theorem dX3_save_22 : decode cX3_save 22 = .ok (.aload 4, 2) := by decide +kernel
theorem dX3_save_24 : decode cX3_save 24 = .ok (.getfield 146, 3) := by decide +kernel
theorem dX3_save_27 : decode cX3_save 27 = .ok (.ireturn, 1) := by decide +kernel
set_option maxRecDepth 20000 in
theorem ggX3_recall_X3_wireAt : GoodIn wsX3_recall wsX3_wireAt := goodIn_ca (goodIn_r _ [8, 9, 10, 11, 12, 13, 7, 14, 43] (by decide +kernel) (by decide +kernel)) (goodIn_sub (fun _ h => List.mem_cons_of_mem _ (List.mem_append_right _ h)) (by decide +kernel))
set_option maxRecDepth 20000 in
theorem gX3_recall_X3_wireAt : GoodIn wsX3_recall (wsV RX3 22 RX3 yX3_wireAt wsX3_wireAt) := goodIn_app (goodIn_of _ (by decide +kernel)) ggX3_recall_X3_wireAt
set_option maxRecDepth 20000 in
theorem ggX3_recall_X3_presetOf : GoodIn wsX3_recall wsX3_presetOf := goodIn_ca (goodIn_r _ [17, 9, 10, 18, 28, 29, 30, 31, 32, 33, 34, 35, 36, 37, 38] (by decide +kernel) (by decide +kernel)) (goodIn_sub (fun _ h => List.mem_cons_of_mem _ (List.mem_append_right _ h)) (by decide +kernel))
set_option maxRecDepth 20000 in
theorem gX3_recall_X3_presetOf : GoodIn wsX3_recall (va_wsS RX3 138 yX3_presetOf wsX3_presetOf) := goodIn_app (goodIn_of _ (by decide +kernel)) ggX3_recall_X3_presetOf
set_option maxRecDepth 20000 in
theorem ggX3_recall_X0_become : GoodIn wsX3_recall wsX0_become := goodIn_r _ [23, 24, 25, 26, 27, 39, 40, 41, 42] (by decide +kernel) (by decide +kernel)
set_option maxRecDepth 20000 in
theorem gX3_recall_X0_become : GoodIn wsX3_recall (wsV RX3 142 RX0 yX0_become wsX0_become) := goodIn_app (goodIn_of _ (by decide +kernel)) ggX3_recall_X0_become
theorem dX3_recall_0 : decode cX3_recall 0 = .ok (.aload_n 0, 1) := by decide +kernel
theorem dX3_recall_1 : decode cX3_recall 1 = .ok (.iload_n 1, 1) := by decide +kernel
theorem dX3_recall_2 : decode cX3_recall 2 = .ok (.invokevirtual 22, 3) := by decide +kernel
