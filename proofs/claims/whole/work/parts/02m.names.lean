theorem dL_put_24 : decode cL_put 24 = .ok (.iconst 1, 1) := by decide +kernel
theorem dL_put_25 : decode cL_put 25 = .ok (.ireturn, 1) := by decide +kernel
theorem dL_put_26 : decode cL_put 26 = .ok (.iconst 0, 1) := by decide +kernel
theorem dL_put_27 : decode cL_put 27 = .ok (.ireturn, 1) := by decide +kernel
set_option maxRecDepth 20000 in
theorem ggL_pedal_X3_pedal : GoodIn wsL_pedal wsX3_pedal := goodIn_ca (goodIn_ca (goodIn_r _ [7, 8, 9, 10, 11, 12, 13, 14, 15, 16, 17, 6, 18, 19, 20, 21, 22, 23, 24, 25, 26, 27, 28, 29, 30, 31, 32, 33, 34, 35, 36, 37, 38, 39, 40, 41, 42, 43, 44, 45, 46, 47, 48, 49, 50, 51, 52, 53, 54, 55, 56, 57, 58, 59, 60, 61, 62, 63, 64, 65, 66, 67, 68, 69, 70, 71, 72, 73, 74, 75, 76, 77, 78, 79, 80, 81, 82] (by decide +kernel) (by decide +kernel)) (goodIn_sub (fun _ h => List.mem_cons_of_mem _ (List.mem_append_left _ (List.mem_append_right _ h))) (by decide +kernel))) (goodIn_sub (fun _ h => List.mem_cons_of_mem _ (List.mem_append_right _ h)) (by decide +kernel))
set_option maxRecDepth 20000 in
theorem gL_pedal_X3_pedal : GoodIn wsL_pedal (wsV RL 15 RX3 yX3_pedal wsX3_pedal) := goodIn_app (goodIn_of _ (by decide +kernel)) ggL_pedal_X3_pedal
theorem dL_pedal_0 : decode cL_pedal 0 = .ok (.aload 5, 2) := by decide +kernel
theorem dL_pedal_2 : decode cL_pedal 2 = .ok (.iconst 0, 1) := by decide +kernel
theorem dL_pedal_3 : decode cL_pedal 3 = .ok (.aload_n 0, 1) := by decide +kernel
theorem dL_pedal_4 : decode cL_pedal 4 = .ok (.iload_n 1, 1) := by decide +kernel
theorem dL_pedal_5 : decode cL_pedal 5 = .ok (.iload_n 2, 1) := by decide +kernel
theorem dL_pedal_6 : decode cL_pedal 6 = .ok (.iload_n 3, 1) := by decide +kernel
theorem dL_pedal_7 : decode cL_pedal 7 = .ok (.iload 4, 2) := by decide +kernel
theorem dL_pedal_9 : decode cL_pedal 9 = .ok (.invokevirtual 15, 3) := by decide +kernel
theorem dL_pedal_12 : decode cL_pedal 12 = .ok (.i2l, 1) := by decide +kernel
theorem dL_pedal_13 : decode cL_pedal 13 = .ok (.lastore, 1) := by decide +kernel
theorem dL_pedal_14 : decode cL_pedal 14 = .ok (.goto 11, 3) := by decide +kernel
theorem dL_pedal_17 : decode cL_pedal 17 = .ok (.astore 6, 2) := by decide +kernel
theorem dL_pedal_19 : decode cL_pedal 19 = .ok (.iconst 1, 1) := by decide +kernel
theorem dL_pedal_20 : decode cL_pedal 20 = .ok (.ireturn, 1) := by decide +kernel
theorem dL_pedal_21 : decode cL_pedal 21 = .ok (.astore 6, 2) := by decide +kernel
theorem dL_pedal_23 : decode cL_pedal 23 = .ok (.iconst 2, 1) := by decide +kernel
theorem dL_pedal_24 : decode cL_pedal 24 = .ok (.ireturn, 1) := by decide +kernel
theorem dL_pedal_25 : decode cL_pedal 25 = .ok (.iconst 0, 1) := by decide +kernel
theorem dL_pedal_26 : decode cL_pedal 26 = .ok (.ireturn, 1) := by decide +kernel
set_option maxRecDepth 20000 in
theorem ggL_turn_X3_turn : GoodIn wsL_turn wsX3_turn := goodIn_ca (goodIn_r _ [6, 7, 8, 9, 10, 11, 5, 12, 13, 14, 15, 16, 17, 18, 19, 20, 21, 22, 23, 24, 25, 26, 27, 28, 29, 30, 31, 32, 33, 34, 35, 36, 37, 38, 39, 40, 41, 42, 43, 44, 45, 46, 47, 48, 49, 50, 51, 52, 53, 54, 55, 56, 57, 58, 59, 60, 61, 62, 63, 64, 65, 66, 67, 68, 69, 70] (by decide +kernel) (by decide +kernel)) (goodIn_sub (fun _ h => List.mem_cons_of_mem _ (List.mem_append_right _ h)) (by decide +kernel))
set_option maxRecDepth 20000 in
theorem gL_turn_X3_turn : GoodIn wsL_turn (wsV RL 21 RX3 yX3_turn wsX3_turn) := goodIn_app (goodIn_of _ (by decide +kernel)) ggL_turn_X3_turn
theorem dL_turn_0 : decode cL_turn 0 = .ok (.aload 5, 2) := by decide +kernel
theorem dL_turn_2 : decode cL_turn 2 = .ok (.iconst 0, 1) := by decide +kernel
theorem dL_turn_3 : decode cL_turn 3 = .ok (.aload_n 0, 1) := by decide +kernel
theorem dL_turn_4 : decode cL_turn 4 = .ok (.iload_n 1, 1) := by decide +kernel
theorem dL_turn_5 : decode cL_turn 5 = .ok (.iload_n 2, 1) := by decide +kernel
theorem dL_turn_6 : decode cL_turn 6 = .ok (.iload_n 3, 1) := by decide +kernel
theorem dL_turn_7 : decode cL_turn 7 = .ok (.iload 4, 2) := by decide +kernel
theorem dL_turn_9 : decode cL_turn 9 = .ok (.invokevirtual 21, 3) := by decide +kernel
theorem dL_turn_12 : decode cL_turn 12 = .ok (.ifCond .eq 7, 3) := by decide +kernel
theorem dL_turn_15 : decode cL_turn 15 = .ok (.lconst 1, 1) := by decide +kernel
theorem dL_turn_16 : decode cL_turn 16 = .ok (.goto 4, 3) := by decide +kernel
theorem dL_turn_19 : decode cL_turn 19 = .ok (.lconst 0, 1) := by decide +kernel
theorem dL_turn_20 : decode cL_turn 20 = .ok (.lastore, 1) := by decide +kernel
theorem dL_turn_21 : decode cL_turn 21 = .ok (.goto 7, 3) := by decide +kernel
theorem dL_turn_24 : decode cL_turn 24 = .ok (.astore 6, 2) := by decide +kernel
theorem dL_turn_26 : decode cL_turn 26 = .ok (.iconst 1, 1) := by decide +kernel
theorem dL_turn_27 : decode cL_turn 27 = .ok (.ireturn, 1) := by decide +kernel
theorem dL_turn_28 : decode cL_turn 28 = .ok (.iconst 0, 1) := by decide +kernel
theorem dL_turn_29 : decode cL_turn 29 = .ok (.ireturn, 1) := by decide +kernel
set_option maxRecDepth 20000 in
theorem ggL_tap_X3_tap : GoodIn wsL_tap wsX3_tap := goodIn_ca (goodIn_r _ [6, 7, 8, 9, 10, 11, 5, 12, 13, 14, 15, 16, 17, 18, 19, 20, 21, 22, 23, 24, 25, 26, 27, 28, 29, 30, 31, 32, 33, 34, 35, 36, 37, 38, 39, 40, 41, 42, 43] (by decide +kernel) (by decide +kernel)) (goodIn_sub (fun _ h => List.mem_cons_of_mem _ (List.mem_append_right _ h)) (by decide +kernel))
set_option maxRecDepth 20000 in
theorem gL_tap_X3_tap : GoodIn wsL_tap (wsV RL 25 RX3 yX3_tap wsX3_tap) := goodIn_app (goodIn_of _ (by decide +kernel)) ggL_tap_X3_tap
theorem dL_tap_0 : decode cL_tap 0 = .ok (.aload_n 3, 1) := by decide +kernel
theorem dL_tap_1 : decode cL_tap 1 = .ok (.iconst 0, 1) := by decide +kernel
theorem dL_tap_2 : decode cL_tap 2 = .ok (.aload_n 0, 1) := by decide +kernel
theorem dL_tap_3 : decode cL_tap 3 = .ok (.iload_n 1, 1) := by decide +kernel
theorem dL_tap_4 : decode cL_tap 4 = .ok (.iload_n 2, 1) := by decide +kernel
theorem dL_tap_5 : decode cL_tap 5 = .ok (.invokevirtual 25, 3) := by decide +kernel
theorem dL_tap_8 : decode cL_tap 8 = .ok (.ifCond .eq 7, 3) := by decide +kernel
theorem dL_tap_11 : decode cL_tap 11 = .ok (.lconst 1, 1) := by decide +kernel
theorem dL_tap_12 : decode cL_tap 12 = .ok (.goto 4, 3) := by decide +kernel
theorem dL_tap_15 : decode cL_tap 15 = .ok (.lconst 0, 1) := by decide +kernel
theorem dL_tap_16 : decode cL_tap 16 = .ok (.lastore, 1) := by decide +kernel
theorem dL_tap_17 : decode cL_tap 17 = .ok (.goto 7, 3) := by decide +kernel
theorem dL_tap_20 : decode cL_tap 20 = .ok (.astore 4, 2) := by decide +kernel
theorem dL_tap_22 : decode cL_tap 22 = .ok (.iconst 1, 1) := by decide +kernel
theorem dL_tap_23 : decode cL_tap 23 = .ok (.ireturn, 1) := by decide +kernel
theorem dL_tap_24 : decode cL_tap 24 = .ok (.iconst 0, 1) := by decide +kernel
theorem dL_tap_25 : decode cL_tap 25 = .ok (.ireturn, 1) := by decide +kernel
set_option maxRecDepth 20000 in
theorem ggL_swap_X3_swap : GoodIn wsL_swap wsX3_swap := goodIn_ca (goodIn_r _ [6, 7, 8, 9, 10, 11, 5, 12, 13, 14, 15, 16, 17, 18, 19, 20, 21, 22, 23, 24, 25, 26, 27, 28, 29, 30, 31, 32, 33, 34, 35, 36, 37, 38, 39, 40, 41, 42, 43, 44, 45, 46, 47, 48, 49, 50, 51, 52, 53, 54] (by decide +kernel) (by decide +kernel)) (goodIn_sub (fun _ h => List.mem_cons_of_mem _ (List.mem_append_right _ h)) (by decide +kernel))
set_option maxRecDepth 20000 in
theorem gL_swap_X3_swap : GoodIn wsL_swap (wsV RL 29 RX3 yX3_swap wsX3_swap) := goodIn_app (goodIn_of _ (by decide +kernel)) ggL_swap_X3_swap
theorem dL_swap_0 : decode cL_swap 0 = .ok (.aload 4, 2) := by decide +kernel
theorem dL_swap_2 : decode cL_swap 2 = .ok (.iconst 0, 1) := by decide +kernel
theorem dL_swap_3 : decode cL_swap 3 = .ok (.aload_n 0, 1) := by decide +kernel
theorem dL_swap_4 : decode cL_swap 4 = .ok (.iload_n 1, 1) := by decide +kernel
theorem dL_swap_5 : decode cL_swap 5 = .ok (.iload_n 2, 1) := by decide +kernel
theorem dL_swap_6 : decode cL_swap 6 = .ok (.iload_n 3, 1) := by decide +kernel
theorem dL_swap_7 : decode cL_swap 7 = .ok (.invokevirtual 29, 3) := by decide +kernel
theorem dL_swap_10 : decode cL_swap 10 = .ok (.ifCond .eq 7, 3) := by decide +kernel
theorem dL_swap_13 : decode cL_swap 13 = .ok (.lconst 1, 1) := by decide +kernel
theorem dL_swap_14 : decode cL_swap 14 = .ok (.goto 4, 3) := by decide +kernel
theorem dL_swap_17 : decode cL_swap 17 = .ok (.lconst 0, 1) := by decide +kernel
theorem dL_swap_18 : decode cL_swap 18 = .ok (.lastore, 1) := by decide +kernel
theorem dL_swap_19 : decode cL_swap 19 = .ok (.goto 7, 3) := by decide +kernel
theorem dL_swap_22 : decode cL_swap 22 = .ok (.astore 5, 2) := by decide +kernel
theorem dL_swap_24 : decode cL_swap 24 = .ok (.iconst 1, 1) := by decide +kernel
theorem dL_swap_25 : decode cL_swap 25 = .ok (.ireturn, 1) := by decide +kernel
theorem dL_swap_26 : decode cL_swap 26 = .ok (.iconst 0, 1) := by decide +kernel
theorem dL_swap_27 : decode cL_swap 27 = .ok (.ireturn, 1) := by decide +kernel
set_option maxRecDepth 20000 in
theorem ggL_play_X3_play : GoodIn wsL_play wsX3_play := goodIn_ca (goodIn_r _ [6, 7, 8, 9, 10, 11, 5, 12, 13, 14, 15, 16, 17, 18, 19, 20, 21, 22, 23, 24, 25, 26, 27, 28, 29, 30, 31, 32, 33, 34, 35, 36, 37, 38, 39, 40, 41, 42, 43, 44, 45, 46, 47, 48, 49, 50, 51, 52, 53, 54, 55, 56, 57, 58, 59, 60, 61, 62, 63, 64, 65, 66, 67, 68, 69, 70, 71, 72, 73, 74, 75, 76, 77, 78, 79, 80, 81, 82, 83, 84, 85, 86, 87, 88, 89, 90, 91, 92, 93, 94, 95, 96, 97, 98, 99, 100, 101, 102, 103, 104, 105, 106, 107, 108, 109, 110, 111, 112, 113, 114, 115] (by decide +kernel) (by decide +kernel)) (goodIn_sub (fun _ h => List.mem_cons_of_mem _ (List.mem_append_right _ h)) (by decide +kernel))
set_option maxRecDepth 20000 in
theorem gL_play_X3_play : GoodIn wsL_play (wsV RL 32 RX3 yX3_play wsX3_play) := goodIn_app (goodIn_of _ (by decide +kernel)) ggL_play_X3_play
theorem dL_play_0 : decode cL_play 0 = .ok (.aload_n 3, 1) := by decide +kernel
theorem dL_play_1 : decode cL_play 1 = .ok (.iconst 0, 1) := by decide +kernel
theorem dL_play_2 : decode cL_play 2 = .ok (.aload_n 0, 1) := by decide +kernel
theorem dL_play_3 : decode cL_play 3 = .ok (.iload_n 1, 1) := by decide +kernel
theorem dL_play_4 : decode cL_play 4 = .ok (.iload_n 2, 1) := by decide +kernel
theorem dL_play_5 : decode cL_play 5 = .ok (.invokevirtual 32, 3) := by decide +kernel
theorem dL_play_8 : decode cL_play 8 = .ok (.i2l, 1) := by decide +kernel
theorem dL_play_9 : decode cL_play 9 = .ok (.lastore, 1) := by decide +kernel
theorem dL_play_10 : decode cL_play 10 = .ok (.goto 7, 3) := by decide +kernel
theorem dL_play_13 : decode cL_play 13 = .ok (.astore 4, 2) := by decide +kernel
theorem dL_play_15 : decode cL_play 15 = .ok (.iconst 1, 1) := by decide +kernel
theorem dL_play_16 : decode cL_play 16 = .ok (.ireturn, 1) := by decide +kernel
theorem dL_play_17 : decode cL_play 17 = .ok (.iconst 0, 1) := by decide +kernel
theorem dL_play_18 : decode cL_play 18 = .ok (.ireturn, 1) := by decide +kernel
set_option maxRecDepth 20000 in
theorem ggL_code_X3_code : GoodIn wsL_code wsX3_code := goodIn_ca (goodIn_ca (goodIn_r _ [7, 8, 9, 10, 11, 12, 13, 14, 15, 16, 17, 18, 6, 19, 20, 21, 22, 23, 24, 25, 26, 27, 28, 29, 30, 31, 32, 33, 34, 35, 36, 37, 38, 39, 40, 41] (by decide +kernel) (by decide +kernel)) (goodIn_sub (fun _ h => List.mem_cons_of_mem _ (List.mem_append_left _ (List.mem_append_right _ h))) (by decide +kernel))) (goodIn_sub (fun _ h => List.mem_cons_of_mem _ (List.mem_append_right _ h)) (by decide +kernel))
set_option maxRecDepth 20000 in
theorem gL_code_X3_code : GoodIn wsL_code (wsV RL 36 RX3 yX3_code wsX3_code) := goodIn_app (goodIn_of _ (by decide +kernel)) ggL_code_X3_code
theorem dL_code_0 : decode cL_code 0 = .ok (.aload_n 3, 1) := by decide +kernel
theorem dL_code_1 : decode cL_code 1 = .ok (.iconst 0, 1) := by decide +kernel
theorem dL_code_2 : decode cL_code 2 = .ok (.aload_n 0, 1) := by decide +kernel
theorem dL_code_3 : decode cL_code 3 = .ok (.iload_n 1, 1) := by decide +kernel
theorem dL_code_4 : decode cL_code 4 = .ok (.iload_n 2, 1) := by decide +kernel
theorem dL_code_5 : decode cL_code 5 = .ok (.invokevirtual 36, 3) := by decide +kernel
theorem dL_code_8 : decode cL_code 8 = .ok (.lastore, 1) := by decide +kernel
theorem dL_code_9 : decode cL_code 9 = .ok (.goto 11, 3) := by decide +kernel
theorem dL_code_12 : decode cL_code 12 = .ok (.astore 4, 2) := by decide +kernel
theorem dL_code_14 : decode cL_code 14 = .ok (.iconst 1, 1) := by decide +kernel
theorem dL_code_15 : decode cL_code 15 = .ok (.ireturn, 1) := by decide +kernel
theorem dL_code_16 : decode cL_code 16 = .ok (.astore 4, 2) := by decide +kernel
theorem dL_code_18 : decode cL_code 18 = .ok (.iconst 2, 1) := by decide +kernel
theorem dL_code_19 : decode cL_code 19 = .ok (.ireturn, 1) := by decide +kernel
theorem dL_code_20 : decode cL_code 20 = .ok (.iconst 0, 1) := by decide +kernel
theorem dL_code_21 : decode cL_code 21 = .ok (.ireturn, 1) := by decide +kernel
set_option maxRecDepth 20000 in
theorem ggL_trace_X3_trace : GoodIn wsL_trace wsX3_trace := goodIn_ca (goodIn_ca (goodIn_r _ [7, 8, 9, 10, 11, 12, 13, 14, 6, 15, 16, 17, 18, 19, 20, 21, 22, 23, 24, 25, 26, 27, 28, 29, 30, 31, 32, 33, 34, 35, 36, 37, 38, 39, 40, 41, 42, 43, 44, 45, 46, 47] (by decide +kernel) (by decide +kernel)) (goodIn_sub (fun _ h => List.mem_cons_of_mem _ (List.mem_append_left _ (List.mem_append_right _ h))) (by decide +kernel))) (goodIn_sub (fun _ h => List.mem_cons_of_mem _ (List.mem_append_right _ h)) (by decide +kernel))
set_option maxRecDepth 20000 in
theorem gL_trace_X3_trace : GoodIn wsL_trace (wsV RL 40 RX3 yX3_trace wsX3_trace) := goodIn_app (goodIn_of _ (by decide +kernel)) ggL_trace_X3_trace
theorem dL_trace_0 : decode cL_trace 0 = .ok (.aload_n 3, 1) := by decide +kernel
theorem dL_trace_1 : decode cL_trace 1 = .ok (.iconst 0, 1) := by decide +kernel
theorem dL_trace_2 : decode cL_trace 2 = .ok (.aload_n 0, 1) := by decide +kernel
theorem dL_trace_3 : decode cL_trace 3 = .ok (.iload_n 1, 1) := by decide +kernel
theorem dL_trace_4 : decode cL_trace 4 = .ok (.iload_n 2, 1) := by decide +kernel
theorem dL_trace_5 : decode cL_trace 5 = .ok (.invokevirtual 40, 3) := by decide +kernel
theorem dL_trace_8 : decode cL_trace 8 = .ok (.lastore, 1) := by decide +kernel
theorem dL_trace_9 : decode cL_trace 9 = .ok (.goto 11, 3) := by decide +kernel
theorem dL_trace_12 : decode cL_trace 12 = .ok (.astore 4, 2) := by decide +kernel
theorem dL_trace_14 : decode cL_trace 14 = .ok (.iconst 1, 1) := by decide +kernel
theorem dL_trace_15 : decode cL_trace 15 = .ok (.ireturn, 1) := by decide +kernel
theorem dL_trace_16 : decode cL_trace 16 = .ok (.astore 4, 2) := by decide +kernel
theorem dL_trace_18 : decode cL_trace 18 = .ok (.iconst 2, 1) := by decide +kernel
theorem dL_trace_19 : decode cL_trace 19 = .ok (.ireturn, 1) := by decide +kernel
theorem dL_trace_20 : decode cL_trace 20 = .ok (.iconst 0, 1) := by decide +kernel
theorem dL_trace_21 : decode cL_trace 21 = .ok (.ireturn, 1) := by decide +kernel
set_option maxRecDepth 20000 in
theorem ggL_against_X3_against : GoodIn wsL_against wsX3_against := goodIn_ca (goodIn_r _ [6, 7, 8, 9, 10, 11, 12, 5, 13, 14, 15, 16, 17, 18, 19, 20, 21, 22, 23, 24, 25, 26, 27, 28, 29, 30, 31, 32, 33, 34, 35, 36, 37, 38, 39, 40, 41, 42, 43, 44, 45, 46, 47, 48, 49, 50] (by decide +kernel) (by decide +kernel)) (goodIn_sub (fun _ h => List.mem_cons_of_mem _ (List.mem_append_right _ h)) (by decide +kernel))
set_option maxRecDepth 20000 in
theorem gL_against_X3_against : GoodIn wsL_against (wsV RL 43 RX3 yX3_against wsX3_against) := goodIn_app (goodIn_of _ (by decide +kernel)) ggL_against_X3_against
theorem dL_against_0 : decode cL_against 0 = .ok (.aload_n 2, 1) := by decide +kernel
theorem dL_against_1 : decode cL_against 1 = .ok (.iconst 0, 1) := by decide +kernel
theorem dL_against_2 : decode cL_against 2 = .ok (.aload_n 0, 1) := by decide +kernel
theorem dL_against_3 : decode cL_against 3 = .ok (.iload_n 1, 1) := by decide +kernel
theorem dL_against_4 : decode cL_against 4 = .ok (.invokevirtual 43, 3) := by decide +kernel
theorem dL_against_7 : decode cL_against 7 = .ok (.i2l, 1) := by decide +kernel
theorem dL_against_8 : decode cL_against 8 = .ok (.lastore, 1) := by decide +kernel
theorem dL_against_9 : decode cL_against 9 = .ok (.goto 6, 3) := by decide +kernel
theorem dL_against_12 : decode cL_against 12 = .ok (.astore_n 3, 1) := by decide +kernel
theorem dL_against_13 : decode cL_against 13 = .ok (.iconst 1, 1) := by decide +kernel
theorem dL_against_14 : decode cL_against 14 = .ok (.ireturn, 1) := by decide +kernel
theorem dL_against_15 : decode cL_against 15 = .ok (.iconst 0, 1) := by decide +kernel
theorem dL_against_16 : decode cL_against 16 = .ok (.ireturn, 1) := by decide +kernel
set_option maxRecDepth 20000 in
theorem ggL_save_X3_save : GoodIn wsL_save wsX3_save := goodIn_ca (goodIn_r _ [6, 7, 8, 9, 10, 11, 5, 12, 13, 14, 15, 16, 17, 18, 19, 20, 21, 22, 23, 24, 25, 26, 27, 28, 29, 30, 31, 32, 33, 34, 35, 36, 37, 38, 39, 40, 41, 42, 43, 44, 45, 46, 47] (by decide +kernel) (by decide +kernel)) (goodIn_sub (fun _ h => List.mem_cons_of_mem _ (List.mem_append_right _ h)) (by decide +kernel))
set_option maxRecDepth 20000 in
theorem gL_save_X3_save : GoodIn wsL_save (wsV RL 47 RX3 yX3_save wsX3_save) := goodIn_app (goodIn_of _ (by decide +kernel)) ggL_save_X3_save
theorem dL_save_0 : decode cL_save 0 = .ok (.aload_n 3, 1) := by decide +kernel
theorem dL_save_1 : decode cL_save 1 = .ok (.iconst 0, 1) := by decide +kernel
theorem dL_save_2 : decode cL_save 2 = .ok (.aload_n 0, 1) := by decide +kernel
theorem dL_save_3 : decode cL_save 3 = .ok (.iload_n 1, 1) := by decide +kernel
theorem dL_save_4 : decode cL_save 4 = .ok (.iload_n 2, 1) := by decide +kernel
theorem dL_save_5 : decode cL_save 5 = .ok (.invokevirtual 47, 3) := by decide +kernel
theorem dL_save_8 : decode cL_save 8 = .ok (.i2l, 1) := by decide +kernel
theorem dL_save_9 : decode cL_save 9 = .ok (.lastore, 1) := by decide +kernel
theorem dL_save_10 : decode cL_save 10 = .ok (.goto 7, 3) := by decide +kernel
theorem dL_save_13 : decode cL_save 13 = .ok (.astore 4, 2) := by decide +kernel
theorem dL_save_15 : decode cL_save 15 = .ok (.iconst 1, 1) := by decide +kernel
theorem dL_save_16 : decode cL_save 16 = .ok (.ireturn, 1) := by decide +kernel
theorem dL_save_17 : decode cL_save 17 = .ok (.iconst 0, 1) := by decide +kernel
theorem dL_save_18 : decode cL_save 18 = .ok (.ireturn, 1) := by decide +kernel
set_option maxRecDepth 20000 in
theorem ggL_recall_X3_recall : GoodIn wsL_recall wsX3_recall := goodIn_ca (goodIn_r _ [6, 7, 8, 9, 10, 11, 12, 5, 13, 14, 15, 16, 17, 18, 19, 20, 21, 22, 23, 24, 25, 26, 27, 28, 29, 30, 31, 32, 33, 34, 35, 36, 37, 38, 39, 40, 41, 42, 43, 44, 45, 46, 47, 48] (by decide +kernel) (by decide +kernel)) (goodIn_sub (fun _ h => List.mem_cons_of_mem _ (List.mem_append_right _ h)) (by decide +kernel))
set_option maxRecDepth 20000 in
theorem gL_recall_X3_recall : GoodIn wsL_recall (wsV RL 50 RX3 yX3_recall wsX3_recall) := goodIn_app (goodIn_of _ (by decide +kernel)) ggL_recall_X3_recall
theorem dL_recall_0 : decode cL_recall 0 = .ok (.aload_n 3, 1) := by decide +kernel
theorem dL_recall_1 : decode cL_recall 1 = .ok (.iconst 0, 1) := by decide +kernel
theorem dL_recall_2 : decode cL_recall 2 = .ok (.aload_n 0, 1) := by decide +kernel
theorem dL_recall_3 : decode cL_recall 3 = .ok (.iload_n 1, 1) := by decide +kernel
theorem dL_recall_4 : decode cL_recall 4 = .ok (.iload_n 2, 1) := by decide +kernel
theorem dL_recall_5 : decode cL_recall 5 = .ok (.invokevirtual 50, 3) := by decide +kernel
theorem dL_recall_8 : decode cL_recall 8 = .ok (.i2l, 1) := by decide +kernel
theorem dL_recall_9 : decode cL_recall 9 = .ok (.lastore, 1) := by decide +kernel
theorem dL_recall_10 : decode cL_recall 10 = .ok (.goto 7, 3) := by decide +kernel
theorem dL_recall_13 : decode cL_recall 13 = .ok (.astore 4, 2) := by decide +kernel
theorem dL_recall_15 : decode cL_recall 15 = .ok (.iconst 1, 1) := by decide +kernel
theorem dL_recall_16 : decode cL_recall 16 = .ok (.ireturn, 1) := by decide +kernel
theorem dL_recall_17 : decode cL_recall 17 = .ok (.iconst 0, 1) := by decide +kernel
theorem dL_recall_18 : decode cL_recall 18 = .ok (.ireturn, 1) := by decide +kernel
set_option maxRecDepth 20000 in
theorem ggL_patch_X3_patch : GoodIn wsL_patch wsX3_patch := goodIn_ca (goodIn_r _ [6, 7, 8, 9, 10, 11, 5, 12, 13, 14, 15, 16, 17, 18, 19, 20, 21, 22, 23, 24, 25, 26, 27, 28, 29, 30, 31, 32, 33, 34, 35, 36, 37, 38, 39, 40, 41, 42, 43, 44, 45, 46, 47, 48, 49, 50, 51, 52, 53, 54, 55, 56, 57, 58, 59, 60, 61, 62, 63, 64, 65, 66, 67, 68, 69, 70, 71, 72, 73, 74, 75, 76, 77, 78, 79, 80, 81, 82, 83, 84, 85, 86, 87, 88, 89, 90, 91, 92, 93] (by decide +kernel) (by decide +kernel)) (goodIn_sub (fun _ h => List.mem_cons_of_mem _ (List.mem_append_right _ h)) (by decide +kernel))
set_option maxRecDepth 20000 in
theorem gL_patch_X3_patch : GoodIn wsL_patch (wsV RL 53 RX3 yX3_patch wsX3_patch) := goodIn_app (goodIn_of _ (by decide +kernel)) ggL_patch_X3_patch
theorem dL_patch_0 : decode cL_patch 0 = .ok (.aload_n 3, 1) := by decide +kernel
theorem dL_patch_1 : decode cL_patch 1 = .ok (.iconst 0, 1) := by decide +kernel
theorem dL_patch_2 : decode cL_patch 2 = .ok (.aload_n 0, 1) := by decide +kernel
theorem dL_patch_3 : decode cL_patch 3 = .ok (.iload_n 1, 1) := by decide +kernel
theorem dL_patch_4 : decode cL_patch 4 = .ok (.iload_n 2, 1) := by decide +kernel
theorem dL_patch_5 : decode cL_patch 5 = .ok (.invokevirtual 53, 3) := by decide +kernel
theorem dL_patch_8 : decode cL_patch 8 = .ok (.lastore, 1) := by decide +kernel
theorem dL_patch_9 : decode cL_patch 9 = .ok (.goto 7, 3) := by decide +kernel
theorem dL_patch_12 : decode cL_patch 12 = .ok (.astore 4, 2) := by decide +kernel
theorem dL_patch_14 : decode cL_patch 14 = .ok (.iconst 1, 1) := by decide +kernel
theorem dL_patch_15 : decode cL_patch 15 = .ok (.ireturn, 1) := by decide +kernel
theorem dL_patch_16 : decode cL_patch 16 = .ok (.iconst 0, 1) := by decide +kernel
theorem dL_patch_17 : decode cL_patch 17 = .ok (.ireturn, 1) := by decide +kernel
set_option maxRecDepth 20000 in
theorem ggL_law_X3_init : GoodIn wsL_law wsX3_init := goodIn_r _ [9, 10, 11, 12, 13, 14, 15, 16, 17, 18, 19, 20, 21, 22, 23, 24, 25, 26, 27, 6, 28, 29, 30, 31, 32, 33, 34, 35, 36, 37, 38, 514, 533, 534, 535, 536, 537, 538, 539, 540, 541, 542, 543, 544, 545, 546, 547] (by decide +kernel) (by decide +kernel)
set_option maxRecDepth 20000 in
theorem gL_law_X3_init : GoodIn wsL_law (wsX3_init) := ggL_law_X3_init
set_option maxRecDepth 20000 in
theorem ggL_law_X4_init : GoodIn wsL_law wsX4_init := goodIn_r _ [41, 42, 11, 12, 6, 43, 44, 45, 46, 35, 47, 48, 29, 49, 50, 51, 52, 53, 54, 55, 56, 57, 58, 59, 515, 516, 517, 518, 519, 520, 521, 522, 523, 524, 525, 526, 527, 528, 529, 530, 531, 532] (by decide +kernel) (by decide +kernel)
set_option maxRecDepth 20000 in
theorem gL_law_X4_init : GoodIn wsL_law (wsX4_init) := ggL_law_X4_init
set_option maxRecDepth 20000 in
theorem ggL_law_L_put : GoodIn wsL_law wsL_put := goodIn_ca (goodIn_r _ [63, 64, 65, 66, 67, 2, 68, 69, 70, 71, 72, 73, 74, 14, 75, 76, 77, 78, 79, 80, 81, 82, 83, 84, 85, 86, 87, 88, 89, 90, 91, 92, 93, 94, 95, 96, 97, 98, 99, 100, 101, 102, 103, 104, 105, 106, 107, 16, 108, 109, 110, 111, 112, 514, 533, 534, 535, 536, 537, 538, 539, 540, 541, 542, 543] (by decide +kernel) (by decide +kernel)) (goodIn_sub (fun _ h => List.mem_append_left _ (List.mem_append_right _ h)) (by decide +kernel))
set_option maxRecDepth 20000 in
theorem gL_law_L_put : GoodIn wsL_law (va_wsS RL 60 yL_put wsL_put) := goodIn_app (goodIn_of _ (by decide +kernel)) ggL_law_L_put
set_option maxRecDepth 20000 in
theorem ggL_law_X4_put : GoodIn wsL_law wsX4_put := goodIn_r _ [116, 117, 118, 5, 119, 120, 121, 122, 123, 124, 125, 126, 127, 128, 129, 130, 131, 132, 133, 134, 135, 136, 137, 138, 139, 140, 141, 142, 143, 144, 145, 146, 147, 148, 149, 150, 151, 152, 43, 44, 47, 50, 49, 515, 516, 517, 518, 519, 520, 521, 522, 523, 524, 525, 526, 527, 528, 529, 530, 531, 532] (by decide +kernel) (by decide +kernel)
set_option maxRecDepth 20000 in
theorem gL_law_X4_put : GoodIn wsL_law (wsV RL 65 RX4 yX4_put wsX4_put) := goodIn_app (goodIn_of _ (by decide +kernel)) ggL_law_X4_put
set_option maxRecDepth 20000 in
theorem ggL_law_X4_thrown : GoodIn wsL_law wsX4_thrown := goodIn_r _ [156, 148, 515, 516, 517, 518, 519, 520, 521, 522, 523, 524, 525, 526, 527, 528, 529, 530, 531, 532] (by decide +kernel) (by decide +kernel)
set_option maxRecDepth 20000 in
theorem gL_law_X4_thrown : GoodIn wsL_law (wsV RL 66 RX4 yX4_thrown wsX4_thrown) := goodIn_app (goodIn_of _ (by decide +kernel)) ggL_law_X4_thrown
set_option maxRecDepth 20000 in
theorem ggL_law_L_pedal : GoodIn wsL_law wsL_pedal := goodIn_ca (goodIn_ca (goodIn_r _ [159, 64, 160, 161, 162, 163, 2, 164, 73, 74, 165, 166, 81, 167, 168, 69, 70, 71, 72, 14, 75, 76, 77, 169, 170, 171, 85, 172, 94, 95, 96, 97, 98, 78, 79, 80, 82, 83, 84, 86, 87, 88, 89, 90, 91, 92, 93, 99, 100, 101, 102, 103, 104, 173, 174, 175, 25, 176, 177, 178, 179, 180, 181, 36, 37, 38, 182, 533, 534, 535, 536, 537, 538, 539, 540, 541, 542, 543, 514, 544, 545, 546, 547] (by decide +kernel) (by decide +kernel)) (goodIn_sub (fun _ h => List.mem_append_left _ (List.mem_append_right _ h)) (by decide +kernel))) (goodIn_sub (fun _ h => List.mem_append_right _ h) (by decide +kernel))
set_option maxRecDepth 20000 in
theorem gL_law_L_pedal : GoodIn wsL_law (va_wsS RL 70 yL_pedal wsL_pedal) := goodIn_app (goodIn_of _ (by decide +kernel)) ggL_law_L_pedal
set_option maxRecDepth 20000 in
theorem ggL_law_X4_pedal : GoodIn wsL_law wsX4_pedal := goodIn_r _ [186, 48, 51, 52, 54, 49, 117, 118, 5, 119, 187, 188, 189, 120, 121, 122, 123, 124, 125, 126, 127, 128, 129, 130, 131, 132, 133, 134, 135, 136, 137, 138, 139, 140, 141, 142, 143, 144, 145, 146, 147, 148, 515, 516, 517, 518, 519, 520, 521, 522, 523, 524, 525, 526, 527, 528, 529, 530, 531, 532] (by decide +kernel) (by decide +kernel)
set_option maxRecDepth 20000 in
theorem gL_law_X4_pedal : GoodIn wsL_law (wsV RL 73 RX4 yX4_pedal wsX4_pedal) := goodIn_app (goodIn_of _ (by decide +kernel)) ggL_law_X4_pedal
set_option maxRecDepth 20000 in
theorem ggL_law_L_turn : GoodIn wsL_law wsL_turn := goodIn_ca (goodIn_r _ [192, 64, 193, 194, 195, 2, 196, 167, 197, 69, 70, 71, 72, 73, 74, 14, 75, 76, 77, 198, 199, 200, 201, 202, 203, 25, 204, 177, 78, 79, 80, 81, 82, 83, 84, 85, 86, 87, 88, 89, 90, 91, 92, 93, 94, 95, 96, 97, 98, 99, 100, 101, 102, 103, 104, 533, 534, 535, 536, 537, 538, 539, 540, 541, 542, 543, 544, 545, 546, 547, 514] (by decide +kernel) (by decide +kernel)) (goodIn_sub (fun _ h => List.mem_append_left _ (List.mem_append_right _ h)) (by decide +kernel))
set_option maxRecDepth 20000 in
theorem gL_law_L_turn : GoodIn wsL_law (va_wsS RL 74 yL_turn wsL_turn) := goodIn_app (goodIn_of _ (by decide +kernel)) ggL_law_L_turn
set_option maxRecDepth 20000 in
theorem ggL_law_X4_turn : GoodIn wsL_law wsX4_turn := goodIn_r _ [208, 52, 209, 210, 211, 5, 212, 48, 117, 118, 119, 120, 121, 122, 123, 124, 125, 126, 127, 128, 129, 130, 131, 132, 133, 134, 135, 136, 137, 138, 139, 140, 141, 142, 143, 144, 145, 146, 147, 148, 515, 516, 517, 518, 519, 520, 521, 522, 523, 524, 525, 526, 527, 528, 529, 530, 531, 532] (by decide +kernel) (by decide +kernel)
set_option maxRecDepth 20000 in
theorem gL_law_X4_turn : GoodIn wsL_law (wsV RL 76 RX4 yX4_turn wsX4_turn) := goodIn_app (goodIn_of _ (by decide +kernel)) ggL_law_X4_turn
set_option maxRecDepth 20000 in
theorem ggL_law_L_tap : GoodIn wsL_law wsL_tap := goodIn_ca (goodIn_r _ [215, 64, 216, 217, 218, 2, 219, 167, 220, 69, 70, 71, 72, 73, 74, 14, 75, 76, 77, 198, 199, 200, 201, 202, 203, 25, 204, 177, 533, 534, 535, 536, 537, 538, 539, 540, 541, 542, 543, 544, 545, 546, 547, 514] (by decide +kernel) (by decide +kernel)) (goodIn_sub (fun _ h => List.mem_append_left _ (List.mem_append_right _ h)) (by decide +kernel))
set_option maxRecDepth 20000 in
theorem gL_law_L_tap : GoodIn wsL_law (va_wsS RL 77 yL_tap wsL_tap) := goodIn_app (goodIn_of _ (by decide +kernel)) ggL_law_L_tap
set_option maxRecDepth 20000 in
theorem ggL_law_X4_tap : GoodIn wsL_law wsX4_tap := goodIn_r _ [224, 54, 209, 210, 211, 5, 212, 48, 117, 118, 119, 144, 145, 146, 147, 148, 515, 516, 517, 518, 519, 520, 521, 522, 523, 524, 525, 526, 527, 528, 529, 530, 531, 532] (by decide +kernel) (by decide +kernel)
set_option maxRecDepth 20000 in
theorem gL_law_X4_tap : GoodIn wsL_law (wsV RL 80 RX4 yX4_tap wsX4_tap) := goodIn_app (goodIn_of _ (by decide +kernel)) ggL_law_X4_tap
set_option maxRecDepth 20000 in
theorem ggL_law_L_swap : GoodIn wsL_law wsL_swap := goodIn_ca (goodIn_r _ [227, 64, 228, 229, 230, 2, 231, 168, 167, 69, 70, 71, 72, 73, 74, 14, 75, 76, 77, 198, 199, 200, 201, 202, 203, 25, 204, 177, 232, 233, 234, 235, 36, 37, 38, 236, 237, 238, 239, 533, 534, 535, 536, 537, 538, 539, 540, 541, 542, 543, 514, 544, 545, 546, 547] (by decide +kernel) (by decide +kernel)) (goodIn_sub (fun _ h => List.mem_append_left _ (List.mem_append_right _ h)) (by decide +kernel))
set_option maxRecDepth 20000 in
theorem gL_law_L_swap : GoodIn wsL_law (va_wsS RL 81 yL_swap wsL_swap) := goodIn_app (goodIn_of _ (by decide +kernel)) ggL_law_L_swap
set_option maxRecDepth 20000 in
theorem ggL_law_X4_swap : GoodIn wsL_law wsX4_swap := goodIn_r _ [243, 51, 52, 54, 49, 209, 210, 211, 5, 212, 48, 117, 118, 119, 144, 145, 146, 147, 148, 515, 516, 517, 518, 519, 520, 521, 522, 523, 524, 525, 526, 527, 528, 529, 530, 531, 532] (by decide +kernel) (by decide +kernel)
set_option maxRecDepth 20000 in
theorem gL_law_X4_swap : GoodIn wsL_law (wsV RL 83 RX4 yX4_swap wsX4_swap) := goodIn_app (goodIn_of _ (by decide +kernel)) ggL_law_X4_swap
set_option maxRecDepth 20000 in
theorem ggL_law_L_play : GoodIn wsL_law wsL_play := goodIn_ca (goodIn_r _ [246, 64, 247, 248, 249, 2, 250, 73, 74, 69, 70, 71, 72, 14, 75, 76, 77, 251, 252, 253, 16, 254, 26, 255, 110, 256, 22, 257, 258, 28, 30, 112, 111, 259, 260, 261, 85, 262, 263, 264, 265, 266, 93, 267, 94, 95, 96, 97, 98, 268, 269, 270, 271, 87, 272, 273, 274, 275, 276, 277, 278, 279, 280, 281, 282, 283, 104, 284, 285, 286, 287, 288, 289, 290, 291, 292, 293, 294, 295, 296, 297, 298, 299, 300, 301, 302, 303, 304, 305, 306, 307, 308, 309, 310, 311, 312, 313, 314, 315, 316, 514, 533, 534, 535, 536, 537, 538, 539, 540, 541, 542, 543, 544, 545, 546, 547] (by decide +kernel) (by decide +kernel)) (goodIn_sub (fun _ h => List.mem_append_left _ (List.mem_append_right _ h)) (by decide +kernel))
set_option maxRecDepth 20000 in
theorem gL_law_L_play : GoodIn wsL_law (va_wsS RL 84 yL_play wsL_play) := goodIn_app (goodIn_of _ (by decide +kernel)) ggL_law_L_play
set_option maxRecDepth 20000 in
theorem ggL_law_X4_play : GoodIn wsL_law wsX4_play := goodIn_r _ [320, 117, 118, 5, 119, 144, 145, 146, 147, 148, 321, 322, 323, 324, 44, 48, 54, 51, 52, 55, 53, 50, 45, 46, 49, 47, 325, 326, 327, 328, 329, 330, 331, 332, 333, 131, 132, 133, 123, 134, 135, 136, 137, 138, 334, 335, 336, 127, 128, 129, 130, 337, 338, 339, 340, 341, 342, 343, 344, 345, 346, 347, 348, 349, 350, 351, 352, 353, 354, 515, 516, 517, 518, 519, 520, 521, 522, 523, 524, 525, 526, 527, 528, 529, 530, 531, 532] (by decide +kernel) (by decide +kernel)
set_option maxRecDepth 20000 in
theorem gL_law_X4_play : GoodIn wsL_law (wsV RL 86 RX4 yX4_play wsX4_play) := goodIn_app (goodIn_of _ (by decide +kernel)) ggL_law_X4_play
set_option maxRecDepth 20000 in
theorem ggL_law_L_code : GoodIn wsL_law wsL_code := goodIn_ca (goodIn_ca (goodIn_r _ [357, 64, 160, 358, 359, 360, 2, 361, 73, 74, 165, 166, 362, 363, 364, 365, 69, 70, 71, 72, 14, 75, 76, 77, 366, 313, 314, 16, 315, 111, 533, 534, 535, 536, 537, 538, 539, 540, 541, 542, 543, 514] (by decide +kernel) (by decide +kernel)) (goodIn_sub (fun _ h => List.mem_append_left _ (List.mem_append_right _ h)) (by decide +kernel))) (goodIn_sub (fun _ h => List.mem_append_right _ h) (by decide +kernel))
set_option maxRecDepth 20000 in
theorem gL_law_L_code : GoodIn wsL_law (va_wsS RL 87 yL_code wsL_code) := goodIn_app (goodIn_of _ (by decide +kernel)) ggL_law_L_code
set_option maxRecDepth 20000 in
theorem ggL_law_X4_code : GoodIn wsL_law wsX4_code := goodIn_r _ [370, 50, 43, 44, 45, 46, 117, 118, 5, 119, 144, 145, 146, 147, 148, 515, 516, 517, 518, 519, 520, 521, 522, 523, 524, 525, 526, 527, 528, 529, 530, 531, 532] (by decide +kernel) (by decide +kernel)
set_option maxRecDepth 20000 in
theorem gL_law_X4_code : GoodIn wsL_law (wsV RL 89 RX4 yX4_code wsX4_code) := goodIn_app (goodIn_of _ (by decide +kernel)) ggL_law_X4_code
set_option maxRecDepth 20000 in
theorem ggL_law_L_trace : GoodIn wsL_law wsL_trace := goodIn_ca (goodIn_ca (goodIn_r _ [373, 64, 160, 374, 375, 376, 2, 377, 165, 166, 168, 378, 69, 70, 71, 72, 73, 74, 14, 75, 76, 77, 198, 199, 200, 167, 201, 202, 203, 25, 204, 177, 533, 534, 535, 536, 537, 538, 539, 540, 541, 542, 543, 514, 544, 545, 546, 547] (by decide +kernel) (by decide +kernel)) (goodIn_sub (fun _ h => List.mem_append_right _ h) (by decide +kernel))) (goodIn_sub (fun _ h => List.mem_append_left _ (List.mem_append_right _ h)) (by decide +kernel))
set_option maxRecDepth 20000 in
theorem gL_law_L_trace : GoodIn wsL_law (va_wsS RL 90 yL_trace wsL_trace) := goodIn_app (goodIn_of _ (by decide +kernel)) ggL_law_L_trace
set_option maxRecDepth 20000 in
theorem ggL_law_X4_trace : GoodIn wsL_law wsX4_trace := goodIn_r _ [382, 49, 53, 209, 210, 211, 5, 212, 48, 117, 118, 119, 144, 145, 146, 147, 148, 515, 516, 517, 518, 519, 520, 521, 522, 523, 524, 525, 526, 527, 528, 529, 530, 531, 532] (by decide +kernel) (by decide +kernel)
set_option maxRecDepth 20000 in
theorem gL_law_X4_trace : GoodIn wsL_law (wsV RL 92 RX4 yX4_trace wsX4_trace) := goodIn_app (goodIn_of _ (by decide +kernel)) ggL_law_X4_trace
set_option maxRecDepth 20000 in
theorem ggL_law_X3_light : GoodIn wsL_law wsX3_light := goodIn_r _ [386, 14, 75, 76, 2, 77, 387, 388, 389, 16, 390, 112, 26, 30, 391, 202, 203, 25, 204, 177, 514, 533, 534, 535, 536, 537, 538, 539, 540, 541, 542, 543, 544, 545, 546, 547] (by decide +kernel) (by decide +kernel)
set_option maxRecDepth 20000 in
theorem gL_law_X3_light : GoodIn wsL_law (wsV RL 93 RX3 yX3_light wsX3_light) := goodIn_app (goodIn_of _ (by decide +kernel)) ggL_law_X3_light
set_option maxRecDepth 20000 in
theorem ggL_law_X4_light : GoodIn wsL_law wsX4_light := goodIn_r _ [395, 148, 49, 55, 209, 210, 211, 5, 212, 48, 117, 118, 119, 515, 516, 517, 518, 519, 520, 521, 522, 523, 524, 525, 526, 527, 528, 529, 530, 531, 532] (by decide +kernel) (by decide +kernel)
set_option maxRecDepth 20000 in
theorem gL_law_X4_light : GoodIn wsL_law (wsV RL 96 RX4 yX4_light wsX4_light) := goodIn_app (goodIn_of _ (by decide +kernel)) ggL_law_X4_light
set_option maxRecDepth 20000 in
theorem ggL_law_L_against : GoodIn wsL_law wsL_against := goodIn_ca (goodIn_r _ [398, 64, 399, 400, 401, 2, 402, 363, 362, 81, 69, 70, 71, 72, 73, 74, 14, 75, 76, 77, 403, 303, 304, 85, 305, 93, 94, 95, 96, 97, 98, 404, 273, 274, 275, 276, 277, 278, 279, 533, 534, 535, 536, 537, 538, 539, 540, 541, 542, 543, 514] (by decide +kernel) (by decide +kernel)) (goodIn_sub (fun _ h => List.mem_append_left _ (List.mem_append_right _ h)) (by decide +kernel))
set_option maxRecDepth 20000 in
theorem gL_law_L_against : GoodIn wsL_law (va_wsS RL 97 yL_against wsL_against) := goodIn_app (goodIn_of _ (by decide +kernel)) ggL_law_L_against
set_option maxRecDepth 20000 in
theorem ggL_law_X4_against : GoodIn wsL_law wsX4_against := goodIn_r _ [408, 44, 43, 117, 118, 5, 119, 144, 145, 146, 147, 148, 337, 338, 339, 340, 341, 342, 134, 135, 136, 137, 138, 127, 128, 129, 130, 131, 132, 133, 123, 515, 516, 517, 518, 519, 520, 521, 522, 523, 524, 525, 526, 527, 528, 529, 530, 531, 532] (by decide +kernel) (by decide +kernel)
set_option maxRecDepth 20000 in
theorem gL_law_X4_against : GoodIn wsL_law (wsV RL 100 RX4 yX4_against wsX4_against) := goodIn_app (goodIn_of _ (by decide +kernel)) ggL_law_X4_against
set_option maxRecDepth 20000 in
theorem ggL_law_L_save : GoodIn wsL_law wsL_save := goodIn_ca (goodIn_r _ [411, 64, 412, 413, 414, 2, 415, 167, 416, 69, 70, 71, 72, 73, 74, 14, 75, 76, 77, 417, 418, 419, 420, 421, 422, 423, 25, 424, 177, 36, 37, 38, 533, 534, 535, 536, 537, 538, 539, 540, 541, 542, 543, 544, 545, 546, 547, 514] (by decide +kernel) (by decide +kernel)) (goodIn_sub (fun _ h => List.mem_append_left _ (List.mem_append_right _ h)) (by decide +kernel))
set_option maxRecDepth 20000 in
theorem gL_law_L_save : GoodIn wsL_law (va_wsS RL 101 yL_save wsL_save) := goodIn_app (goodIn_of _ (by decide +kernel)) ggL_law_L_save
set_option maxRecDepth 20000 in
theorem ggL_law_X4_save : GoodIn wsL_law wsX4_save := goodIn_r _ [428, 56, 48, 57, 51, 58, 52, 59, 54, 117, 118, 5, 119, 144, 145, 146, 147, 148, 515, 516, 517, 518, 519, 520, 521, 522, 523, 524, 525, 526, 527, 528, 529, 530, 531, 532] (by decide +kernel) (by decide +kernel)
set_option maxRecDepth 20000 in
theorem gL_law_X4_save : GoodIn wsL_law (wsV RL 103 RX4 yX4_save wsX4_save) := goodIn_app (goodIn_of _ (by decide +kernel)) ggL_law_X4_save
set_option maxRecDepth 20000 in
theorem ggL_law_L_recall : GoodIn wsL_law wsL_recall := goodIn_ca (goodIn_r _ [431, 64, 432, 433, 434, 2, 435, 167, 168, 416, 69, 70, 71, 72, 73, 74, 14, 75, 76, 77, 417, 418, 419, 420, 421, 422, 423, 25, 424, 177, 36, 37, 38, 533, 534, 535, 536, 537, 538, 539, 540, 541, 542, 543, 544, 545, 546, 547, 514] (by decide +kernel) (by decide +kernel)) (goodIn_sub (fun _ h => List.mem_append_left _ (List.mem_append_right _ h)) (by decide +kernel))
set_option maxRecDepth 20000 in
theorem gL_law_L_recall : GoodIn wsL_law (va_wsS RL 104 yL_recall wsL_recall) := goodIn_app (goodIn_of _ (by decide +kernel)) ggL_law_L_recall
set_option maxRecDepth 20000 in
theorem ggL_law_X4_recall : GoodIn wsL_law wsX4_recall := goodIn_r _ [439, 48, 56, 51, 57, 52, 58, 54, 59, 49, 117, 118, 5, 119, 144, 145, 146, 147, 148, 515, 516, 517, 518, 519, 520, 521, 522, 523, 524, 525, 526, 527, 528, 529, 530, 531, 532] (by decide +kernel) (by decide +kernel)
set_option maxRecDepth 20000 in
theorem gL_law_X4_recall : GoodIn wsL_law (wsV RL 106 RX4 yX4_recall wsX4_recall) := goodIn_app (goodIn_of _ (by decide +kernel)) ggL_law_X4_recall
set_option maxRecDepth 20000 in
theorem ggL_law_L_patch : GoodIn wsL_law wsL_patch := goodIn_ca (goodIn_r _ [442, 64, 443, 444, 445, 2, 446, 81, 363, 69, 70, 71, 72, 73, 74, 14, 75, 76, 77, 447, 448, 449, 85, 450, 94, 95, 96, 97, 98, 268, 269, 270, 271, 87, 451, 452, 453, 454, 455, 456, 457, 458, 104, 459, 460, 461, 462, 463, 464, 465, 466, 467, 468, 469, 99, 100, 101, 102, 103, 298, 299, 300, 301, 93, 267, 470, 471, 472, 473, 474, 475, 476, 477, 105, 106, 107, 16, 108, 109, 110, 111, 112, 533, 534, 535, 536, 537, 538, 539, 540, 541, 542, 543, 514] (by decide +kernel) (by decide +kernel)) (goodIn_sub (fun _ h => List.mem_append_left _ (List.mem_append_right _ h)) (by decide +kernel))
set_option maxRecDepth 20000 in
theorem gL_law_L_patch : GoodIn wsL_law (va_wsS RL 107 yL_patch wsL_patch) := goodIn_app (goodIn_of _ (by decide +kernel)) ggL_law_L_patch
set_option maxRecDepth 20000 in
theorem ggL_law_X4_patch : GoodIn wsL_law wsX4_patch := goodIn_r _ [481, 44, 117, 118, 5, 119, 144, 145, 146, 147, 148, 482, 483, 484, 485, 486, 487, 134, 135, 136, 137, 138, 334, 335, 336, 349, 350, 351, 488, 489, 490, 139, 140, 141, 142, 143, 127, 128, 129, 130, 131, 132, 133, 123, 340, 341, 342, 491, 492, 493, 494, 495, 149, 150, 151, 152, 43, 47, 50, 49, 515, 516, 517, 518, 519, 520, 521, 522, 523, 524, 525, 526, 527, 528, 529, 530, 531, 532] (by decide +kernel) (by decide +kernel)
set_option maxRecDepth 20000 in
theorem gL_law_X4_patch : GoodIn wsL_law (wsV RL 109 RX4 yX4_patch wsX4_patch) := goodIn_app (goodIn_of _ (by decide +kernel)) ggL_law_X4_patch
set_option maxRecDepth 20000 in
theorem ggL_law_X3_about : GoodIn wsL_law wsX3_about := goodIn_r _ [499, 14, 167, 416, 500, 75, 76, 2, 77, 501, 502, 503, 25, 504, 177, 38, 505, 506, 507, 16, 508, 26, 255, 509, 388, 389, 390, 112, 30, 391, 202, 203, 204, 514, 533, 534, 535, 536, 537, 538, 539, 540, 541, 542, 543, 544, 545, 546, 547] (by decide +kernel) (by decide +kernel)
set_option maxRecDepth 20000 in
theorem gL_law_X3_about : GoodIn wsL_law (wsV RL 110 RX3 yX3_about wsX3_about) := goodIn_app (goodIn_of _ (by decide +kernel)) ggL_law_X3_about
set_option maxRecDepth 20000 in
theorem ggL_law_X4_about : GoodIn wsL_law wsX4_about := goodIn_r _ [513, 148, 48, 47, 54, 49, 55, 117, 118, 5, 119, 515, 516, 517, 518, 519, 520, 521, 522, 523, 524, 525, 526, 527, 528, 529, 530, 531, 532] (by decide +kernel) (by decide +kernel)
set_option maxRecDepth 20000 in
theorem gL_law_X4_about : GoodIn wsL_law (wsV RL 113 RX4 yX4_about wsX4_about) := goodIn_app (goodIn_of _ (by decide +kernel)) ggL_law_X4_about
