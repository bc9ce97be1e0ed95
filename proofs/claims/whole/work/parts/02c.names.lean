theorem dX0_init_0 : decode cX0_init 0 = .ok (.aload_n 0, 1) := by decide +kernel
theorem dX0_init_1 : decode cX0_init 1 = .ok (.invokespecial 3, 3) := by decide +kernel
theorem dX0_init_4 : decode cX0_init 4 = .ok (.aload_n 0, 1) := by decide +kernel
theorem dX0_init_5 : decode cX0_init 5 = .ok (.bipush 12, 2) := by decide +kernel
theorem dX0_init_7 : decode cX0_init 7 = .ok (.newarray .int, 2) := by decide +kernel
theorem dX0_init_9 : decode cX0_init 9 = .ok (.putfield 9, 3) := by decide +kernel
theorem dX0_init_12 : decode cX0_init 12 = .ok (.aload_n 0, 1) := by decide +kernel
theorem dX0_init_13 : decode cX0_init 13 = .ok (.bipush 12, 2) := by decide +kernel
theorem dX0_init_15 : decode cX0_init 15 = .ok (.newarray .long, 2) := by decide +kernel
theorem dX0_init_17 : decode cX0_init 17 = .ok (.putfield 15, 3) := by decide +kernel
theorem dX0_init_20 : decode cX0_init 20 = .ok (.aload_n 0, 1) := by decide +kernel
theorem dX0_init_21 : decode cX0_init 21 = .ok (.bipush 12, 2) := by decide +kernel
theorem dX0_init_23 : decode cX0_init 23 = .ok (.newarray .boolean, 2) := by decide +kernel
theorem dX0_init_25 : decode cX0_init 25 = .ok (.putfield 19, 3) := by decide +kernel
theorem dX0_init_28 : decode cX0_init 28 = .ok (.return_, 1) := by decide +kernel
theorem dX0_has_0 : decode cX0_has 0 = .ok (.iload_n 1, 1) := by decide +kernel
theorem dX0_has_1 : decode cX0_has 1 = .ok (.ifCond .lt 15, 3) := by decide +kernel
theorem dX0_has_4 : decode cX0_has 4 = .ok (.iload_n 1, 1) := by decide +kernel
theorem dX0_has_5 : decode cX0_has 5 = .ok (.aload_n 0, 1) := by decide +kernel
theorem dX0_has_6 : decode cX0_has 6 = .ok (.getfield 23, 3) := by decide +kernel
theorem dX0_has_9 : decode cX0_has 9 = .ok (.if_icmp .ge 7, 3) := by decide +kernel
theorem dX0_has_12 : decode cX0_has 12 = .ok (.iconst 1, 1) := by decide +kernel
theorem dX0_has_13 : decode cX0_has 13 = .ok (.goto 4, 3) := by decide +kernel
theorem dX0_has_16 : decode cX0_has 16 = .ok (.iconst 0, 1) := by decide +kernel
theorem dX0_has_17 : decode cX0_has 17 = .ok (.ireturn, 1) := by decide +kernel
theorem dX0_isFull_0 : decode cX0_isFull 0 = .ok (.aload_n 0, 1) := by decide +kernel
theorem dX0_isFull_1 : decode cX0_isFull 1 = .ok (.getfield 23, 3) := by decide +kernel
theorem dX0_isFull_4 : decode cX0_isFull 4 = .ok (.bipush 12, 2) := by decide +kernel
theorem dX0_isFull_6 : decode cX0_isFull 6 = .ok (.if_icmp .lt 7, 3) := by decide +kernel
theorem dX0_isFull_9 : decode cX0_isFull 9 = .ok (.iconst 1, 1) := by decide +kernel
theorem dX0_isFull_10 : decode cX0_isFull 10 = .ok (.goto 4, 3) := by decide +kernel
theorem dX0_isFull_13 : decode cX0_isFull 13 = .ok (.iconst 0, 1) := by decide +kernel
theorem dX0_isFull_14 : decode cX0_isFull 14 = .ok (.ireturn, 1) := by decide +kernel
set_option maxRecDepth 20000 in
theorem ggX0_append_X0_isFull : GoodIn wsX0_append wsX0_isFull := goodIn_r _ [9, 2, 10, 11, 12, 13] (by decide +kernel) (by decide +kernel)
set_option maxRecDepth 20000 in
theorem gX0_append_X0_isFull : GoodIn wsX0_append (wsV RX0 27 RX0 yX0_isFull wsX0_isFull) := goodIn_app (goodIn_of _ (by decide +kernel)) ggX0_append_X0_isFull
theorem dX0_append_0 : decode cX0_append 0 = .ok (.aload_n 0, 1) := by decide +kernel
theorem dX0_append_1 : decode cX0_append 1 = .ok (.invokevirtual 27, 3) := by decide +kernel
theorem dX0_append_4 : decode cX0_append 4 = .ok (.ifCond .eq 5, 3) := by decide +kernel
theorem dX0_append_7 : decode cX0_append 7 = .ok (.iconst (-1), 1) := by decide +kernel
theorem dX0_append_8 : decode cX0_append 8 = .ok (.ireturn, 1) := by decide +kernel
theorem dX0_append_9 : decode cX0_append 9 = .ok (.aload_n 0, 1) := by decide +kernel
theorem dX0_append_10 : decode cX0_append 10 = .ok (.getfield 9, 3) := by decide +kernel
theorem dX0_append_13 : decode cX0_append 13 = .ok (.aload_n 0, 1) := by decide +kernel
theorem dX0_append_14 : decode cX0_append 14 = .ok (.getfield 23, 3) := by decide +kernel
theorem dX0_append_17 : decode cX0_append 17 = .ok (.iload_n 1, 1) := by decide +kernel
theorem dX0_append_18 : decode cX0_append 18 = .ok (.iastore, 1) := by decide +kernel
theorem dX0_append_19 : decode cX0_append 19 = .ok (.aload_n 0, 1) := by decide +kernel
theorem dX0_append_20 : decode cX0_append 20 = .ok (.getfield 15, 3) := by decide +kernel
theorem dX0_append_23 : decode cX0_append 23 = .ok (.aload_n 0, 1) := by decide +kernel
theorem dX0_append_24 : decode cX0_append 24 = .ok (.getfield 23, 3) := by decide +kernel
theorem dX0_append_27 : decode cX0_append 27 = .ok (.lload_n 2, 1) := by decide +kernel
theorem dX0_append_28 : decode cX0_append 28 = .ok (.lastore, 1) := by decide +kernel
theorem dX0_append_29 : decode cX0_append 29 = .ok (.aload_n 0, 1) := by decide +kernel
theorem dX0_append_30 : decode cX0_append 30 = .ok (.getfield 19, 3) := by decide +kernel
theorem dX0_append_33 : decode cX0_append 33 = .ok (.aload_n 0, 1) := by decide +kernel
theorem dX0_append_34 : decode cX0_append 34 = .ok (.getfield 23, 3) := by decide +kernel
theorem dX0_append_37 : decode cX0_append 37 = .ok (.iconst 1, 1) := by decide +kernel
theorem dX0_append_38 : decode cX0_append 38 = .ok (.bastore, 1) := by decide +kernel
theorem dX0_append_39 : decode cX0_append 39 = .ok (.aload_n 0, 1) := by decide +kernel
theorem dX0_append_40 : decode cX0_append 40 = .ok (.dup, 1) := by decide +kernel
theorem dX0_append_41 : decode cX0_append 41 = .ok (.getfield 23, 3) := by decide +kernel
theorem dX0_append_44 : decode cX0_append 44 = .ok (.iconst 1, 1) := by decide +kernel
theorem dX0_append_45 : decode cX0_append 45 = .ok (.iadd, 1) := by decide +kernel
theorem dX0_append_46 : decode cX0_append 46 = .ok (.putfield 23, 3) := by decide +kernel
theorem dX0_append_49 : decode cX0_append 49 = .ok (.aload_n 0, 1) := by decide +kernel
theorem dX0_append_50 : decode cX0_append 50 = .ok (.getfield 23, 3) := by decide +kernel
theorem dX0_append_53 : decode cX0_append 53 = .ok (.iconst 1, 1) := by decide +kernel
theorem dX0_append_54 : decode cX0_append 54 = .ok (.isub, 1) := by decide +kernel
theorem dX0_append_55 : decode cX0_append 55 = .ok (.ireturn, 1) := by decide +kernel
theorem dX0_areUnlike_0 : decode cX0_areUnlike 0 = .ok (.aload_n 0, 1) := by decide +kernel
theorem dX0_areUnlike_1 : decode cX0_areUnlike 1 = .ok (.getfield 9, 3) := by decide +kernel
theorem dX0_areUnlike_4 : decode cX0_areUnlike 4 = .ok (.iload_n 1, 1) := by decide +kernel
theorem dX0_areUnlike_5 : decode cX0_areUnlike 5 = .ok (.iaload, 1) := by decide +kernel
theorem dX0_areUnlike_6 : decode cX0_areUnlike 6 = .ok (.aload_n 0, 1) := by decide +kernel
theorem dX0_areUnlike_7 : decode cX0_areUnlike 7 = .ok (.getfield 9, 3) := by decide +kernel
theorem dX0_areUnlike_10 : decode cX0_areUnlike 10 = .ok (.iload_n 2, 1) := by decide +kernel
theorem dX0_areUnlike_11 : decode cX0_areUnlike 11 = .ok (.iaload, 1) := by decide +kernel
theorem dX0_areUnlike_12 : decode cX0_areUnlike 12 = .ok (.if_icmp .ne 34, 3) := by decide +kernel
theorem dX0_areUnlike_15 : decode cX0_areUnlike 15 = .ok (.aload_n 0, 1) := by decide +kernel
theorem dX0_areUnlike_16 : decode cX0_areUnlike 16 = .ok (.getfield 15, 3) := by decide +kernel
theorem dX0_areUnlike_19 : decode cX0_areUnlike 19 = .ok (.iload_n 1, 1) := by decide +kernel
theorem dX0_areUnlike_20 : decode cX0_areUnlike 20 = .ok (.laload, 1) := by decide +kernel
theorem dX0_areUnlike_21 : decode cX0_areUnlike 21 = .ok (.aload_n 0, 1) := by decide +kernel
theorem dX0_areUnlike_22 : decode cX0_areUnlike 22 = .ok (.getfield 15, 3) := by decide +kernel
theorem dX0_areUnlike_25 : decode cX0_areUnlike 25 = .ok (.iload_n 2, 1) := by decide +kernel
theorem dX0_areUnlike_26 : decode cX0_areUnlike 26 = .ok (.laload, 1) := by decide +kernel
theorem dX0_areUnlike_27 : decode cX0_areUnlike 27 = .ok (.lcmp, 1) := by decide +kernel
theorem dX0_areUnlike_28 : decode cX0_areUnlike 28 = .ok (.ifCond .ne 18, 3) := by decide +kernel
theorem dX0_areUnlike_31 : decode cX0_areUnlike 31 = .ok (.aload_n 0, 1) := by decide +kernel
theorem dX0_areUnlike_32 : decode cX0_areUnlike 32 = .ok (.getfield 19, 3) := by decide +kernel
theorem dX0_areUnlike_35 : decode cX0_areUnlike 35 = .ok (.iload_n 1, 1) := by decide +kernel
theorem dX0_areUnlike_36 : decode cX0_areUnlike 36 = .ok (.baload, 1) := by decide +kernel
theorem dX0_areUnlike_37 : decode cX0_areUnlike 37 = .ok (.aload_n 0, 1) := by decide +kernel
theorem dX0_areUnlike_38 : decode cX0_areUnlike 38 = .ok (.getfield 19, 3) := by decide +kernel
theorem dX0_areUnlike_41 : decode cX0_areUnlike 41 = .ok (.iload_n 2, 1) := by decide +kernel
theorem dX0_areUnlike_42 : decode cX0_areUnlike 42 = .ok (.baload, 1) := by decide +kernel
theorem dX0_areUnlike_43 : decode cX0_areUnlike 43 = .ok (.if_icmp .eq 7, 3) := by decide +kernel
theorem dX0_areUnlike_46 : decode cX0_areUnlike 46 = .ok (.iconst 1, 1) := by decide +kernel
theorem dX0_areUnlike_47 : decode cX0_areUnlike 47 = .ok (.goto 4, 3) := by decide +kernel
theorem dX0_areUnlike_50 : decode cX0_areUnlike 50 = .ok (.iconst 0, 1) := by decide +kernel
theorem dX0_areUnlike_51 : decode cX0_areUnlike 51 = .ok (.ireturn, 1) := by decide +kernel
theorem dX0_exchange_0 : decode cX0_exchange 0 = .ok (.aload_n 0, 1) := by decide +kernel
theorem dX0_exchange_1 : decode cX0_exchange 1 = .ok (.getfield 9, 3) := by decide +kernel
theorem dX0_exchange_4 : decode cX0_exchange 4 = .ok (.iload_n 1, 1) := by decide +kernel
theorem dX0_exchange_5 : decode cX0_exchange 5 = .ok (.iaload, 1) := by decide +kernel
theorem dX0_exchange_6 : decode cX0_exchange 6 = .ok (.istore_n 3, 1) := by decide +kernel
theorem dX0_exchange_7 : decode cX0_exchange 7 = .ok (.aload_n 0, 1) := by decide +kernel
theorem dX0_exchange_8 : decode cX0_exchange 8 = .ok (.getfield 9, 3) := by decide +kernel
theorem dX0_exchange_11 : decode cX0_exchange 11 = .ok (.iload_n 1, 1) := by decide +kernel
theorem dX0_exchange_12 : decode cX0_exchange 12 = .ok (.aload_n 0, 1) := by decide +kernel
theorem dX0_exchange_13 : decode cX0_exchange 13 = .ok (.getfield 9, 3) := by decide +kernel
theorem dX0_exchange_16 : decode cX0_exchange 16 = .ok (.iload_n 2, 1) := by decide +kernel
theorem dX0_exchange_17 : decode cX0_exchange 17 = .ok (.iaload, 1) := by decide +kernel
theorem dX0_exchange_18 : decode cX0_exchange 18 = .ok (.iastore, 1) := by decide +kernel
theorem dX0_exchange_19 : decode cX0_exchange 19 = .ok (.aload_n 0, 1) := by decide +kernel
theorem dX0_exchange_20 : decode cX0_exchange 20 = .ok (.getfield 9, 3) := by decide +kernel
theorem dX0_exchange_23 : decode cX0_exchange 23 = .ok (.iload_n 2, 1) := by decide +kernel
theorem dX0_exchange_24 : decode cX0_exchange 24 = .ok (.iload_n 3, 1) := by decide +kernel
theorem dX0_exchange_25 : decode cX0_exchange 25 = .ok (.iastore, 1) := by decide +kernel
theorem dX0_exchange_26 : decode cX0_exchange 26 = .ok (.aload_n 0, 1) := by decide +kernel
theorem dX0_exchange_27 : decode cX0_exchange 27 = .ok (.getfield 15, 3) := by decide +kernel
theorem dX0_exchange_30 : decode cX0_exchange 30 = .ok (.iload_n 1, 1) := by decide +kernel
theorem dX0_exchange_31 : decode cX0_exchange 31 = .ok (.laload, 1) := by decide +kernel
theorem dX0_exchange_32 : decode cX0_exchange 32 = .ok (.lstore 4, 2) := by decide +kernel
theorem dX0_exchange_34 : decode cX0_exchange 34 = .ok (.aload_n 0, 1) := by decide +kernel
theorem dX0_exchange_35 : decode cX0_exchange 35 = .ok (.getfield 15, 3) := by decide +kernel
theorem dX0_exchange_38 : decode cX0_exchange 38 = .ok (.iload_n 1, 1) := by decide +kernel
theorem dX0_exchange_39 : decode cX0_exchange 39 = .ok (.aload_n 0, 1) := by decide +kernel
theorem dX0_exchange_40 : decode cX0_exchange 40 = .ok (.getfield 15, 3) := by decide +kernel
theorem dX0_exchange_43 : decode cX0_exchange 43 = .ok (.iload_n 2, 1) := by decide +kernel
theorem dX0_exchange_44 : decode cX0_exchange 44 = .ok (.laload, 1) := by decide +kernel
theorem dX0_exchange_45 : decode cX0_exchange 45 = .ok (.lastore, 1) := by decide +kernel
theorem dX0_exchange_46 : decode cX0_exchange 46 = .ok (.aload_n 0, 1) := by decide +kernel
theorem dX0_exchange_47 : decode cX0_exchange 47 = .ok (.getfield 15, 3) := by decide +kernel
theorem dX0_exchange_50 : decode cX0_exchange 50 = .ok (.iload_n 2, 1) := by decide +kernel
theorem dX0_exchange_51 : decode cX0_exchange 51 = .ok (.lload 4, 2) := by decide +kernel
theorem dX0_exchange_53 : decode cX0_exchange 53 = .ok (.lastore, 1) := by decide +kernel
theorem dX0_exchange_54 : decode cX0_exchange 54 = .ok (.aload_n 0, 1) := by decide +kernel
theorem dX0_exchange_55 : decode cX0_exchange 55 = .ok (.getfield 19, 3) := by decide +kernel
theorem dX0_exchange_58 : decode cX0_exchange 58 = .ok (.iload_n 1, 1) := by decide +kernel
theorem dX0_exchange_59 : decode cX0_exchange 59 = .ok (.baload, 1) := by decide +kernel
theorem dX0_exchange_60 : decode cX0_exchange 60 = .ok (.istore 6, 2) := by decide +kernel
theorem dX0_exchange_62 : decode cX0_exchange 62 = .ok (.aload_n 0, 1) := by decide +kernel
theorem dX0_exchange_63 : decode cX0_exchange 63 = .ok (.getfield 19, 3) := by decide +kernel
theorem dX0_exchange_66 : decode cX0_exchange 66 = .ok (.iload_n 1, 1) := by decide +kernel
theorem dX0_exchange_67 : decode cX0_exchange 67 = .ok (.aload_n 0, 1) := by decide +kernel
theorem dX0_exchange_68 : decode cX0_exchange 68 = .ok (.getfield 19, 3) := by decide +kernel
theorem dX0_exchange_71 : decode cX0_exchange 71 = .ok (.iload_n 2, 1) := by decide +kernel
theorem dX0_exchange_72 : decode cX0_exchange 72 = .ok (.baload, 1) := by decide +kernel
theorem dX0_exchange_73 : decode cX0_exchange 73 = .ok (.bastore, 1) := by decide +kernel
theorem dX0_exchange_74 : decode cX0_exchange 74 = .ok (.aload_n 0, 1) := by decide +kernel
theorem dX0_exchange_75 : decode cX0_exchange 75 = .ok (.getfield 19, 3) := by decide +kernel
theorem dX0_exchange_78 : decode cX0_exchange 78 = .ok (.iload_n 2, 1) := by decide +kernel
theorem dX0_exchange_79 : decode cX0_exchange 79 = .ok (.iload 6, 2) := by decide +kernel
theorem dX0_exchange_81 : decode cX0_exchange 81 = .ok (.bastore, 1) := by decide +kernel
theorem dX0_exchange_82 : decode cX0_exchange 82 = .ok (.return_, 1) := by decide +kernel
theorem dX0_become_0 : decode cX0_become 0 = .ok (.iconst 0, 1) := by decide +kernel
theorem dX0_become_1 : decode cX0_become 1 = .ok (.istore_n 2, 1) := by decide +kernel
theorem dX0_become_2 : decode cX0_become 2 = .ok (.iload_n 2, 1) := by decide +kernel
theorem dX0_become_3 : decode cX0_become 3 = .ok (.aload_n 1, 1) := by decide +kernel
theorem dX0_become_4 : decode cX0_become 4 = .ok (.getfield 23, 3) := by decide +kernel
theorem dX0_become_7 : decode cX0_become 7 = .ok (.if_icmp .ge 45, 3) := by decide +kernel
theorem dX0_become_10 : decode cX0_become 10 = .ok (.aload_n 0, 1) := by decide +kernel
theorem dX0_become_11 : decode cX0_become 11 = .ok (.getfield 9, 3) := by decide +kernel
theorem dX0_become_14 : decode cX0_become 14 = .ok (.iload_n 2, 1) := by decide +kernel
theorem dX0_become_15 : decode cX0_become 15 = .ok (.aload_n 1, 1) := by decide +kernel
theorem dX0_become_16 : decode cX0_become 16 = .ok (.getfield 9, 3) := by decide +kernel
theorem dX0_become_19 : decode cX0_become 19 = .ok (.iload_n 2, 1) := by decide +kernel
theorem dX0_become_20 : decode cX0_become 20 = .ok (.iaload, 1) := by decide +kernel
theorem dX0_become_21 : decode cX0_become 21 = .ok (.iastore, 1) := by decide +kernel
theorem dX0_become_22 : decode cX0_become 22 = .ok (.aload_n 0, 1) := by decide +kernel
theorem dX0_become_23 : decode cX0_become 23 = .ok (.getfield 15, 3) := by decide +kernel
theorem dX0_become_26 : decode cX0_become 26 = .ok (.iload_n 2, 1) := by decide +kernel
theorem dX0_become_27 : decode cX0_become 27 = .ok (.aload_n 1, 1) := by decide +kernel
theorem dX0_become_28 : decode cX0_become 28 = .ok (.getfield 15, 3) := by decide +kernel
theorem dX0_become_31 : decode cX0_become 31 = .ok (.iload_n 2, 1) := by decide +kernel
theorem dX0_become_32 : decode cX0_become 32 = .ok (.laload, 1) := by decide +kernel
theorem dX0_become_33 : decode cX0_become 33 = .ok (.lastore, 1) := by decide +kernel
theorem dX0_become_34 : decode cX0_become 34 = .ok (.aload_n 0, 1) := by decide +kernel
theorem dX0_become_35 : decode cX0_become 35 = .ok (.getfield 19, 3) := by decide +kernel
theorem dX0_become_38 : decode cX0_become 38 = .ok (.iload_n 2, 1) := by decide +kernel
theorem dX0_become_39 : decode cX0_become 39 = .ok (.aload_n 1, 1) := by decide +kernel
theorem dX0_become_40 : decode cX0_become 40 = .ok (.getfield 19, 3) := by decide +kernel
theorem dX0_become_43 : decode cX0_become 43 = .ok (.iload_n 2, 1) := by decide +kernel
theorem dX0_become_44 : decode cX0_become 44 = .ok (.baload, 1) := by decide +kernel
theorem dX0_become_45 : decode cX0_become 45 = .ok (.bastore, 1) := by decide +kernel
theorem dX0_become_46 : decode cX0_become 46 = .ok (.iinc 2 1, 3) := by decide +kernel
theorem dX0_become_49 : decode cX0_become 49 = .ok (.goto (-47), 3) := by decide +kernel
theorem dX0_become_52 : decode cX0_become 52 = .ok (.aload_n 0, 1) := by decide +kernel
theorem dX0_become_53 : decode cX0_become 53 = .ok (.aload_n 1, 1) := by decide +kernel
theorem dX0_become_54 : decode cX0_become 54 = .ok (.getfield 23, 3) := by decide +kernel
theorem dX0_become_57 : decode cX0_become 57 = .ok (.putfield 23, 3) := by decide +kernel
theorem dX0_become_60 : decode cX0_become 60 = .ok (.return_, 1) := by decide +kernel
theorem dX0_countOn_0 : decode cX0_countOn 0 = .ok (.iconst 0, 1) := by decide +kernel
theorem dX0_countOn_1 : decode cX0_countOn 1 = .ok (.istore_n 1, 1) := by decide +kernel
theorem dX0_countOn_2 : decode cX0_countOn 2 = .ok (.iconst 0, 1) := by decide +kernel
theorem dX0_countOn_3 : decode cX0_countOn 3 = .ok (.istore_n 2, 1) := by decide +kernel
theorem dX0_countOn_4 : decode cX0_countOn 4 = .ok (.iload_n 2, 1) := by decide +kernel
theorem dX0_countOn_5 : decode cX0_countOn 5 = .ok (.aload_n 0, 1) := by decide +kernel
theorem dX0_countOn_6 : decode cX0_countOn 6 = .ok (.getfield 23, 3) := by decide +kernel
theorem dX0_countOn_9 : decode cX0_countOn 9 = .ok (.if_icmp .ge 21, 3) := by decide +kernel
theorem dX0_countOn_12 : decode cX0_countOn 12 = .ok (.aload_n 0, 1) := by decide +kernel
theorem dX0_countOn_13 : decode cX0_countOn 13 = .ok (.getfield 19, 3) := by decide +kernel
theorem dX0_countOn_16 : decode cX0_countOn 16 = .ok (.iload_n 2, 1) := by decide +kernel
theorem dX0_countOn_17 : decode cX0_countOn 17 = .ok (.baload, 1) := by decide +kernel
theorem dX0_countOn_18 : decode cX0_countOn 18 = .ok (.ifCond .eq 6, 3) := by decide +kernel
theorem dX0_countOn_21 : decode cX0_countOn 21 = .ok (.iinc 1 1, 3) := by decide +kernel
theorem dX0_countOn_24 : decode cX0_countOn 24 = .ok (.iinc 2 1, 3) := by decide +kernel
theorem dX0_countOn_27 : decode cX0_countOn 27 = .ok (.goto (-23), 3) := by decide +kernel
theorem dX0_countOn_30 : decode cX0_countOn 30 = .ok (.iload_n 1, 1) := by decide +kernel
theorem dX0_countOn_31 : decode cX0_countOn 31 = .ok (.ireturn, 1) := by decide +kernel
theorem dX1_isWhole_0 : decode cX1_isWhole 0 = .ok (.aload_n 0, 1) := by decide +kernel
theorem dX1_isWhole_1 : decode cX1_isWhole 1 = .ok (.getfield 41, 3) := by decide +kernel
theorem dX1_isWhole_4 : decode cX1_isWhole 4 = .ok (.ifCond .ne 7, 3) := by decide +kernel
theorem dX1_isWhole_7 : decode cX1_isWhole 7 = .ok (.iconst 1, 1) := by decide +kernel
theorem dX1_isWhole_8 : decode cX1_isWhole 8 = .ok (.goto 4, 3) := by decide +kernel
theorem dX1_isWhole_11 : decode cX1_isWhole 11 = .ok (.iconst 0, 1) := by decide +kernel
theorem dX1_isWhole_12 : decode cX1_isWhole 12 = .ok (.ireturn, 1) := by decide +kernel
theorem dX1_infinite_0 : decode cX1_infinite 0 = .ok (.ldc2_w 51, 3) := by decide +kernel
theorem dX1_infinite_3 : decode cX1_infinite 3 = .ok (.aload_n 0, 1) := by decide +kernel
theorem dX1_infinite_4 : decode cX1_infinite 4 = .ok (.getfield 44, 3) := by decide +kernel
theorem dX1_infinite_7 : decode cX1_infinite 7 = .ok (.i2l, 1) := by decide +kernel
theorem dX1_infinite_8 : decode cX1_infinite 8 = .ok (.lmul, 1) := by decide +kernel
theorem dX1_infinite_9 : decode cX1_infinite 9 = .ok (.lconst 1, 1) := by decide +kernel
theorem dX1_infinite_10 : decode cX1_infinite 10 = .ok (.ladd, 1) := by decide +kernel
theorem dX1_infinite_11 : decode cX1_infinite 11 = .ok (.aload_n 0, 1) := by decide +kernel
theorem dX1_infinite_12 : decode cX1_infinite 12 = .ok (.getfield 41, 3) := by decide +kernel
theorem dX1_infinite_15 : decode cX1_infinite 15 = .ok (.lshl, 1) := by decide +kernel
theorem dX1_infinite_16 : decode cX1_infinite 16 = .ok (.lreturn, 1) := by decide +kernel
theorem dX1_one_0 : decode cX1_one 0 = .ok (.aload_n 0, 1) := by decide +kernel
theorem dX1_one_1 : decode cX1_one 1 = .ok (.getfield 44, 3) := by decide +kernel
theorem dX1_one_4 : decode cX1_one 4 = .ok (.i2l, 1) := by decide +kernel
theorem dX1_one_5 : decode cX1_one 5 = .ok (.aload_n 0, 1) := by decide +kernel
theorem dX1_one_6 : decode cX1_one 6 = .ok (.getfield 41, 3) := by decide +kernel
theorem dX1_one_9 : decode cX1_one 9 = .ok (.lshl, 1) := by decide +kernel
theorem dX1_one_10 : decode cX1_one 10 = .ok (.lreturn, 1) := by decide +kernel
theorem dX1_oneHalf_0 : decode cX1_oneHalf 0 = .ok (.aload_n 0, 1) := by decide +kernel
theorem dX1_oneHalf_1 : decode cX1_oneHalf 1 = .ok (.getfield 44, 3) := by decide +kernel
theorem dX1_oneHalf_4 : decode cX1_oneHalf 4 = .ok (.i2l, 1) := by decide +kernel
theorem dX1_oneHalf_5 : decode cX1_oneHalf 5 = .ok (.lconst 1, 1) := by decide +kernel
theorem dX1_oneHalf_6 : decode cX1_oneHalf 6 = .ok (.lsub, 1) := by decide +kernel
theorem dX1_oneHalf_7 : decode cX1_oneHalf 7 = .ok (.aload_n 0, 1) := by decide +kernel
theorem dX1_oneHalf_8 : decode cX1_oneHalf 8 = .ok (.getfield 41, 3) := by decide +kernel
theorem dX1_oneHalf_11 : decode cX1_oneHalf 11 = .ok (.lshl, 1) := by decide +kernel
theorem dX1_oneHalf_12 : decode cX1_oneHalf 12 = .ok (.lreturn, 1) := by decide +kernel
theorem dX1_codeOf_0 : decode cX1_codeOf 0 = .ok (.aload_n 0, 1) := by decide +kernel
theorem dX1_codeOf_1 : decode cX1_codeOf 1 = .ok (.getfield 37, 3) := by decide +kernel
theorem dX1_codeOf_4 : decode cX1_codeOf 4 = .ok (.bipush 32, 2) := by decide +kernel
theorem dX1_codeOf_6 : decode cX1_codeOf 6 = .ok (.if_icmp .ne 8, 3) := by decide +kernel
theorem dX1_codeOf_9 : decode cX1_codeOf 9 = .ok (.iload_n 2, 1) := by decide +kernel
theorem dX1_codeOf_10 : decode cX1_codeOf 10 = .ok (.i2l, 1) := by decide +kernel
theorem dX1_codeOf_11 : decode cX1_codeOf 11 = .ok (.goto 15, 3) := by decide +kernel
theorem dX1_codeOf_14 : decode cX1_codeOf 14 = .ok (.iload_n 1, 1) := by decide +kernel
theorem dX1_codeOf_15 : decode cX1_codeOf 15 = .ok (.i2l, 1) := by decide +kernel
theorem dX1_codeOf_16 : decode cX1_codeOf 16 = .ok (.bipush 32, 2) := by decide +kernel
theorem dX1_codeOf_18 : decode cX1_codeOf 18 = .ok (.lshl, 1) := by decide +kernel
theorem dX1_codeOf_19 : decode cX1_codeOf 19 = .ok (.iload_n 2, 1) := by decide +kernel
theorem dX1_codeOf_20 : decode cX1_codeOf 20 = .ok (.i2l, 1) := by decide +kernel
theorem dX1_codeOf_21 : decode cX1_codeOf 21 = .ok (.ldc2_w 53, 3) := by decide +kernel
theorem dX1_codeOf_24 : decode cX1_codeOf 24 = .ok (.land, 1) := by decide +kernel
theorem dX1_codeOf_25 : decode cX1_codeOf 25 = .ok (.lor, 1) := by decide +kernel
theorem dX1_codeOf_26 : decode cX1_codeOf 26 = .ok (.lreturn, 1) := by decide +kernel
set_option maxRecDepth 20000 in
theorem ggX1_isIll_X1_isWhole : GoodIn wsX1_isIll wsX1_isWhole := goodIn_r _ [6, 7] (by decide +kernel) (by decide +kernel)
set_option maxRecDepth 20000 in
theorem gX1_isIll_X1_isWhole : GoodIn wsX1_isIll (wsV RX1 55 RX1 yX1_isWhole wsX1_isWhole) := goodIn_app (goodIn_of _ (by decide +kernel)) ggX1_isIll_X1_isWhole
set_option maxRecDepth 20000 in
theorem ggX1_isIll_X1_infinite : GoodIn wsX1_isIll wsX1_infinite := goodIn_r _ [11, 12, 13, 7] (by decide +kernel) (by decide +kernel)
set_option maxRecDepth 20000 in
theorem gX1_isIll_X1_infinite : GoodIn wsX1_isIll (wsV RX1 59 RX1 yX1_infinite wsX1_infinite) := goodIn_app (goodIn_of _ (by decide +kernel)) ggX1_isIll_X1_infinite
theorem dX1_isIll_0 : decode cX1_isIll 0 = .ok (.aload_n 0, 1) := by decide +kernel
theorem dX1_isIll_1 : decode cX1_isIll 1 = .ok (.invokevirtual 55, 3) := by decide +kernel
theorem dX1_isIll_4 : decode cX1_isIll 4 = .ok (.ifCond .ne 21, 3) := by decide +kernel
theorem dX1_isIll_7 : decode cX1_isIll 7 = .ok (.lload_n 1, 1) := by decide +kernel
theorem dX1_isIll_8 : decode cX1_isIll 8 = .ok (.aload_n 0, 1) := by decide +kernel
theorem dX1_isIll_9 : decode cX1_isIll 9 = .ok (.getfield 47, 3) := by decide +kernel
theorem dX1_isIll_12 : decode cX1_isIll 12 = .ok (.land, 1) := by decide +kernel
theorem dX1_isIll_13 : decode cX1_isIll 13 = .ok (.aload_n 0, 1) := by decide +kernel
theorem dX1_isIll_14 : decode cX1_isIll 14 = .ok (.invokevirtual 59, 3) := by decide +kernel
theorem dX1_isIll_17 : decode cX1_isIll 17 = .ok (.lcmp, 1) := by decide +kernel
theorem dX1_isIll_18 : decode cX1_isIll 18 = .ok (.ifCond .le 7, 3) := by decide +kernel
theorem dX1_isIll_21 : decode cX1_isIll 21 = .ok (.iconst 1, 1) := by decide +kernel
theorem dX1_isIll_22 : decode cX1_isIll 22 = .ok (.goto 4, 3) := by decide +kernel
theorem dX1_isIll_25 : decode cX1_isIll 25 = .ok (.iconst 0, 1) := by decide +kernel
theorem dX1_isIll_26 : decode cX1_isIll 26 = .ok (.ireturn, 1) := by decide +kernel
set_option maxRecDepth 20000 in
theorem ggX1_isZero_X1_isWhole : GoodIn wsX1_isZero wsX1_isWhole := goodIn_r _ [6, 7] (by decide +kernel) (by decide +kernel)
set_option maxRecDepth 20000 in
theorem gX1_isZero_X1_isWhole : GoodIn wsX1_isZero (wsV RX1 55 RX1 yX1_isWhole wsX1_isWhole) := goodIn_app (goodIn_of _ (by decide +kernel)) ggX1_isZero_X1_isWhole
theorem dX1_isZero_0 : decode cX1_isZero 0 = .ok (.aload_n 0, 1) := by decide +kernel
theorem dX1_isZero_1 : decode cX1_isZero 1 = .ok (.invokevirtual 55, 3) := by decide +kernel
theorem dX1_isZero_4 : decode cX1_isZero 4 = .ok (.ifCond .eq 17, 3) := by decide +kernel
theorem dX1_isZero_7 : decode cX1_isZero 7 = .ok (.lload_n 1, 1) := by decide +kernel
theorem dX1_isZero_8 : decode cX1_isZero 8 = .ok (.lconst 0, 1) := by decide +kernel
theorem dX1_isZero_9 : decode cX1_isZero 9 = .ok (.lcmp, 1) := by decide +kernel
theorem dX1_isZero_10 : decode cX1_isZero 10 = .ok (.ifCond .ne 7, 3) := by decide +kernel
theorem dX1_isZero_13 : decode cX1_isZero 13 = .ok (.iconst 1, 1) := by decide +kernel
theorem dX1_isZero_14 : decode cX1_isZero 14 = .ok (.goto 23, 3) := by decide +kernel
theorem dX1_isZero_17 : decode cX1_isZero 17 = .ok (.iconst 0, 1) := by decide +kernel
theorem dX1_isZero_18 : decode cX1_isZero 18 = .ok (.goto 19, 3) := by decide +kernel
theorem dX1_isZero_21 : decode cX1_isZero 21 = .ok (.lload_n 1, 1) := by decide +kernel
theorem dX1_isZero_22 : decode cX1_isZero 22 = .ok (.aload_n 0, 1) := by decide +kernel
theorem dX1_isZero_23 : decode cX1_isZero 23 = .ok (.getfield 47, 3) := by decide +kernel
theorem dX1_isZero_26 : decode cX1_isZero 26 = .ok (.land, 1) := by decide +kernel
theorem dX1_isZero_27 : decode cX1_isZero 27 = .ok (.lconst 0, 1) := by decide +kernel
theorem dX1_isZero_28 : decode cX1_isZero 28 = .ok (.lcmp, 1) := by decide +kernel
theorem dX1_isZero_29 : decode cX1_isZero 29 = .ok (.ifCond .ne 7, 3) := by decide +kernel
theorem dX1_isZero_32 : decode cX1_isZero 32 = .ok (.iconst 1, 1) := by decide +kernel
theorem dX1_isZero_33 : decode cX1_isZero 33 = .ok (.goto 4, 3) := by decide +kernel
theorem dX1_isZero_36 : decode cX1_isZero 36 = .ok (.iconst 0, 1) := by decide +kernel
theorem dX1_isZero_37 : decode cX1_isZero 37 = .ok (.ireturn, 1) := by decide +kernel
set_option maxRecDepth 20000 in
theorem ggX1_hasKind_X1_isWhole : GoodIn wsX1_hasKind wsX1_isWhole := goodIn_r _ [5, 6] (by decide +kernel) (by decide +kernel)
set_option maxRecDepth 20000 in
theorem gX1_hasKind_X1_isWhole : GoodIn wsX1_hasKind (wsV RX1 55 RX1 yX1_isWhole wsX1_isWhole) := goodIn_app (goodIn_of _ (by decide +kernel)) ggX1_hasKind_X1_isWhole
theorem dX1_hasKind_0 : decode cX1_hasKind 0 = .ok (.iload_n 1, 1) := by decide +kernel
theorem dX1_hasKind_1 : decode cX1_hasKind 1 = .ok (.iconst 3, 1) := by decide +kernel
theorem dX1_hasKind_2 : decode cX1_hasKind 2 = .ok (.if_icmp .lt 22, 3) := by decide +kernel
theorem dX1_hasKind_5 : decode cX1_hasKind 5 = .ok (.iload_n 1, 1) := by decide +kernel
theorem dX1_hasKind_6 : decode cX1_hasKind 6 = .ok (.bipush 7, 2) := by decide +kernel
theorem dX1_hasKind_8 : decode cX1_hasKind 8 = .ok (.if_icmp .gt 16, 3) := by decide +kernel
theorem dX1_hasKind_11 : decode cX1_hasKind 11 = .ok (.aload_n 0, 1) := by decide +kernel
theorem dX1_hasKind_12 : decode cX1_hasKind 12 = .ok (.invokevirtual 55, 3) := by decide +kernel
theorem dX1_hasKind_15 : decode cX1_hasKind 15 = .ok (.ifCond .ne 7, 3) := by decide +kernel
theorem dX1_hasKind_18 : decode cX1_hasKind 18 = .ok (.iconst 1, 1) := by decide +kernel
theorem dX1_hasKind_19 : decode cX1_hasKind 19 = .ok (.goto 4, 3) := by decide +kernel
theorem dX1_hasKind_22 : decode cX1_hasKind 22 = .ok (.iconst 0, 1) := by decide +kernel
theorem dX1_hasKind_23 : decode cX1_hasKind 23 = .ok (.ireturn, 1) := by decide +kernel
theorem dX1_hasKind_24 : decode cX1_hasKind 24 = .ok (.iload_n 1, 1) := by decide +kernel
theorem dX1_hasKind_25 : decode cX1_hasKind 25 = .ok (.ifCond .lt 13, 3) := by decide +kernel
theorem dX1_hasKind_28 : decode cX1_hasKind 28 = .ok (.iload_n 1, 1) := by decide +kernel
theorem dX1_hasKind_29 : decode cX1_hasKind 29 = .ok (.bipush 8, 2) := by decide +kernel
theorem dX1_hasKind_31 : decode cX1_hasKind 31 = .ok (.if_icmp .gt 7, 3) := by decide +kernel
theorem dX1_hasKind_34 : decode cX1_hasKind 34 = .ok (.iconst 1, 1) := by decide +kernel
theorem dX1_hasKind_35 : decode cX1_hasKind 35 = .ok (.goto 4, 3) := by decide +kernel
theorem dX1_hasKind_38 : decode cX1_hasKind 38 = .ok (.iconst 0, 1) := by decide +kernel
theorem dX1_hasKind_39 : decode cX1_hasKind 39 = .ok (.ireturn, 1) := by decide +kernel
set_option maxRecDepth 20000 in
theorem ggX1_isLess_X1_rank : GoodIn wsX1_isLess wsX1_rank := goodIn_r _ [5, 6, 7, 8, 9, 4, 10, 11] (by decide +kernel) (by decide +kernel)
set_option maxRecDepth 20000 in
theorem gX1_isLess_X1_rank : GoodIn wsX1_isLess (wsV RX1 63 RX1 yX1_rank wsX1_rank) := goodIn_app (goodIn_of _ (by decide +kernel)) ggX1_isLess_X1_rank
theorem dX1_isLess_0 : decode cX1_isLess 0 = .ok (.aload_n 0, 1) := by decide +kernel
theorem dX1_isLess_1 : decode cX1_isLess 1 = .ok (.lload_n 1, 1) := by decide +kernel
theorem dX1_isLess_2 : decode cX1_isLess 2 = .ok (.invokevirtual 63, 3) := by decide +kernel
theorem dX1_isLess_5 : decode cX1_isLess 5 = .ok (.aload_n 0, 1) := by decide +kernel
theorem dX1_isLess_6 : decode cX1_isLess 6 = .ok (.lload_n 3, 1) := by decide +kernel
theorem dX1_isLess_7 : decode cX1_isLess 7 = .ok (.invokevirtual 63, 3) := by decide +kernel
theorem dX1_isLess_10 : decode cX1_isLess 10 = .ok (.lcmp, 1) := by decide +kernel
theorem dX1_isLess_11 : decode cX1_isLess 11 = .ok (.ifCond .ge 7, 3) := by decide +kernel
theorem dX1_isLess_14 : decode cX1_isLess 14 = .ok (.iconst 1, 1) := by decide +kernel
theorem dX1_isLess_15 : decode cX1_isLess 15 = .ok (.goto 4, 3) := by decide +kernel
theorem dX1_isLess_18 : decode cX1_isLess 18 = .ok (.iconst 0, 1) := by decide +kernel
theorem dX1_isLess_19 : decode cX1_isLess 19 = .ok (.ireturn, 1) := by decide +kernel
set_option maxRecDepth 20000 in
theorem ggX1_rank_X1_isWhole : GoodIn wsX1_rank wsX1_isWhole := goodIn_r _ [6, 7] (by decide +kernel) (by decide +kernel)
set_option maxRecDepth 20000 in
theorem gX1_rank_X1_isWhole : GoodIn wsX1_rank (wsV RX1 55 RX1 yX1_isWhole wsX1_isWhole) := goodIn_app (goodIn_of _ (by decide +kernel)) ggX1_rank_X1_isWhole
theorem dX1_rank_0 : decode cX1_rank 0 = .ok (.aload_n 0, 1) := by decide +kernel
theorem dX1_rank_1 : decode cX1_rank 1 = .ok (.invokevirtual 55, 3) := by decide +kernel
theorem dX1_rank_4 : decode cX1_rank 4 = .ok (.ifCond .ne 18, 3) := by decide +kernel
theorem dX1_rank_7 : decode cX1_rank 7 = .ok (.lload_n 1, 1) := by decide +kernel
theorem dX1_rank_8 : decode cX1_rank 8 = .ok (.lconst 0, 1) := by decide +kernel
theorem dX1_rank_9 : decode cX1_rank 9 = .ok (.lcmp, 1) := by decide +kernel
theorem dX1_rank_10 : decode cX1_rank 10 = .ok (.ifCond .ge 12, 3) := by decide +kernel
theorem dX1_rank_13 : decode cX1_rank 13 = .ok (.lload_n 1, 1) := by decide +kernel
theorem dX1_rank_14 : decode cX1_rank 14 = .ok (.aload_n 0, 1) := by decide +kernel
theorem dX1_rank_15 : decode cX1_rank 15 = .ok (.getfield 47, 3) := by decide +kernel
theorem dX1_rank_18 : decode cX1_rank 18 = .ok (.lxor, 1) := by decide +kernel
theorem dX1_rank_19 : decode cX1_rank 19 = .ok (.goto 4, 3) := by decide +kernel
theorem dX1_rank_22 : decode cX1_rank 22 = .ok (.lload_n 1, 1) := by decide +kernel
theorem dX1_rank_23 : decode cX1_rank 23 = .ok (.lreturn, 1) := by decide +kernel
set_option maxRecDepth 20000 in
theorem ggX1_through_X1_withOtherSign : GoodIn wsX1_through wsX1_withOtherSign := goodIn_r _ [5, 6, 7, 8, 9, 10, 4, 11, 12, 13, 14, 15, 16, 17] (by decide +kernel) (by decide +kernel)
set_option maxRecDepth 20000 in
theorem gX1_through_X1_withOtherSign : GoodIn wsX1_through (wsV RX1 67 RX1 yX1_withOtherSign wsX1_withOtherSign) := goodIn_app (goodIn_of _ (by decide +kernel)) ggX1_through_X1_withOtherSign
set_option maxRecDepth 20000 in
theorem ggX1_through_X1_isLess : GoodIn wsX1_through wsX1_isLess := goodIn_r _ [21, 22, 23, 24, 4, 25, 6, 8, 9, 10, 11, 12] (by decide +kernel) (by decide +kernel)
set_option maxRecDepth 20000 in
theorem gX1_through_X1_isLess : GoodIn wsX1_through (wsV RX1 70 RX1 yX1_isLess wsX1_isLess) := goodIn_app (goodIn_of _ (by decide +kernel)) ggX1_through_X1_isLess
set_option maxRecDepth 20000 in
theorem ggX1_through_X1_wholeSize : GoodIn wsX1_through wsX1_wholeSize := goodIn_r _ [29, 6, 12, 30, 31, 32, 33, 4, 34, 35, 36, 37, 38, 39, 40, 41, 42, 43, 44] (by decide +kernel) (by decide +kernel)
set_option maxRecDepth 20000 in
theorem gX1_through_X1_wholeSize : GoodIn wsX1_through (wsV RX1 74 RX1 yX1_wholeSize wsX1_wholeSize) := goodIn_app (goodIn_of _ (by decide +kernel)) ggX1_through_X1_wholeSize
set_option maxRecDepth 20000 in
theorem ggX1_through_X1_withSignOf : GoodIn wsX1_through wsX1_withSignOf := goodIn_r _ [48, 6, 7] (by decide +kernel) (by decide +kernel)
set_option maxRecDepth 20000 in
theorem gX1_through_X1_withSignOf : GoodIn wsX1_through (wsV RX1 78 RX1 yX1_withSignOf wsX1_withSignOf) := goodIn_app (goodIn_of _ (by decide +kernel)) ggX1_through_X1_withSignOf
set_option maxRecDepth 20000 in
theorem ggX1_through_X1_isZero : GoodIn wsX1_through wsX1_isZero := goodIn_r _ [52, 6, 8, 9, 10, 4, 11, 12] (by decide +kernel) (by decide +kernel)
set_option maxRecDepth 20000 in
theorem gX1_through_X1_isZero : GoodIn wsX1_through (wsV RX1 82 RX1 yX1_isZero wsX1_isZero) := goodIn_app (goodIn_of _ (by decide +kernel)) ggX1_through_X1_isZero
set_option maxRecDepth 20000 in
theorem ggX1_through_X1_one : GoodIn wsX1_through wsX1_one := goodIn_r _ [41, 30, 12] (by decide +kernel) (by decide +kernel)
set_option maxRecDepth 20000 in
theorem gX1_through_X1_one : GoodIn wsX1_through (wsV RX1 86 RX1 yX1_one wsX1_one) := goodIn_app (goodIn_of _ (by decide +kernel)) ggX1_through_X1_one
theorem dX1_through_0 : decode cX1_through 0 = .ok (.iload_n 1, 1) := by decide +kernel
theorem dX1_through_1 : decode cX1_through 1 = .ok (.tableswitch 158 0 8 #[51, 70, 87, 104, 104, 104, 118, 143, 151], 51) := by decide +kernel
theorem dX1_through_52 : decode cX1_through 52 = .ok (.lload 4, 2) := by decide +kernel
theorem dX1_through_54 : decode cX1_through 54 = .ok (.lconst 0, 1) := by decide +kernel
theorem dX1_through_55 : decode cX1_through 55 = .ok (.lcmp, 1) := by decide +kernel
theorem dX1_through_56 : decode cX1_through 56 = .ok (.ifCond .ge 12, 3) := by decide +kernel
theorem dX1_through_59 : decode cX1_through 59 = .ok (.aload_n 0, 1) := by decide +kernel
theorem dX1_through_60 : decode cX1_through 60 = .ok (.lload 4, 2) := by decide +kernel
theorem dX1_through_62 : decode cX1_through 62 = .ok (.invokevirtual 67, 3) := by decide +kernel
theorem dX1_through_65 : decode cX1_through 65 = .ok (.goto 5, 3) := by decide +kernel
theorem dX1_through_68 : decode cX1_through 68 = .ok (.lload 4, 2) := by decide +kernel
theorem dX1_through_70 : decode cX1_through 70 = .ok (.lreturn, 1) := by decide +kernel
theorem dX1_through_71 : decode cX1_through 71 = .ok (.aload_n 0, 1) := by decide +kernel
theorem dX1_through_72 : decode cX1_through 72 = .ok (.lload_n 2, 1) := by decide +kernel
theorem dX1_through_73 : decode cX1_through 73 = .ok (.lload 4, 2) := by decide +kernel
theorem dX1_through_75 : decode cX1_through 75 = .ok (.invokevirtual 70, 3) := by decide +kernel
theorem dX1_through_78 : decode cX1_through 78 = .ok (.ifCond .eq 7, 3) := by decide +kernel
theorem dX1_through_81 : decode cX1_through 81 = .ok (.lload_n 2, 1) := by decide +kernel
theorem dX1_through_82 : decode cX1_through 82 = .ok (.goto 5, 3) := by decide +kernel
theorem dX1_through_85 : decode cX1_through 85 = .ok (.lload 4, 2) := by decide +kernel
theorem dX1_through_87 : decode cX1_through 87 = .ok (.lreturn, 1) := by decide +kernel
theorem dX1_through_88 : decode cX1_through 88 = .ok (.aload_n 0, 1) := by decide +kernel
theorem dX1_through_89 : decode cX1_through 89 = .ok (.lload 4, 2) := by decide +kernel
