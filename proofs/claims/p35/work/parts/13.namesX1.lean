set_option maxRecDepth 20000 in
theorem ggX1_init_X0_init : GoodIn wsX1_init wsX0_init := goodIn_r _ [10, 11, 2, 3, 12, 13, 14, 20, 21, 22, 23, 24] (by decide +kernel) (by decide +kernel)
set_option maxRecDepth 20000 in
theorem gX1_init_X0_init_n15 : GoodIn wsX1_init (wsX0_init) := ggX1_init_X0_init
theorem dX1_init_0 : decode cX1_init 0 = .ok (.aload_n 0, 1) := by decide +kernel
theorem dX1_init_1 : decode cX1_init 1 = .ok (.invokespecial 1, 3) := by decide +kernel
theorem dX1_init_4 : decode cX1_init 4 = .ok (.aload_n 0, 1) := by decide +kernel
theorem dX1_init_5 : decode cX1_init 5 = .ok (.bipush 8, 2) := by decide +kernel
theorem dX1_init_7 : decode cX1_init 7 = .ok (.anewarray 9, 3) := by decide +kernel
theorem dX1_init_10 : decode cX1_init 10 = .ok (.putfield 11, 3) := by decide +kernel
theorem dX1_init_13 : decode cX1_init 13 = .ok (.iconst 0, 1) := by decide +kernel
theorem dX1_init_14 : decode cX1_init 14 = .ok (.istore_n 1, 1) := by decide +kernel
theorem dX1_init_15 : decode cX1_init 15 = .ok (.iload_n 1, 1) := by decide +kernel
theorem dX1_init_16 : decode cX1_init 16 = .ok (.bipush 8, 2) := by decide +kernel
theorem dX1_init_18 : decode cX1_init 18 = .ok (.if_icmp .ge 22, 3) := by decide +kernel
theorem dX1_init_21 : decode cX1_init 21 = .ok (.aload_n 0, 1) := by decide +kernel
theorem dX1_init_22 : decode cX1_init 22 = .ok (.getfield 11, 3) := by decide +kernel
theorem dX1_init_25 : decode cX1_init 25 = .ok (.iload_n 1, 1) := by decide +kernel
theorem dX1_init_26 : decode cX1_init 26 = .ok (.new 9, 3) := by decide +kernel
theorem dX1_init_29 : decode cX1_init 29 = .ok (.dup, 1) := by decide +kernel
theorem dX1_init_30 : decode cX1_init 30 = .ok (.invokespecial 15, 3) := by decide +kernel
theorem dX1_init_33 : decode cX1_init 33 = .ok (.aastore, 1) := by decide +kernel
theorem dX1_init_34 : decode cX1_init 34 = .ok (.iinc 1 1, 3) := by decide +kernel
theorem dX1_init_37 : decode cX1_init 37 = .ok (.goto (-22), 3) := by decide +kernel
theorem dX1_init_40 : decode cX1_init 40 = .ok (.aload_n 0, 1) := by decide +kernel
theorem dX1_init_41 : decode cX1_init 41 = .ok (.new 9, 3) := by decide +kernel
theorem dX1_init_44 : decode cX1_init 44 = .ok (.dup, 1) := by decide +kernel
theorem dX1_init_45 : decode cX1_init 45 = .ok (.invokespecial 15, 3) := by decide +kernel
theorem dX1_init_48 : decode cX1_init 48 = .ok (.putfield 16, 3) := by decide +kernel
theorem dX1_init_51 : decode cX1_init 51 = .ok (.return_, 1) := by decide +kernel
theorem dX1_addLamp_0 : decode cX1_addLamp 0 = .ok (.aload_n 0, 1) := by decide +kernel
theorem dX1_addLamp_1 : decode cX1_addLamp 1 = .ok (.getfield 20, 3) := by decide +kernel
theorem dX1_addLamp_4 : decode cX1_addLamp 4 = .ok (.bipush 8, 2) := by decide +kernel
theorem dX1_addLamp_6 : decode cX1_addLamp 6 = .ok (.if_icmp .lt 13, 3) := by decide +kernel
theorem dX1_addLamp_9 : decode cX1_addLamp 9 = .ok (.new 24, 3) := by decide +kernel
theorem dX1_addLamp_12 : decode cX1_addLamp 12 = .ok (.dup, 1) := by decide +kernel
theorem dX1_addLamp_13 : decode cX1_addLamp 13 = .ok (.ldc 26, 2) := by decide +kernel
theorem dX1_addLamp_15 : decode cX1_addLamp 15 = .ok (.invokespecial 28, 3) := by decide +kernel
theorem dX1_addLamp_18 : decode cX1_addLamp 18 = .ok (.athrow, 1) := by decide +kernel
theorem dX1_addLamp_19 : decode cX1_addLamp 19 = .ok (.aload_n 0, 1) := by decide +kernel
theorem dX1_addLamp_20 : decode cX1_addLamp 20 = .ok (.getfield 11, 3) := by decide +kernel
theorem dX1_addLamp_23 : decode cX1_addLamp 23 = .ok (.aload_n 0, 1) := by decide +kernel
theorem dX1_addLamp_24 : decode cX1_addLamp 24 = .ok (.getfield 20, 3) := by decide +kernel
theorem dX1_addLamp_27 : decode cX1_addLamp 27 = .ok (.aaload, 1) := by decide +kernel
theorem dX1_addLamp_28 : decode cX1_addLamp 28 = .ok (.iload_n 1, 1) := by decide +kernel
theorem dX1_addLamp_29 : decode cX1_addLamp 29 = .ok (.putfield 31, 3) := by decide +kernel
theorem dX1_addLamp_32 : decode cX1_addLamp 32 = .ok (.aload_n 0, 1) := by decide +kernel
theorem dX1_addLamp_33 : decode cX1_addLamp 33 = .ok (.dup, 1) := by decide +kernel
theorem dX1_addLamp_34 : decode cX1_addLamp 34 = .ok (.getfield 20, 3) := by decide +kernel
theorem dX1_addLamp_37 : decode cX1_addLamp 37 = .ok (.iconst 1, 1) := by decide +kernel
theorem dX1_addLamp_38 : decode cX1_addLamp 38 = .ok (.iadd, 1) := by decide +kernel
theorem dX1_addLamp_39 : decode cX1_addLamp 39 = .ok (.putfield 20, 3) := by decide +kernel
theorem dX1_addLamp_42 : decode cX1_addLamp 42 = .ok (.aload_n 0, 1) := by decide +kernel
theorem dX1_addLamp_43 : decode cX1_addLamp 43 = .ok (.getfield 20, 3) := by decide +kernel
theorem dX1_addLamp_46 : decode cX1_addLamp 46 = .ok (.iconst 1, 1) := by decide +kernel
theorem dX1_addLamp_47 : decode cX1_addLamp 47 = .ok (.isub, 1) := by decide +kernel
theorem dX1_addLamp_48 : decode cX1_addLamp 48 = .ok (.ireturn, 1) := by decide +kernel
set_option maxRecDepth 20000 in
theorem ggX1_addBeat_X1_needLamp : GoodIn wsX1_addBeat wsX1_needLamp := goodIn_ca (goodIn_r _ [8, 9, 10, 11, 29, 30, 31, 32, 33] (by decide +kernel) (by decide +kernel)) (goodIn_sub (fun _ h => List.mem_cons_of_mem _ (List.mem_append_left _ (List.mem_append_right _ h))) (by decide +kernel))
set_option maxRecDepth 20000 in
theorem gX1_addBeat_X1_needLamp : GoodIn wsX1_addBeat (wsV RX1 35 RX1 yX1_needLamp wsX1_needLamp) := goodIn_app (goodIn_of _ (by decide +kernel)) ggX1_addBeat_X1_needLamp
set_option maxRecDepth 20000 in
theorem ggX1_addBeat_X1_needNumber : GoodIn wsX1_addBeat wsX1_needNumber := goodIn_ca (goodIn_r _ [14, 15, 16, 17] (by decide +kernel) (by decide +kernel)) (goodIn_sub (fun _ h => List.mem_cons_of_mem _ (List.mem_append_right _ h)) (by decide +kernel))
set_option maxRecDepth 20000 in
theorem gX1_addBeat_X1_needNumber : GoodIn wsX1_addBeat (va_wsS RX1 39 yX1_needNumber wsX1_needNumber) := goodIn_app (goodIn_of _ (by decide +kernel)) ggX1_addBeat_X1_needNumber
set_option maxRecDepth 20000 in
theorem ggX1_addBeat_X1_needOffset : GoodIn wsX1_addBeat wsX1_needOffset := goodIn_ca (goodIn_r _ [20, 15, 16] (by decide +kernel) (by decide +kernel)) (goodIn_sub (fun _ h => List.mem_cons_of_mem _ (List.mem_append_right _ h)) (by decide +kernel))
set_option maxRecDepth 20000 in
theorem gX1_addBeat_X1_needOffset : GoodIn wsX1_addBeat (va_wsS RX1 42 yX1_needOffset wsX1_needOffset) := goodIn_app (goodIn_of _ (by decide +kernel)) ggX1_addBeat_X1_needOffset
set_option maxRecDepth 20000 in
theorem ggX1_addBeat_X0_append : GoodIn wsX1_addBeat wsX0_append := goodIn_r _ [25, 26, 27, 28, 34, 35, 36, 37, 38] (by decide +kernel) (by decide +kernel)
set_option maxRecDepth 20000 in
theorem gX1_addBeat_X0_append : GoodIn wsX1_addBeat (wsV RX1 51 RX0 yX0_append wsX0_append) := goodIn_app (goodIn_of _ (by decide +kernel)) ggX1_addBeat_X0_append
theorem dX1_addBeat_0 : decode cX1_addBeat 0 = .ok (.aload_n 0, 1) := by decide +kernel
theorem dX1_addBeat_1 : decode cX1_addBeat 1 = .ok (.iload_n 1, 1) := by decide +kernel
theorem dX1_addBeat_2 : decode cX1_addBeat 2 = .ok (.invokevirtual 35, 3) := by decide +kernel
theorem dX1_addBeat_5 : decode cX1_addBeat 5 = .ok (.iload_n 2, 1) := by decide +kernel
theorem dX1_addBeat_6 : decode cX1_addBeat 6 = .ok (.invokestatic 39, 3) := by decide +kernel
theorem dX1_addBeat_9 : decode cX1_addBeat 9 = .ok (.iload_n 3, 1) := by decide +kernel
theorem dX1_addBeat_10 : decode cX1_addBeat 10 = .ok (.iload_n 2, 1) := by decide +kernel
theorem dX1_addBeat_11 : decode cX1_addBeat 11 = .ok (.invokestatic 42, 3) := by decide +kernel
theorem dX1_addBeat_14 : decode cX1_addBeat 14 = .ok (.aload_n 0, 1) := by decide +kernel
theorem dX1_addBeat_15 : decode cX1_addBeat 15 = .ok (.getfield 11, 3) := by decide +kernel
theorem dX1_addBeat_18 : decode cX1_addBeat 18 = .ok (.iload_n 1, 1) := by decide +kernel
theorem dX1_addBeat_19 : decode cX1_addBeat 19 = .ok (.aaload, 1) := by decide +kernel
theorem dX1_addBeat_20 : decode cX1_addBeat 20 = .ok (.astore 4, 2) := by decide +kernel
theorem dX1_addBeat_22 : decode cX1_addBeat 22 = .ok (.aload 4, 2) := by decide +kernel
theorem dX1_addBeat_24 : decode cX1_addBeat 24 = .ok (.getfield 46, 3) := by decide +kernel
theorem dX1_addBeat_27 : decode cX1_addBeat 27 = .ok (.iconst 4, 1) := by decide +kernel
theorem dX1_addBeat_28 : decode cX1_addBeat 28 = .ok (.if_icmp .lt 13, 3) := by decide +kernel
theorem dX1_addBeat_31 : decode cX1_addBeat 31 = .ok (.new 24, 3) := by decide +kernel
theorem dX1_addBeat_34 : decode cX1_addBeat 34 = .ok (.dup, 1) := by decide +kernel
theorem dX1_addBeat_35 : decode cX1_addBeat 35 = .ok (.ldc 49, 2) := by decide +kernel
theorem dX1_addBeat_37 : decode cX1_addBeat 37 = .ok (.invokespecial 28, 3) := by decide +kernel
theorem dX1_addBeat_40 : decode cX1_addBeat 40 = .ok (.athrow, 1) := by decide +kernel
theorem dX1_addBeat_41 : decode cX1_addBeat 41 = .ok (.aload 4, 2) := by decide +kernel
theorem dX1_addBeat_43 : decode cX1_addBeat 43 = .ok (.iload_n 2, 1) := by decide +kernel
theorem dX1_addBeat_44 : decode cX1_addBeat 44 = .ok (.iload_n 3, 1) := by decide +kernel
theorem dX1_addBeat_45 : decode cX1_addBeat 45 = .ok (.invokevirtual 51, 3) := by decide +kernel
theorem dX1_addBeat_48 : decode cX1_addBeat 48 = .ok (.aload 4, 2) := by decide +kernel
theorem dX1_addBeat_50 : decode cX1_addBeat 50 = .ok (.getfield 46, 3) := by decide +kernel
theorem dX1_addBeat_53 : decode cX1_addBeat 53 = .ok (.iconst 1, 1) := by decide +kernel
theorem dX1_addBeat_54 : decode cX1_addBeat 54 = .ok (.isub, 1) := by decide +kernel
theorem dX1_addBeat_55 : decode cX1_addBeat 55 = .ok (.ireturn, 1) := by decide +kernel
set_option maxRecDepth 20000 in
theorem ggX1_moveBeat_X1_needBeat : GoodIn wsX1_moveBeat wsX1_needBeat := goodIn_ca (goodIn_r _ [6, 7, 8, 1, 9, 10, 11, 5, 12, 13, 19, 20, 21, 22, 23, 24, 25, 26, 27, 28] (by decide +kernel) (by decide +kernel)) (goodIn_sub (fun _ h => List.mem_cons_of_mem _ (List.mem_append_left _ (List.mem_append_right _ h))) (by decide +kernel))
set_option maxRecDepth 20000 in
theorem gX1_moveBeat_X1_needBeat : GoodIn wsX1_moveBeat (wsV RX1 54 RX1 yX1_needBeat wsX1_needBeat) := goodIn_app (goodIn_of _ (by decide +kernel)) ggX1_moveBeat_X1_needBeat
set_option maxRecDepth 20000 in
theorem ggX1_moveBeat_X1_needOffset : GoodIn wsX1_moveBeat wsX1_needOffset := goodIn_ca (goodIn_r _ [16, 17, 18] (by decide +kernel) (by decide +kernel)) (goodIn_sub (fun _ h => List.mem_cons_of_mem _ (List.mem_append_right _ h)) (by decide +kernel))
set_option maxRecDepth 20000 in
theorem gX1_moveBeat_X1_needOffset : GoodIn wsX1_moveBeat (va_wsS RX1 42 yX1_needOffset wsX1_needOffset) := goodIn_app (goodIn_of _ (by decide +kernel)) ggX1_moveBeat_X1_needOffset
theorem dX1_moveBeat_0 : decode cX1_moveBeat 0 = .ok (.aload_n 0, 1) := by decide +kernel
theorem dX1_moveBeat_1 : decode cX1_moveBeat 1 = .ok (.iload_n 1, 1) := by decide +kernel
theorem dX1_moveBeat_2 : decode cX1_moveBeat 2 = .ok (.iload_n 2, 1) := by decide +kernel
theorem dX1_moveBeat_3 : decode cX1_moveBeat 3 = .ok (.invokevirtual 54, 3) := by decide +kernel
theorem dX1_moveBeat_6 : decode cX1_moveBeat 6 = .ok (.aload_n 0, 1) := by decide +kernel
theorem dX1_moveBeat_7 : decode cX1_moveBeat 7 = .ok (.getfield 11, 3) := by decide +kernel
theorem dX1_moveBeat_10 : decode cX1_moveBeat 10 = .ok (.iload_n 1, 1) := by decide +kernel
theorem dX1_moveBeat_11 : decode cX1_moveBeat 11 = .ok (.aaload, 1) := by decide +kernel
theorem dX1_moveBeat_12 : decode cX1_moveBeat 12 = .ok (.astore 4, 2) := by decide +kernel
theorem dX1_moveBeat_14 : decode cX1_moveBeat 14 = .ok (.iload_n 3, 1) := by decide +kernel
theorem dX1_moveBeat_15 : decode cX1_moveBeat 15 = .ok (.aload 4, 2) := by decide +kernel
theorem dX1_moveBeat_17 : decode cX1_moveBeat 17 = .ok (.getfield 57, 3) := by decide +kernel
theorem dX1_moveBeat_20 : decode cX1_moveBeat 20 = .ok (.iload_n 2, 1) := by decide +kernel
theorem dX1_moveBeat_21 : decode cX1_moveBeat 21 = .ok (.iaload, 1) := by decide +kernel
theorem dX1_moveBeat_22 : decode cX1_moveBeat 22 = .ok (.invokestatic 42, 3) := by decide +kernel
theorem dX1_moveBeat_25 : decode cX1_moveBeat 25 = .ok (.aload 4, 2) := by decide +kernel
theorem dX1_moveBeat_27 : decode cX1_moveBeat 27 = .ok (.getfield 61, 3) := by decide +kernel
theorem dX1_moveBeat_30 : decode cX1_moveBeat 30 = .ok (.iload_n 2, 1) := by decide +kernel
theorem dX1_moveBeat_31 : decode cX1_moveBeat 31 = .ok (.iaload, 1) := by decide +kernel
theorem dX1_moveBeat_32 : decode cX1_moveBeat 32 = .ok (.istore 5, 2) := by decide +kernel
theorem dX1_moveBeat_34 : decode cX1_moveBeat 34 = .ok (.aload 4, 2) := by decide +kernel
theorem dX1_moveBeat_36 : decode cX1_moveBeat 36 = .ok (.getfield 61, 3) := by decide +kernel
theorem dX1_moveBeat_39 : decode cX1_moveBeat 39 = .ok (.iload_n 2, 1) := by decide +kernel
theorem dX1_moveBeat_40 : decode cX1_moveBeat 40 = .ok (.iload_n 3, 1) := by decide +kernel
theorem dX1_moveBeat_41 : decode cX1_moveBeat 41 = .ok (.iastore, 1) := by decide +kernel
theorem dX1_moveBeat_42 : decode cX1_moveBeat 42 = .ok (.iload 5, 2) := by decide +kernel
theorem dX1_moveBeat_44 : decode cX1_moveBeat 44 = .ok (.ireturn, 1) := by decide +kernel
set_option maxRecDepth 20000 in
theorem ggX1_takeBeat_X1_needBeat : GoodIn wsX1_takeBeat wsX1_needBeat := goodIn_ca (goodIn_r _ [6, 7, 8, 1, 9, 10, 11, 5, 12, 13, 22, 23, 24, 25, 26, 27, 28, 29, 30, 31] (by decide +kernel) (by decide +kernel)) (goodIn_sub (fun _ h => List.mem_cons_of_mem _ (List.mem_append_right _ h)) (by decide +kernel))
set_option maxRecDepth 20000 in
theorem gX1_takeBeat_X1_needBeat : GoodIn wsX1_takeBeat (wsV RX1 54 RX1 yX1_needBeat wsX1_needBeat) := goodIn_app (goodIn_of _ (by decide +kernel)) ggX1_takeBeat_X1_needBeat
set_option maxRecDepth 20000 in
theorem ggX1_takeBeat_X0_remove : GoodIn wsX1_takeBeat wsX0_remove := goodIn_r _ [18, 19, 20, 21, 27, 28, 29, 30, 31] (by decide +kernel) (by decide +kernel)
set_option maxRecDepth 20000 in
theorem gX1_takeBeat_X0_remove : GoodIn wsX1_takeBeat (wsV RX1 64 RX0 yX0_remove wsX0_remove) := goodIn_app (goodIn_of _ (by decide +kernel)) ggX1_takeBeat_X0_remove
theorem dX1_takeBeat_0 : decode cX1_takeBeat 0 = .ok (.aload_n 0, 1) := by decide +kernel
theorem dX1_takeBeat_1 : decode cX1_takeBeat 1 = .ok (.iload_n 1, 1) := by decide +kernel
theorem dX1_takeBeat_2 : decode cX1_takeBeat 2 = .ok (.iload_n 2, 1) := by decide +kernel
theorem dX1_takeBeat_3 : decode cX1_takeBeat 3 = .ok (.invokevirtual 54, 3) := by decide +kernel
theorem dX1_takeBeat_6 : decode cX1_takeBeat 6 = .ok (.aload_n 0, 1) := by decide +kernel
theorem dX1_takeBeat_7 : decode cX1_takeBeat 7 = .ok (.getfield 11, 3) := by decide +kernel
theorem dX1_takeBeat_10 : decode cX1_takeBeat 10 = .ok (.iload_n 1, 1) := by decide +kernel
theorem dX1_takeBeat_11 : decode cX1_takeBeat 11 = .ok (.aaload, 1) := by decide +kernel
theorem dX1_takeBeat_12 : decode cX1_takeBeat 12 = .ok (.astore_n 3, 1) := by decide +kernel
theorem dX1_takeBeat_13 : decode cX1_takeBeat 13 = .ok (.aload_n 3, 1) := by decide +kernel
theorem dX1_takeBeat_14 : decode cX1_takeBeat 14 = .ok (.iload_n 2, 1) := by decide +kernel
theorem dX1_takeBeat_15 : decode cX1_takeBeat 15 = .ok (.invokevirtual 64, 3) := by decide +kernel
theorem dX1_takeBeat_18 : decode cX1_takeBeat 18 = .ok (.aload_n 3, 1) := by decide +kernel
theorem dX1_takeBeat_19 : decode cX1_takeBeat 19 = .ok (.getfield 46, 3) := by decide +kernel
theorem dX1_takeBeat_22 : decode cX1_takeBeat 22 = .ok (.ireturn, 1) := by decide +kernel
set_option maxRecDepth 20000 in
theorem ggX1_turnShutter_X1_needLamp : GoodIn wsX1_turnShutter wsX1_needLamp := goodIn_ca (goodIn_r _ [6, 7, 8, 9, 10, 11, 12, 13, 14] (by decide +kernel) (by decide +kernel)) (goodIn_sub (fun _ h => List.mem_cons_of_mem _ (List.mem_append_right _ h)) (by decide +kernel))
set_option maxRecDepth 20000 in
theorem gX1_turnShutter_X1_needLamp : GoodIn wsX1_turnShutter (wsV RX1 35 RX1 yX1_needLamp wsX1_needLamp) := goodIn_app (goodIn_of _ (by decide +kernel)) ggX1_turnShutter_X1_needLamp
theorem dX1_turnShutter_0 : decode cX1_turnShutter 0 = .ok (.aload_n 0, 1) := by decide +kernel
theorem dX1_turnShutter_1 : decode cX1_turnShutter 1 = .ok (.iload_n 1, 1) := by decide +kernel
theorem dX1_turnShutter_2 : decode cX1_turnShutter 2 = .ok (.invokevirtual 35, 3) := by decide +kernel
theorem dX1_turnShutter_5 : decode cX1_turnShutter 5 = .ok (.aload_n 0, 1) := by decide +kernel
theorem dX1_turnShutter_6 : decode cX1_turnShutter 6 = .ok (.getfield 11, 3) := by decide +kernel
theorem dX1_turnShutter_9 : decode cX1_turnShutter 9 = .ok (.iload_n 1, 1) := by decide +kernel
theorem dX1_turnShutter_10 : decode cX1_turnShutter 10 = .ok (.aaload, 1) := by decide +kernel
theorem dX1_turnShutter_11 : decode cX1_turnShutter 11 = .ok (.astore_n 2, 1) := by decide +kernel
theorem dX1_turnShutter_12 : decode cX1_turnShutter 12 = .ok (.aload_n 2, 1) := by decide +kernel
theorem dX1_turnShutter_13 : decode cX1_turnShutter 13 = .ok (.aload_n 2, 1) := by decide +kernel
theorem dX1_turnShutter_14 : decode cX1_turnShutter 14 = .ok (.getfield 67, 3) := by decide +kernel
theorem dX1_turnShutter_17 : decode cX1_turnShutter 17 = .ok (.ifCond .ne 7, 3) := by decide +kernel
theorem dX1_turnShutter_20 : decode cX1_turnShutter 20 = .ok (.iconst 1, 1) := by decide +kernel
theorem dX1_turnShutter_21 : decode cX1_turnShutter 21 = .ok (.goto 4, 3) := by decide +kernel
theorem dX1_turnShutter_24 : decode cX1_turnShutter 24 = .ok (.iconst 0, 1) := by decide +kernel
theorem dX1_turnShutter_25 : decode cX1_turnShutter 25 = .ok (.putfield 67, 3) := by decide +kernel
theorem dX1_turnShutter_28 : decode cX1_turnShutter 28 = .ok (.aload_n 2, 1) := by decide +kernel
theorem dX1_turnShutter_29 : decode cX1_turnShutter 29 = .ok (.getfield 67, 3) := by decide +kernel
theorem dX1_turnShutter_32 : decode cX1_turnShutter 32 = .ok (.ireturn, 1) := by decide +kernel
set_option maxRecDepth 20000 in
theorem ggX1_pass_X1_needMoments : GoodIn wsX1_pass wsX1_needMoments := goodIn_ca (goodIn_r _ [6, 7, 8] (by decide +kernel) (by decide +kernel)) (goodIn_sub (fun _ h => List.mem_cons_of_mem _ (List.mem_append_right _ h)) (by decide +kernel))
set_option maxRecDepth 20000 in
theorem gX1_pass_X1_needMoments : GoodIn wsX1_pass (va_wsS RX1 70 yX1_needMoments wsX1_needMoments) := goodIn_app (goodIn_of _ (by decide +kernel)) ggX1_pass_X1_needMoments
set_option maxRecDepth 20000 in
theorem ggX1_pass_X1_changesOfLamps : GoodIn wsX1_pass wsX1_changesOfLamps := goodIn_r _ [12, 13, 14, 15, 16, 17, 18, 19, 20, 21, 22, 23, 24, 25, 26, 27, 28, 29, 30, 31, 32, 33, 34, 35, 36, 37, 38, 39] (by decide +kernel) (by decide +kernel)
set_option maxRecDepth 20000 in
theorem gX1_pass_X1_changesOfLamps : GoodIn wsX1_pass (wsV RX1 76 RX1 yX1_changesOfLamps wsX1_changesOfLamps) := goodIn_app (goodIn_of _ (by decide +kernel)) ggX1_pass_X1_changesOfLamps
theorem dX1_pass_0 : decode cX1_pass 0 = .ok (.iload_n 1, 1) := by decide +kernel
theorem dX1_pass_1 : decode cX1_pass 1 = .ok (.sipush 500, 3) := by decide +kernel
theorem dX1_pass_4 : decode cX1_pass 4 = .ok (.invokestatic 70, 3) := by decide +kernel
theorem dX1_pass_7 : decode cX1_pass 7 = .ok (.iconst 0, 1) := by decide +kernel
theorem dX1_pass_8 : decode cX1_pass 8 = .ok (.istore_n 2, 1) := by decide +kernel
theorem dX1_pass_9 : decode cX1_pass 9 = .ok (.iconst 1, 1) := by decide +kernel
theorem dX1_pass_10 : decode cX1_pass 10 = .ok (.istore_n 3, 1) := by decide +kernel
theorem dX1_pass_11 : decode cX1_pass 11 = .ok (.iload_n 3, 1) := by decide +kernel
theorem dX1_pass_12 : decode cX1_pass 12 = .ok (.iload_n 1, 1) := by decide +kernel
theorem dX1_pass_13 : decode cX1_pass 13 = .ok (.if_icmp .gt 22, 3) := by decide +kernel
theorem dX1_pass_16 : decode cX1_pass 16 = .ok (.iload_n 2, 1) := by decide +kernel
theorem dX1_pass_17 : decode cX1_pass 17 = .ok (.aload_n 0, 1) := by decide +kernel
theorem dX1_pass_18 : decode cX1_pass 18 = .ok (.aload_n 0, 1) := by decide +kernel
theorem dX1_pass_19 : decode cX1_pass 19 = .ok (.getfield 73, 3) := by decide +kernel
theorem dX1_pass_22 : decode cX1_pass 22 = .ok (.iload_n 3, 1) := by decide +kernel
theorem dX1_pass_23 : decode cX1_pass 23 = .ok (.iadd, 1) := by decide +kernel
theorem dX1_pass_24 : decode cX1_pass 24 = .ok (.invokevirtual 76, 3) := by decide +kernel
theorem dX1_pass_27 : decode cX1_pass 27 = .ok (.iadd, 1) := by decide +kernel
theorem dX1_pass_28 : decode cX1_pass 28 = .ok (.istore_n 2, 1) := by decide +kernel
theorem dX1_pass_29 : decode cX1_pass 29 = .ok (.iinc 3 1, 3) := by decide +kernel
theorem dX1_pass_32 : decode cX1_pass 32 = .ok (.goto (-21), 3) := by decide +kernel
theorem dX1_pass_35 : decode cX1_pass 35 = .ok (.aload_n 0, 1) := by decide +kernel
theorem dX1_pass_36 : decode cX1_pass 36 = .ok (.dup, 1) := by decide +kernel
theorem dX1_pass_37 : decode cX1_pass 37 = .ok (.getfield 73, 3) := by decide +kernel
theorem dX1_pass_40 : decode cX1_pass 40 = .ok (.iload_n 1, 1) := by decide +kernel
theorem dX1_pass_41 : decode cX1_pass 41 = .ok (.iadd, 1) := by decide +kernel
theorem dX1_pass_42 : decode cX1_pass 42 = .ok (.putfield 73, 3) := by decide +kernel
theorem dX1_pass_45 : decode cX1_pass 45 = .ok (.aload_n 0, 1) := by decide +kernel
theorem dX1_pass_46 : decode cX1_pass 46 = .ok (.dup, 1) := by decide +kernel
theorem dX1_pass_47 : decode cX1_pass 47 = .ok (.getfield 80, 3) := by decide +kernel
theorem dX1_pass_50 : decode cX1_pass 50 = .ok (.iload_n 2, 1) := by decide +kernel
theorem dX1_pass_51 : decode cX1_pass 51 = .ok (.iadd, 1) := by decide +kernel
theorem dX1_pass_52 : decode cX1_pass 52 = .ok (.putfield 80, 3) := by decide +kernel
theorem dX1_pass_55 : decode cX1_pass 55 = .ok (.iload_n 2, 1) := by decide +kernel
theorem dX1_pass_56 : decode cX1_pass 56 = .ok (.ireturn, 1) := by decide +kernel
theorem dX1_lamps_0 : decode cX1_lamps 0 = .ok (.aload_n 0, 1) := by decide +kernel
theorem dX1_lamps_1 : decode cX1_lamps 1 = .ok (.getfield 20, 3) := by decide +kernel
theorem dX1_lamps_4 : decode cX1_lamps 4 = .ok (.ireturn, 1) := by decide +kernel
theorem dX1_now_0 : decode cX1_now 0 = .ok (.aload_n 0, 1) := by decide +kernel
theorem dX1_now_1 : decode cX1_now 1 = .ok (.getfield 73, 3) := by decide +kernel
theorem dX1_now_4 : decode cX1_now 4 = .ok (.ireturn, 1) := by decide +kernel
theorem dX1_changesSeen_0 : decode cX1_changesSeen 0 = .ok (.aload_n 0, 1) := by decide +kernel
theorem dX1_changesSeen_1 : decode cX1_changesSeen 1 = .ok (.getfield 80, 3) := by decide +kernel
theorem dX1_changesSeen_4 : decode cX1_changesSeen 4 = .ok (.ireturn, 1) := by decide +kernel
set_option maxRecDepth 20000 in
theorem ggX1_beatsOf_X1_needLamp : GoodIn wsX1_beatsOf wsX1_needLamp := goodIn_ca (goodIn_r _ [6, 7, 8, 9, 10, 11, 12, 13, 14] (by decide +kernel) (by decide +kernel)) (goodIn_sub (fun _ h => List.mem_cons_of_mem _ (List.mem_append_right _ h)) (by decide +kernel))
set_option maxRecDepth 20000 in
theorem gX1_beatsOf_X1_needLamp : GoodIn wsX1_beatsOf (wsV RX1 35 RX1 yX1_needLamp wsX1_needLamp) := goodIn_app (goodIn_of _ (by decide +kernel)) ggX1_beatsOf_X1_needLamp
theorem dX1_beatsOf_0 : decode cX1_beatsOf 0 = .ok (.aload_n 0, 1) := by decide +kernel
theorem dX1_beatsOf_1 : decode cX1_beatsOf 1 = .ok (.iload_n 1, 1) := by decide +kernel
theorem dX1_beatsOf_2 : decode cX1_beatsOf 2 = .ok (.invokevirtual 35, 3) := by decide +kernel
theorem dX1_beatsOf_5 : decode cX1_beatsOf 5 = .ok (.aload_n 0, 1) := by decide +kernel
theorem dX1_beatsOf_6 : decode cX1_beatsOf 6 = .ok (.getfield 11, 3) := by decide +kernel
theorem dX1_beatsOf_9 : decode cX1_beatsOf 9 = .ok (.iload_n 1, 1) := by decide +kernel
theorem dX1_beatsOf_10 : decode cX1_beatsOf 10 = .ok (.aaload, 1) := by decide +kernel
theorem dX1_beatsOf_11 : decode cX1_beatsOf 11 = .ok (.getfield 46, 3) := by decide +kernel
theorem dX1_beatsOf_14 : decode cX1_beatsOf 14 = .ok (.ireturn, 1) := by decide +kernel
set_option maxRecDepth 20000 in
theorem ggX1_numberOf_X1_needBeat : GoodIn wsX1_numberOf wsX1_needBeat := goodIn_ca (goodIn_r _ [6, 7, 8, 1, 9, 10, 11, 5, 12, 13, 14, 15, 16, 17, 18, 19, 20, 21, 22, 23] (by decide +kernel) (by decide +kernel)) (goodIn_sub (fun _ h => List.mem_cons_of_mem _ (List.mem_append_right _ h)) (by decide +kernel))
set_option maxRecDepth 20000 in
theorem gX1_numberOf_X1_needBeat : GoodIn wsX1_numberOf (wsV RX1 54 RX1 yX1_needBeat wsX1_needBeat) := goodIn_app (goodIn_of _ (by decide +kernel)) ggX1_numberOf_X1_needBeat
theorem dX1_numberOf_0 : decode cX1_numberOf 0 = .ok (.aload_n 0, 1) := by decide +kernel
theorem dX1_numberOf_1 : decode cX1_numberOf 1 = .ok (.iload_n 1, 1) := by decide +kernel
theorem dX1_numberOf_2 : decode cX1_numberOf 2 = .ok (.iload_n 2, 1) := by decide +kernel
theorem dX1_numberOf_3 : decode cX1_numberOf 3 = .ok (.invokevirtual 54, 3) := by decide +kernel
theorem dX1_numberOf_6 : decode cX1_numberOf 6 = .ok (.aload_n 0, 1) := by decide +kernel
theorem dX1_numberOf_7 : decode cX1_numberOf 7 = .ok (.getfield 11, 3) := by decide +kernel
theorem dX1_numberOf_10 : decode cX1_numberOf 10 = .ok (.iload_n 1, 1) := by decide +kernel
theorem dX1_numberOf_11 : decode cX1_numberOf 11 = .ok (.aaload, 1) := by decide +kernel
theorem dX1_numberOf_12 : decode cX1_numberOf 12 = .ok (.getfield 57, 3) := by decide +kernel
theorem dX1_numberOf_15 : decode cX1_numberOf 15 = .ok (.iload_n 2, 1) := by decide +kernel
theorem dX1_numberOf_16 : decode cX1_numberOf 16 = .ok (.iaload, 1) := by decide +kernel
theorem dX1_numberOf_17 : decode cX1_numberOf 17 = .ok (.ireturn, 1) := by decide +kernel
set_option maxRecDepth 20000 in
theorem ggX1_offsetOf_X1_needBeat : GoodIn wsX1_offsetOf wsX1_needBeat := goodIn_ca (goodIn_r _ [6, 7, 8, 1, 9, 10, 11, 5, 12, 13, 14, 15, 16, 17, 18, 19, 20, 21, 22, 23] (by decide +kernel) (by decide +kernel)) (goodIn_sub (fun _ h => List.mem_cons_of_mem _ (List.mem_append_right _ h)) (by decide +kernel))
set_option maxRecDepth 20000 in
theorem gX1_offsetOf_X1_needBeat : GoodIn wsX1_offsetOf (wsV RX1 54 RX1 yX1_needBeat wsX1_needBeat) := goodIn_app (goodIn_of _ (by decide +kernel)) ggX1_offsetOf_X1_needBeat
theorem dX1_offsetOf_0 : decode cX1_offsetOf 0 = .ok (.aload_n 0, 1) := by decide +kernel
theorem dX1_offsetOf_1 : decode cX1_offsetOf 1 = .ok (.iload_n 1, 1) := by decide +kernel
theorem dX1_offsetOf_2 : decode cX1_offsetOf 2 = .ok (.iload_n 2, 1) := by decide +kernel
theorem dX1_offsetOf_3 : decode cX1_offsetOf 3 = .ok (.invokevirtual 54, 3) := by decide +kernel
theorem dX1_offsetOf_6 : decode cX1_offsetOf 6 = .ok (.aload_n 0, 1) := by decide +kernel
theorem dX1_offsetOf_7 : decode cX1_offsetOf 7 = .ok (.getfield 11, 3) := by decide +kernel
theorem dX1_offsetOf_10 : decode cX1_offsetOf 10 = .ok (.iload_n 1, 1) := by decide +kernel
theorem dX1_offsetOf_11 : decode cX1_offsetOf 11 = .ok (.aaload, 1) := by decide +kernel
theorem dX1_offsetOf_12 : decode cX1_offsetOf 12 = .ok (.getfield 61, 3) := by decide +kernel
theorem dX1_offsetOf_15 : decode cX1_offsetOf 15 = .ok (.iload_n 2, 1) := by decide +kernel
theorem dX1_offsetOf_16 : decode cX1_offsetOf 16 = .ok (.iaload, 1) := by decide +kernel
theorem dX1_offsetOf_17 : decode cX1_offsetOf 17 = .ok (.ireturn, 1) := by decide +kernel
set_option maxRecDepth 20000 in
theorem ggX1_isCovered_X1_needLamp : GoodIn wsX1_isCovered wsX1_needLamp := goodIn_ca (goodIn_r _ [6, 7, 8, 9, 10, 11, 12, 13, 14] (by decide +kernel) (by decide +kernel)) (goodIn_sub (fun _ h => List.mem_cons_of_mem _ (List.mem_append_right _ h)) (by decide +kernel))
set_option maxRecDepth 20000 in
theorem gX1_isCovered_X1_needLamp : GoodIn wsX1_isCovered (wsV RX1 35 RX1 yX1_needLamp wsX1_needLamp) := goodIn_app (goodIn_of _ (by decide +kernel)) ggX1_isCovered_X1_needLamp
theorem dX1_isCovered_0 : decode cX1_isCovered 0 = .ok (.aload_n 0, 1) := by decide +kernel
theorem dX1_isCovered_1 : decode cX1_isCovered 1 = .ok (.iload_n 1, 1) := by decide +kernel
theorem dX1_isCovered_2 : decode cX1_isCovered 2 = .ok (.invokevirtual 35, 3) := by decide +kernel
theorem dX1_isCovered_5 : decode cX1_isCovered 5 = .ok (.aload_n 0, 1) := by decide +kernel
theorem dX1_isCovered_6 : decode cX1_isCovered 6 = .ok (.getfield 11, 3) := by decide +kernel
theorem dX1_isCovered_9 : decode cX1_isCovered 9 = .ok (.iload_n 1, 1) := by decide +kernel
theorem dX1_isCovered_10 : decode cX1_isCovered 10 = .ok (.aaload, 1) := by decide +kernel
theorem dX1_isCovered_11 : decode cX1_isCovered 11 = .ok (.getfield 67, 3) := by decide +kernel
theorem dX1_isCovered_14 : decode cX1_isCovered 14 = .ok (.ireturn, 1) := by decide +kernel
set_option maxRecDepth 20000 in
theorem ggX1_isOn_X1_needLamp : GoodIn wsX1_isOn wsX1_needLamp := goodIn_ca (goodIn_r _ [7, 8, 9, 10, 26, 27, 28, 29, 30] (by decide +kernel) (by decide +kernel)) (goodIn_sub (fun _ h => List.mem_cons_of_mem _ (List.mem_append_right _ h)) (by decide +kernel))
set_option maxRecDepth 20000 in
theorem gX1_isOn_X1_needLamp : GoodIn wsX1_isOn (wsV RX1 35 RX1 yX1_needLamp wsX1_needLamp) := goodIn_app (goodIn_of _ (by decide +kernel)) ggX1_isOn_X1_needLamp
set_option maxRecDepth 20000 in
theorem ggX1_isOn_X0_onAt : GoodIn wsX1_isOn wsX0_onAt := goodIn_r _ [15, 16, 17, 18, 19, 20, 21, 14, 22, 23, 24, 25, 31, 32, 33, 34, 35] (by decide +kernel) (by decide +kernel)
set_option maxRecDepth 20000 in
theorem gX1_isOn_X0_onAt : GoodIn wsX1_isOn (wsV RX1 83 RX0 yX0_onAt wsX0_onAt) := goodIn_app (goodIn_of _ (by decide +kernel)) ggX1_isOn_X0_onAt
theorem dX1_isOn_0 : decode cX1_isOn 0 = .ok (.aload_n 0, 1) := by decide +kernel
theorem dX1_isOn_1 : decode cX1_isOn 1 = .ok (.iload_n 1, 1) := by decide +kernel
theorem dX1_isOn_2 : decode cX1_isOn 2 = .ok (.invokevirtual 35, 3) := by decide +kernel
theorem dX1_isOn_5 : decode cX1_isOn 5 = .ok (.aload_n 0, 1) := by decide +kernel
theorem dX1_isOn_6 : decode cX1_isOn 6 = .ok (.getfield 11, 3) := by decide +kernel
theorem dX1_isOn_9 : decode cX1_isOn 9 = .ok (.iload_n 1, 1) := by decide +kernel
theorem dX1_isOn_10 : decode cX1_isOn 10 = .ok (.aaload, 1) := by decide +kernel
theorem dX1_isOn_11 : decode cX1_isOn 11 = .ok (.aload_n 0, 1) := by decide +kernel
theorem dX1_isOn_12 : decode cX1_isOn 12 = .ok (.getfield 73, 3) := by decide +kernel
theorem dX1_isOn_15 : decode cX1_isOn 15 = .ok (.invokevirtual 83, 3) := by decide +kernel
theorem dX1_isOn_18 : decode cX1_isOn 18 = .ok (.ireturn, 1) := by decide +kernel
set_option maxRecDepth 20000 in
theorem ggX1_isLit_X1_needLamp : GoodIn wsX1_isLit wsX1_needLamp := goodIn_ca (goodIn_r _ [7, 8, 9, 10, 31, 32, 33, 34, 35] (by decide +kernel) (by decide +kernel)) (goodIn_sub (fun _ h => List.mem_cons_of_mem _ (List.mem_append_right _ h)) (by decide +kernel))
set_option maxRecDepth 20000 in
theorem gX1_isLit_X1_needLamp : GoodIn wsX1_isLit (wsV RX1 35 RX1 yX1_needLamp wsX1_needLamp) := goodIn_app (goodIn_of _ (by decide +kernel)) ggX1_isLit_X1_needLamp
set_option maxRecDepth 20000 in
theorem ggX1_isLit_X0_litAt : GoodIn wsX1_isLit wsX0_litAt := goodIn_r _ [15, 16, 17, 18, 19, 14, 20, 21, 22, 23, 24, 25, 26, 27, 28, 29, 30, 36, 37, 38, 39, 40] (by decide +kernel) (by decide +kernel)
set_option maxRecDepth 20000 in
theorem gX1_isLit_X0_litAt : GoodIn wsX1_isLit (wsV RX1 87 RX0 yX0_litAt wsX0_litAt) := goodIn_app (goodIn_of _ (by decide +kernel)) ggX1_isLit_X0_litAt
theorem dX1_isLit_0 : decode cX1_isLit 0 = .ok (.aload_n 0, 1) := by decide +kernel
theorem dX1_isLit_1 : decode cX1_isLit 1 = .ok (.iload_n 1, 1) := by decide +kernel
theorem dX1_isLit_2 : decode cX1_isLit 2 = .ok (.invokevirtual 35, 3) := by decide +kernel
theorem dX1_isLit_5 : decode cX1_isLit 5 = .ok (.aload_n 0, 1) := by decide +kernel
theorem dX1_isLit_6 : decode cX1_isLit 6 = .ok (.getfield 11, 3) := by decide +kernel
theorem dX1_isLit_9 : decode cX1_isLit 9 = .ok (.iload_n 1, 1) := by decide +kernel
theorem dX1_isLit_10 : decode cX1_isLit 10 = .ok (.aaload, 1) := by decide +kernel
theorem dX1_isLit_11 : decode cX1_isLit 11 = .ok (.aload_n 0, 1) := by decide +kernel
theorem dX1_isLit_12 : decode cX1_isLit 12 = .ok (.getfield 73, 3) := by decide +kernel
theorem dX1_isLit_15 : decode cX1_isLit 15 = .ok (.invokevirtual 87, 3) := by decide +kernel
theorem dX1_isLit_18 : decode cX1_isLit 18 = .ok (.ireturn, 1) := by decide +kernel
set_option maxRecDepth 20000 in
theorem ggX1_litLamps_X1_litCount : GoodIn wsX1_litLamps wsX1_litCount := goodIn_r _ [6, 7, 8, 9, 10, 11, 12, 13, 14, 15, 16, 17, 18, 19, 20, 21, 22, 23, 24, 25, 26, 27, 28, 29, 30, 31, 32, 33, 34, 35, 36, 37, 38] (by decide +kernel) (by decide +kernel)
set_option maxRecDepth 20000 in
theorem gX1_litLamps_X1_litCount : GoodIn wsX1_litLamps (wsV RX1 90 RX1 yX1_litCount wsX1_litCount) := goodIn_app (goodIn_of _ (by decide +kernel)) ggX1_litLamps_X1_litCount
theorem dX1_litLamps_0 : decode cX1_litLamps 0 = .ok (.aload_n 0, 1) := by decide +kernel
theorem dX1_litLamps_1 : decode cX1_litLamps 1 = .ok (.aload_n 0, 1) := by decide +kernel
theorem dX1_litLamps_2 : decode cX1_litLamps 2 = .ok (.getfield 73, 3) := by decide +kernel
theorem dX1_litLamps_5 : decode cX1_litLamps 5 = .ok (.invokevirtual 90, 3) := by decide +kernel
theorem dX1_litLamps_8 : decode cX1_litLamps 8 = .ok (.ireturn, 1) := by decide +kernel
set_option maxRecDepth 20000 in
theorem ggX1_isDark_X1_darkAt : GoodIn wsX1_isDark wsX1_darkAt := goodIn_r _ [6, 7, 8, 9, 10, 11, 12, 13, 14, 15, 16, 17, 18, 19, 20, 21, 22, 23, 24, 25, 26, 27, 28, 29, 30, 31, 32, 33, 34, 35, 36, 37, 38] (by decide +kernel) (by decide +kernel)
set_option maxRecDepth 20000 in
theorem gX1_isDark_X1_darkAt : GoodIn wsX1_isDark (wsV RX1 93 RX1 yX1_darkAt wsX1_darkAt) := goodIn_app (goodIn_of _ (by decide +kernel)) ggX1_isDark_X1_darkAt
theorem dX1_isDark_0 : decode cX1_isDark 0 = .ok (.aload_n 0, 1) := by decide +kernel
theorem dX1_isDark_1 : decode cX1_isDark 1 = .ok (.aload_n 0, 1) := by decide +kernel
theorem dX1_isDark_2 : decode cX1_isDark 2 = .ok (.getfield 73, 3) := by decide +kernel
theorem dX1_isDark_5 : decode cX1_isDark 5 = .ok (.iconst (-1), 1) := by decide +kernel
theorem dX1_isDark_6 : decode cX1_isDark 6 = .ok (.invokevirtual 93, 3) := by decide +kernel
theorem dX1_isDark_9 : decode cX1_isDark 9 = .ok (.ireturn, 1) := by decide +kernel
set_option maxRecDepth 20000 in
theorem ggX1_isOnAt_X1_needLamp : GoodIn wsX1_isOnAt wsX1_needLamp := goodIn_ca (goodIn_r _ [6, 7, 8, 9, 31, 32, 33, 34, 35] (by decide +kernel) (by decide +kernel)) (goodIn_sub (fun _ h => List.mem_cons_of_mem _ (List.mem_append_left _ (List.mem_append_right _ h))) (by decide +kernel))
set_option maxRecDepth 20000 in
theorem gX1_isOnAt_X1_needLamp : GoodIn wsX1_isOnAt (wsV RX1 35 RX1 yX1_needLamp wsX1_needLamp) := goodIn_app (goodIn_of _ (by decide +kernel)) ggX1_isOnAt_X1_needLamp
set_option maxRecDepth 20000 in
theorem ggX1_isOnAt_X1_needMoment : GoodIn wsX1_isOnAt wsX1_needMoment := goodIn_ca (goodIn_r _ [12, 13, 14, 15] (by decide +kernel) (by decide +kernel)) (goodIn_sub (fun _ h => List.mem_cons_of_mem _ (List.mem_append_right _ h)) (by decide +kernel))
set_option maxRecDepth 20000 in
theorem gX1_isOnAt_X1_needMoment : GoodIn wsX1_isOnAt (va_wsS RX1 97 yX1_needMoment wsX1_needMoment) := goodIn_app (goodIn_of _ (by decide +kernel)) ggX1_isOnAt_X1_needMoment
set_option maxRecDepth 20000 in
theorem ggX1_isOnAt_X0_onAt : GoodIn wsX1_isOnAt wsX0_onAt := goodIn_r _ [20, 21, 22, 23, 24, 25, 26, 19, 27, 28, 29, 30, 36, 37, 38, 39, 40] (by decide +kernel) (by decide +kernel)
set_option maxRecDepth 20000 in
theorem gX1_isOnAt_X0_onAt : GoodIn wsX1_isOnAt (wsV RX1 83 RX0 yX0_onAt wsX0_onAt) := goodIn_app (goodIn_of _ (by decide +kernel)) ggX1_isOnAt_X0_onAt
theorem dX1_isOnAt_0 : decode cX1_isOnAt 0 = .ok (.aload_n 0, 1) := by decide +kernel
theorem dX1_isOnAt_1 : decode cX1_isOnAt 1 = .ok (.iload_n 1, 1) := by decide +kernel
theorem dX1_isOnAt_2 : decode cX1_isOnAt 2 = .ok (.invokevirtual 35, 3) := by decide +kernel
theorem dX1_isOnAt_5 : decode cX1_isOnAt 5 = .ok (.iload_n 2, 1) := by decide +kernel
theorem dX1_isOnAt_6 : decode cX1_isOnAt 6 = .ok (.invokestatic 97, 3) := by decide +kernel
theorem dX1_isOnAt_9 : decode cX1_isOnAt 9 = .ok (.aload_n 0, 1) := by decide +kernel
theorem dX1_isOnAt_10 : decode cX1_isOnAt 10 = .ok (.getfield 11, 3) := by decide +kernel
theorem dX1_isOnAt_13 : decode cX1_isOnAt 13 = .ok (.iload_n 1, 1) := by decide +kernel
theorem dX1_isOnAt_14 : decode cX1_isOnAt 14 = .ok (.aaload, 1) := by decide +kernel
theorem dX1_isOnAt_15 : decode cX1_isOnAt 15 = .ok (.iload_n 2, 1) := by decide +kernel
theorem dX1_isOnAt_16 : decode cX1_isOnAt 16 = .ok (.invokevirtual 83, 3) := by decide +kernel
theorem dX1_isOnAt_19 : decode cX1_isOnAt 19 = .ok (.ireturn, 1) := by decide +kernel
set_option maxRecDepth 20000 in
theorem ggX1_strikesAt_X1_needLamp : GoodIn wsX1_strikesAt wsX1_needLamp := goodIn_ca (goodIn_r _ [6, 7, 8, 9, 24, 25, 26, 27, 28] (by decide +kernel) (by decide +kernel)) (goodIn_sub (fun _ h => List.mem_cons_of_mem _ (List.mem_append_left _ (List.mem_append_right _ h))) (by decide +kernel))
set_option maxRecDepth 20000 in
theorem gX1_strikesAt_X1_needLamp : GoodIn wsX1_strikesAt (wsV RX1 35 RX1 yX1_needLamp wsX1_needLamp) := goodIn_app (goodIn_of _ (by decide +kernel)) ggX1_strikesAt_X1_needLamp
set_option maxRecDepth 20000 in
theorem ggX1_strikesAt_X1_needMoment : GoodIn wsX1_strikesAt wsX1_needMoment := goodIn_ca (goodIn_r _ [12, 13, 14, 15] (by decide +kernel) (by decide +kernel)) (goodIn_sub (fun _ h => List.mem_cons_of_mem _ (List.mem_append_right _ h)) (by decide +kernel))
set_option maxRecDepth 20000 in
theorem gX1_strikesAt_X1_needMoment : GoodIn wsX1_strikesAt (va_wsS RX1 97 yX1_needMoment wsX1_needMoment) := goodIn_app (goodIn_of _ (by decide +kernel)) ggX1_strikesAt_X1_needMoment
set_option maxRecDepth 20000 in
theorem ggX1_strikesAt_X0_strikes : GoodIn wsX1_strikesAt wsX0_strikes := goodIn_r _ [20, 21, 22, 23, 29, 30, 31, 32, 33] (by decide +kernel) (by decide +kernel)
set_option maxRecDepth 20000 in
theorem gX1_strikesAt_X0_strikes : GoodIn wsX1_strikesAt (wsV RX1 100 RX0 yX0_strikes wsX0_strikes) := goodIn_app (goodIn_of _ (by decide +kernel)) ggX1_strikesAt_X0_strikes
theorem dX1_strikesAt_0 : decode cX1_strikesAt 0 = .ok (.aload_n 0, 1) := by decide +kernel
theorem dX1_strikesAt_1 : decode cX1_strikesAt 1 = .ok (.iload_n 1, 1) := by decide +kernel
theorem dX1_strikesAt_2 : decode cX1_strikesAt 2 = .ok (.invokevirtual 35, 3) := by decide +kernel
theorem dX1_strikesAt_5 : decode cX1_strikesAt 5 = .ok (.iload_n 2, 1) := by decide +kernel
theorem dX1_strikesAt_6 : decode cX1_strikesAt 6 = .ok (.invokestatic 97, 3) := by decide +kernel
theorem dX1_strikesAt_9 : decode cX1_strikesAt 9 = .ok (.aload_n 0, 1) := by decide +kernel
theorem dX1_strikesAt_10 : decode cX1_strikesAt 10 = .ok (.getfield 11, 3) := by decide +kernel
theorem dX1_strikesAt_13 : decode cX1_strikesAt 13 = .ok (.iload_n 1, 1) := by decide +kernel
theorem dX1_strikesAt_14 : decode cX1_strikesAt 14 = .ok (.aaload, 1) := by decide +kernel
theorem dX1_strikesAt_15 : decode cX1_strikesAt 15 = .ok (.iload_n 2, 1) := by decide +kernel
theorem dX1_strikesAt_16 : decode cX1_strikesAt 16 = .ok (.invokevirtual 100, 3) := by decide +kernel
theorem dX1_strikesAt_19 : decode cX1_strikesAt 19 = .ok (.ireturn, 1) := by decide +kernel
set_option maxRecDepth 20000 in
theorem ggX1_isSteady_X1_needLamp : GoodIn wsX1_isSteady wsX1_needLamp := goodIn_ca (goodIn_r _ [6, 7, 8, 9, 41, 42, 43, 44, 45] (by decide +kernel) (by decide +kernel)) (goodIn_sub (fun _ h => List.mem_cons_of_mem _ (List.mem_append_right _ h)) (by decide +kernel))
set_option maxRecDepth 20000 in
theorem gX1_isSteady_X1_needLamp : GoodIn wsX1_isSteady (wsV RX1 35 RX1 yX1_needLamp wsX1_needLamp) := goodIn_app (goodIn_of _ (by decide +kernel)) ggX1_isSteady_X1_needLamp
set_option maxRecDepth 20000 in
theorem ggX1_isSteady_X0_neverChanges : GoodIn wsX1_isSteady wsX0_neverChanges := goodIn_r _ [14, 15, 16, 17, 13, 18, 19, 20, 21, 22, 23, 24, 25, 26, 27, 28, 29, 30, 31, 32, 33, 34, 35, 36, 37, 38, 39, 40, 46, 47, 48, 49, 50] (by decide +kernel) (by decide +kernel)
set_option maxRecDepth 20000 in
theorem gX1_isSteady_X0_neverChanges : GoodIn wsX1_isSteady (wsV RX1 103 RX0 yX0_neverChanges wsX0_neverChanges) := goodIn_app (goodIn_of _ (by decide +kernel)) ggX1_isSteady_X0_neverChanges
theorem dX1_isSteady_0 : decode cX1_isSteady 0 = .ok (.aload_n 0, 1) := by decide +kernel
theorem dX1_isSteady_1 : decode cX1_isSteady 1 = .ok (.iload_n 1, 1) := by decide +kernel
theorem dX1_isSteady_2 : decode cX1_isSteady 2 = .ok (.invokevirtual 35, 3) := by decide +kernel
theorem dX1_isSteady_5 : decode cX1_isSteady 5 = .ok (.aload_n 0, 1) := by decide +kernel
theorem dX1_isSteady_6 : decode cX1_isSteady 6 = .ok (.getfield 11, 3) := by decide +kernel
theorem dX1_isSteady_9 : decode cX1_isSteady 9 = .ok (.iload_n 1, 1) := by decide +kernel
theorem dX1_isSteady_10 : decode cX1_isSteady 10 = .ok (.aaload, 1) := by decide +kernel
theorem dX1_isSteady_11 : decode cX1_isSteady 11 = .ok (.invokevirtual 103, 3) := by decide +kernel
theorem dX1_isSteady_14 : decode cX1_isSteady 14 = .ok (.ireturn, 1) := by decide +kernel
set_option maxRecDepth 20000 in
theorem ggX1_cycleOf_X1_needLamp : GoodIn wsX1_cycleOf wsX1_needLamp := goodIn_ca (goodIn_r _ [6, 7, 8, 9, 37, 38, 39, 40, 41] (by decide +kernel) (by decide +kernel)) (goodIn_sub (fun _ h => List.mem_cons_of_mem _ (List.mem_append_right _ h)) (by decide +kernel))
set_option maxRecDepth 20000 in
theorem gX1_cycleOf_X1_needLamp : GoodIn wsX1_cycleOf (wsV RX1 35 RX1 yX1_needLamp wsX1_needLamp) := goodIn_app (goodIn_of _ (by decide +kernel)) ggX1_cycleOf_X1_needLamp
set_option maxRecDepth 20000 in
theorem ggX1_cycleOf_X0_cycle : GoodIn wsX1_cycleOf wsX0_cycle := goodIn_r _ [14, 15, 16, 17, 18, 13, 19, 20, 21, 22, 23, 24, 25, 26, 27, 28, 29, 30, 31, 32, 33, 34, 35, 36, 42, 43, 44, 45, 46] (by decide +kernel) (by decide +kernel)
set_option maxRecDepth 20000 in
theorem gX1_cycleOf_X0_cycle : GoodIn wsX1_cycleOf (wsV RX1 107 RX0 yX0_cycle wsX0_cycle) := goodIn_app (goodIn_of _ (by decide +kernel)) ggX1_cycleOf_X0_cycle
theorem dX1_cycleOf_0 : decode cX1_cycleOf 0 = .ok (.aload_n 0, 1) := by decide +kernel
theorem dX1_cycleOf_1 : decode cX1_cycleOf 1 = .ok (.iload_n 1, 1) := by decide +kernel
theorem dX1_cycleOf_2 : decode cX1_cycleOf 2 = .ok (.invokevirtual 35, 3) := by decide +kernel
theorem dX1_cycleOf_5 : decode cX1_cycleOf 5 = .ok (.aload_n 0, 1) := by decide +kernel
theorem dX1_cycleOf_6 : decode cX1_cycleOf 6 = .ok (.getfield 11, 3) := by decide +kernel
theorem dX1_cycleOf_9 : decode cX1_cycleOf 9 = .ok (.iload_n 1, 1) := by decide +kernel
theorem dX1_cycleOf_10 : decode cX1_cycleOf 10 = .ok (.aaload, 1) := by decide +kernel
theorem dX1_cycleOf_11 : decode cX1_cycleOf 11 = .ok (.invokevirtual 107, 3) := by decide +kernel
theorem dX1_cycleOf_14 : decode cX1_cycleOf 14 = .ok (.ireturn, 1) := by decide +kernel
set_option maxRecDepth 20000 in
theorem ggX1_momentsUntilChange_X1_needLamp : GoodIn wsX1_momentsUntilChange wsX1_needLamp := goodIn_ca (goodIn_r _ [7, 8, 9, 10, 38, 39, 40, 41, 42] (by decide +kernel) (by decide +kernel)) (goodIn_sub (fun _ h => List.mem_cons_of_mem _ (List.mem_append_right _ h)) (by decide +kernel))
set_option maxRecDepth 20000 in
theorem gX1_momentsUntilChange_X1_needLamp : GoodIn wsX1_momentsUntilChange (wsV RX1 35 RX1 yX1_needLamp wsX1_needLamp) := goodIn_app (goodIn_of _ (by decide +kernel)) ggX1_momentsUntilChange_X1_needLamp
set_option maxRecDepth 20000 in
theorem ggX1_momentsUntilChange_X0_untilChange : GoodIn wsX1_momentsUntilChange wsX0_untilChange := goodIn_r _ [15, 16, 17, 18, 14, 19, 20, 21, 22, 23, 24, 25, 26, 27, 28, 29, 30, 31, 32, 33, 34, 35, 36, 37, 43, 44, 45, 46, 47] (by decide +kernel) (by decide +kernel)
set_option maxRecDepth 20000 in
theorem gX1_momentsUntilChange_X0_untilChange : GoodIn wsX1_momentsUntilChange (wsV RX1 111 RX0 yX0_untilChange wsX0_untilChange) := goodIn_app (goodIn_of _ (by decide +kernel)) ggX1_momentsUntilChange_X0_untilChange
theorem dX1_momentsUntilChange_0 : decode cX1_momentsUntilChange 0 = .ok (.aload_n 0, 1) := by decide +kernel
theorem dX1_momentsUntilChange_1 : decode cX1_momentsUntilChange 1 = .ok (.iload_n 1, 1) := by decide +kernel
theorem dX1_momentsUntilChange_2 : decode cX1_momentsUntilChange 2 = .ok (.invokevirtual 35, 3) := by decide +kernel
theorem dX1_momentsUntilChange_5 : decode cX1_momentsUntilChange 5 = .ok (.aload_n 0, 1) := by decide +kernel
theorem dX1_momentsUntilChange_6 : decode cX1_momentsUntilChange 6 = .ok (.getfield 11, 3) := by decide +kernel
theorem dX1_momentsUntilChange_9 : decode cX1_momentsUntilChange 9 = .ok (.iload_n 1, 1) := by decide +kernel
theorem dX1_momentsUntilChange_10 : decode cX1_momentsUntilChange 10 = .ok (.aaload, 1) := by decide +kernel
theorem dX1_momentsUntilChange_11 : decode cX1_momentsUntilChange 11 = .ok (.aload_n 0, 1) := by decide +kernel
theorem dX1_momentsUntilChange_12 : decode cX1_momentsUntilChange 12 = .ok (.getfield 73, 3) := by decide +kernel
theorem dX1_momentsUntilChange_15 : decode cX1_momentsUntilChange 15 = .ok (.invokevirtual 111, 3) := by decide +kernel
theorem dX1_momentsUntilChange_18 : decode cX1_momentsUntilChange 18 = .ok (.ireturn, 1) := by decide +kernel
set_option maxRecDepth 20000 in
theorem ggX1_shows_X1_needLamp : GoodIn wsX1_shows wsX1_needLamp := goodIn_ca (goodIn_r _ [7, 8, 9, 10, 31, 32, 33, 34, 35] (by decide +kernel) (by decide +kernel)) (goodIn_sub (fun _ h => List.mem_cons_of_mem _ (List.mem_append_left _ (List.mem_append_right _ h))) (by decide +kernel))
set_option maxRecDepth 20000 in
theorem gX1_shows_X1_needLamp : GoodIn wsX1_shows (wsV RX1 35 RX1 yX1_needLamp wsX1_needLamp) := goodIn_app (goodIn_of _ (by decide +kernel)) ggX1_shows_X1_needLamp
set_option maxRecDepth 20000 in
theorem ggX1_shows_X1_needMoments : GoodIn wsX1_shows wsX1_needMoments := goodIn_ca (goodIn_r _ [13, 14, 15] (by decide +kernel) (by decide +kernel)) (goodIn_sub (fun _ h => List.mem_cons_of_mem _ (List.mem_append_right _ h)) (by decide +kernel))
set_option maxRecDepth 20000 in
theorem gX1_shows_X1_needMoments : GoodIn wsX1_shows (va_wsS RX1 70 yX1_needMoments wsX1_needMoments) := goodIn_app (goodIn_of _ (by decide +kernel)) ggX1_shows_X1_needMoments
set_option maxRecDepth 20000 in
theorem ggX1_shows_X0_onAt : GoodIn wsX1_shows wsX0_onAt := goodIn_r _ [20, 21, 22, 23, 24, 25, 26, 19, 27, 28, 29, 30, 36, 37, 38, 39, 40] (by decide +kernel) (by decide +kernel)
set_option maxRecDepth 20000 in
theorem gX1_shows_X0_onAt : GoodIn wsX1_shows (wsV RX1 83 RX0 yX0_onAt wsX0_onAt) := goodIn_app (goodIn_of _ (by decide +kernel)) ggX1_shows_X0_onAt
theorem dX1_shows_0 : decode cX1_shows 0 = .ok (.aload_n 0, 1) := by decide +kernel
theorem dX1_shows_1 : decode cX1_shows 1 = .ok (.iload_n 1, 1) := by decide +kernel
theorem dX1_shows_2 : decode cX1_shows 2 = .ok (.invokevirtual 35, 3) := by decide +kernel
theorem dX1_shows_5 : decode cX1_shows 5 = .ok (.iload_n 2, 1) := by decide +kernel
theorem dX1_shows_6 : decode cX1_shows 6 = .ok (.bipush 30, 2) := by decide +kernel
theorem dX1_shows_8 : decode cX1_shows 8 = .ok (.invokestatic 70, 3) := by decide +kernel
theorem dX1_shows_11 : decode cX1_shows 11 = .ok (.iconst 0, 1) := by decide +kernel
theorem dX1_shows_12 : decode cX1_shows 12 = .ok (.istore_n 3, 1) := by decide +kernel
theorem dX1_shows_13 : decode cX1_shows 13 = .ok (.iconst 0, 1) := by decide +kernel
theorem dX1_shows_14 : decode cX1_shows 14 = .ok (.istore 4, 2) := by decide +kernel
theorem dX1_shows_16 : decode cX1_shows 16 = .ok (.iload 4, 2) := by decide +kernel
theorem dX1_shows_18 : decode cX1_shows 18 = .ok (.iload_n 2, 1) := by decide +kernel
theorem dX1_shows_19 : decode cX1_shows 19 = .ok (.if_icmp .ge 38, 3) := by decide +kernel
theorem dX1_shows_22 : decode cX1_shows 22 = .ok (.iconst 2, 1) := by decide +kernel
theorem dX1_shows_23 : decode cX1_shows 23 = .ok (.iload_n 3, 1) := by decide +kernel
theorem dX1_shows_24 : decode cX1_shows 24 = .ok (.imul, 1) := by decide +kernel
theorem dX1_shows_25 : decode cX1_shows 25 = .ok (.aload_n 0, 1) := by decide +kernel
theorem dX1_shows_26 : decode cX1_shows 26 = .ok (.getfield 11, 3) := by decide +kernel
theorem dX1_shows_29 : decode cX1_shows 29 = .ok (.iload_n 1, 1) := by decide +kernel
theorem dX1_shows_30 : decode cX1_shows 30 = .ok (.aaload, 1) := by decide +kernel
theorem dX1_shows_31 : decode cX1_shows 31 = .ok (.aload_n 0, 1) := by decide +kernel
theorem dX1_shows_32 : decode cX1_shows 32 = .ok (.getfield 73, 3) := by decide +kernel
theorem dX1_shows_35 : decode cX1_shows 35 = .ok (.iload 4, 2) := by decide +kernel
theorem dX1_shows_37 : decode cX1_shows 37 = .ok (.iadd, 1) := by decide +kernel
theorem dX1_shows_38 : decode cX1_shows 38 = .ok (.invokevirtual 83, 3) := by decide +kernel
theorem dX1_shows_41 : decode cX1_shows 41 = .ok (.ifCond .eq 7, 3) := by decide +kernel
theorem dX1_shows_44 : decode cX1_shows 44 = .ok (.iconst 1, 1) := by decide +kernel
theorem dX1_shows_45 : decode cX1_shows 45 = .ok (.goto 4, 3) := by decide +kernel
theorem dX1_shows_48 : decode cX1_shows 48 = .ok (.iconst 0, 1) := by decide +kernel
theorem dX1_shows_49 : decode cX1_shows 49 = .ok (.iadd, 1) := by decide +kernel
theorem dX1_shows_50 : decode cX1_shows 50 = .ok (.istore_n 3, 1) := by decide +kernel
theorem dX1_shows_51 : decode cX1_shows 51 = .ok (.iinc 4 1, 3) := by decide +kernel
theorem dX1_shows_54 : decode cX1_shows 54 = .ok (.goto (-38), 3) := by decide +kernel
theorem dX1_shows_57 : decode cX1_shows 57 = .ok (.iload_n 3, 1) := by decide +kernel
theorem dX1_shows_58 : decode cX1_shows 58 = .ok (.ireturn, 1) := by decide +kernel
set_option maxRecDepth 20000 in
theorem ggX1_momentsUntilCollision_X1_needPair : GoodIn wsX1_momentsUntilCollision wsX1_needPair := goodIn_ca (goodIn_ca (goodIn_r _ [6, 7, 8, 9, 10, 11, 5, 12, 13, 14, 15, 36, 37, 38, 39, 40] (by decide +kernel) (by decide +kernel)) (goodIn_sub (fun _ h => List.mem_cons_of_mem _ (List.mem_append_left _ (List.mem_append_right _ h))) (by decide +kernel))) (goodIn_sub (fun _ h => List.mem_cons_of_mem _ (List.mem_append_right _ h)) (by decide +kernel))
set_option maxRecDepth 20000 in
theorem gX1_momentsUntilCollision_X1_needPair : GoodIn wsX1_momentsUntilCollision (wsV RX1 114 RX1 yX1_needPair wsX1_needPair) := goodIn_app (goodIn_of _ (by decide +kernel)) ggX1_momentsUntilCollision_X1_needPair
set_option maxRecDepth 20000 in
theorem ggX1_momentsUntilCollision_X1_collideAt : GoodIn wsX1_momentsUntilCollision wsX1_collideAt := goodIn_r _ [19, 20, 21, 22, 23, 24, 25, 26, 27, 28, 29, 30, 31, 32, 33, 34, 35, 36, 37, 38, 39, 40, 41, 42, 43, 44, 45] (by decide +kernel) (by decide +kernel)
set_option maxRecDepth 20000 in
theorem gX1_momentsUntilCollision_X1_collideAt : GoodIn wsX1_momentsUntilCollision (wsV RX1 117 RX1 yX1_collideAt wsX1_collideAt) := goodIn_app (goodIn_of _ (by decide +kernel)) ggX1_momentsUntilCollision_X1_collideAt
theorem dX1_momentsUntilCollision_0 : decode cX1_momentsUntilCollision 0 = .ok (.aload_n 0, 1) := by decide +kernel
theorem dX1_momentsUntilCollision_1 : decode cX1_momentsUntilCollision 1 = .ok (.iload_n 1, 1) := by decide +kernel
theorem dX1_momentsUntilCollision_2 : decode cX1_momentsUntilCollision 2 = .ok (.iload_n 2, 1) := by decide +kernel
theorem dX1_momentsUntilCollision_3 : decode cX1_momentsUntilCollision 3 = .ok (.invokevirtual 114, 3) := by decide +kernel
theorem dX1_momentsUntilCollision_6 : decode cX1_momentsUntilCollision 6 = .ok (.iconst 1, 1) := by decide +kernel
theorem dX1_momentsUntilCollision_7 : decode cX1_momentsUntilCollision 7 = .ok (.istore_n 3, 1) := by decide +kernel
theorem dX1_momentsUntilCollision_8 : decode cX1_momentsUntilCollision 8 = .ok (.iload_n 3, 1) := by decide +kernel
theorem dX1_momentsUntilCollision_9 : decode cX1_momentsUntilCollision 9 = .ok (.sipush 1000, 3) := by decide +kernel
theorem dX1_momentsUntilCollision_12 : decode cX1_momentsUntilCollision 12 = .ok (.if_icmp .gt 26, 3) := by decide +kernel
theorem dX1_momentsUntilCollision_15 : decode cX1_momentsUntilCollision 15 = .ok (.aload_n 0, 1) := by decide +kernel
theorem dX1_momentsUntilCollision_16 : decode cX1_momentsUntilCollision 16 = .ok (.iload_n 1, 1) := by decide +kernel
theorem dX1_momentsUntilCollision_17 : decode cX1_momentsUntilCollision 17 = .ok (.iload_n 2, 1) := by decide +kernel
theorem dX1_momentsUntilCollision_18 : decode cX1_momentsUntilCollision 18 = .ok (.aload_n 0, 1) := by decide +kernel
theorem dX1_momentsUntilCollision_19 : decode cX1_momentsUntilCollision 19 = .ok (.getfield 73, 3) := by decide +kernel
theorem dX1_momentsUntilCollision_22 : decode cX1_momentsUntilCollision 22 = .ok (.iload_n 3, 1) := by decide +kernel
theorem dX1_momentsUntilCollision_23 : decode cX1_momentsUntilCollision 23 = .ok (.iadd, 1) := by decide +kernel
theorem dX1_momentsUntilCollision_24 : decode cX1_momentsUntilCollision 24 = .ok (.invokevirtual 117, 3) := by decide +kernel
theorem dX1_momentsUntilCollision_27 : decode cX1_momentsUntilCollision 27 = .ok (.ifCond .eq 5, 3) := by decide +kernel
theorem dX1_momentsUntilCollision_30 : decode cX1_momentsUntilCollision 30 = .ok (.iload_n 3, 1) := by decide +kernel
theorem dX1_momentsUntilCollision_31 : decode cX1_momentsUntilCollision 31 = .ok (.ireturn, 1) := by decide +kernel
theorem dX1_momentsUntilCollision_32 : decode cX1_momentsUntilCollision 32 = .ok (.iinc 3 1, 3) := by decide +kernel
theorem dX1_momentsUntilCollision_35 : decode cX1_momentsUntilCollision 35 = .ok (.goto (-27), 3) := by decide +kernel
theorem dX1_momentsUntilCollision_38 : decode cX1_momentsUntilCollision 38 = .ok (.iconst (-1), 1) := by decide +kernel
theorem dX1_momentsUntilCollision_39 : decode cX1_momentsUntilCollision 39 = .ok (.ireturn, 1) := by decide +kernel
set_option maxRecDepth 20000 in
theorem ggX1_collisionsWithin_X1_needPair : GoodIn wsX1_collisionsWithin wsX1_needPair := goodIn_ca (goodIn_ca (goodIn_r _ [6, 7, 8, 9, 10, 11, 5, 12, 13, 14, 15, 39, 40, 41, 42, 43] (by decide +kernel) (by decide +kernel)) (goodIn_sub (fun _ h => List.mem_cons_of_mem _ (List.mem_append_left _ (List.mem_append_right _ h))) (by decide +kernel))) (goodIn_sub (fun _ h => List.mem_cons_of_mem _ (List.mem_append_right _ h)) (by decide +kernel))
set_option maxRecDepth 20000 in
theorem gX1_collisionsWithin_X1_needPair : GoodIn wsX1_collisionsWithin (wsV RX1 114 RX1 yX1_needPair wsX1_needPair) := goodIn_app (goodIn_of _ (by decide +kernel)) ggX1_collisionsWithin_X1_needPair
set_option maxRecDepth 20000 in
theorem ggX1_collisionsWithin_X1_needMoments : GoodIn wsX1_collisionsWithin wsX1_needMoments := goodIn_ca (goodIn_r _ [18, 7, 8] (by decide +kernel) (by decide +kernel)) (goodIn_sub (fun _ h => List.mem_cons_of_mem _ (List.mem_append_left _ (List.mem_append_right _ h))) (by decide +kernel))
set_option maxRecDepth 20000 in
theorem gX1_collisionsWithin_X1_needMoments : GoodIn wsX1_collisionsWithin (va_wsS RX1 70 yX1_needMoments wsX1_needMoments) := goodIn_app (goodIn_of _ (by decide +kernel)) ggX1_collisionsWithin_X1_needMoments
set_option maxRecDepth 20000 in
theorem ggX1_collisionsWithin_X1_collideAt : GoodIn wsX1_collisionsWithin wsX1_collideAt := goodIn_r _ [22, 23, 24, 25, 26, 27, 28, 29, 30, 31, 32, 33, 34, 35, 36, 37, 38, 39, 40, 41, 42, 43, 44, 45, 46, 47, 48] (by decide +kernel) (by decide +kernel)
set_option maxRecDepth 20000 in
theorem gX1_collisionsWithin_X1_collideAt : GoodIn wsX1_collisionsWithin (wsV RX1 117 RX1 yX1_collideAt wsX1_collideAt) := goodIn_app (goodIn_of _ (by decide +kernel)) ggX1_collisionsWithin_X1_collideAt
theorem dX1_collisionsWithin_0 : decode cX1_collisionsWithin 0 = .ok (.aload_n 0, 1) := by decide +kernel
theorem dX1_collisionsWithin_1 : decode cX1_collisionsWithin 1 = .ok (.iload_n 1, 1) := by decide +kernel
theorem dX1_collisionsWithin_2 : decode cX1_collisionsWithin 2 = .ok (.iload_n 2, 1) := by decide +kernel
theorem dX1_collisionsWithin_3 : decode cX1_collisionsWithin 3 = .ok (.invokevirtual 114, 3) := by decide +kernel
theorem dX1_collisionsWithin_6 : decode cX1_collisionsWithin 6 = .ok (.iload_n 3, 1) := by decide +kernel
theorem dX1_collisionsWithin_7 : decode cX1_collisionsWithin 7 = .ok (.sipush 500, 3) := by decide +kernel
theorem dX1_collisionsWithin_10 : decode cX1_collisionsWithin 10 = .ok (.invokestatic 70, 3) := by decide +kernel
theorem dX1_collisionsWithin_13 : decode cX1_collisionsWithin 13 = .ok (.iconst 0, 1) := by decide +kernel
theorem dX1_collisionsWithin_14 : decode cX1_collisionsWithin 14 = .ok (.istore 4, 2) := by decide +kernel
theorem dX1_collisionsWithin_16 : decode cX1_collisionsWithin 16 = .ok (.iconst 1, 1) := by decide +kernel
theorem dX1_collisionsWithin_17 : decode cX1_collisionsWithin 17 = .ok (.istore 5, 2) := by decide +kernel
theorem dX1_collisionsWithin_19 : decode cX1_collisionsWithin 19 = .ok (.iload 5, 2) := by decide +kernel
theorem dX1_collisionsWithin_21 : decode cX1_collisionsWithin 21 = .ok (.iload_n 3, 1) := by decide +kernel
theorem dX1_collisionsWithin_22 : decode cX1_collisionsWithin 22 = .ok (.if_icmp .gt 28, 3) := by decide +kernel
theorem dX1_collisionsWithin_25 : decode cX1_collisionsWithin 25 = .ok (.aload_n 0, 1) := by decide +kernel
theorem dX1_collisionsWithin_26 : decode cX1_collisionsWithin 26 = .ok (.iload_n 1, 1) := by decide +kernel
theorem dX1_collisionsWithin_27 : decode cX1_collisionsWithin 27 = .ok (.iload_n 2, 1) := by decide +kernel
theorem dX1_collisionsWithin_28 : decode cX1_collisionsWithin 28 = .ok (.aload_n 0, 1) := by decide +kernel
theorem dX1_collisionsWithin_29 : decode cX1_collisionsWithin 29 = .ok (.getfield 73, 3) := by decide +kernel
theorem dX1_collisionsWithin_32 : decode cX1_collisionsWithin 32 = .ok (.iload 5, 2) := by decide +kernel
theorem dX1_collisionsWithin_34 : decode cX1_collisionsWithin 34 = .ok (.iadd, 1) := by decide +kernel
theorem dX1_collisionsWithin_35 : decode cX1_collisionsWithin 35 = .ok (.invokevirtual 117, 3) := by decide +kernel
theorem dX1_collisionsWithin_38 : decode cX1_collisionsWithin 38 = .ok (.ifCond .eq 6, 3) := by decide +kernel
theorem dX1_collisionsWithin_41 : decode cX1_collisionsWithin 41 = .ok (.iinc 4 1, 3) := by decide +kernel
theorem dX1_collisionsWithin_44 : decode cX1_collisionsWithin 44 = .ok (.iinc 5 1, 3) := by decide +kernel
theorem dX1_collisionsWithin_47 : decode cX1_collisionsWithin 47 = .ok (.goto (-28), 3) := by decide +kernel
theorem dX1_collisionsWithin_50 : decode cX1_collisionsWithin 50 = .ok (.iload 4, 2) := by decide +kernel
theorem dX1_collisionsWithin_52 : decode cX1_collisionsWithin 52 = .ok (.ireturn, 1) := by decide +kernel
set_option maxRecDepth 20000 in
theorem ggX1_momentsUntilToldApart_X1_needPair : GoodIn wsX1_momentsUntilToldApart wsX1_needPair := goodIn_ca (goodIn_ca (goodIn_r _ [8, 9, 10, 11, 12, 13, 7, 14, 15, 16, 17, 65, 66, 67, 68, 69] (by decide +kernel) (by decide +kernel)) (goodIn_sub (fun _ h => List.mem_cons_of_mem _ (List.mem_append_left _ (List.mem_append_right _ h))) (by decide +kernel))) (goodIn_sub (fun _ h => List.mem_cons_of_mem _ (List.mem_append_right _ h)) (by decide +kernel))
set_option maxRecDepth 20000 in
theorem gX1_momentsUntilToldApart_X1_needPair : GoodIn wsX1_momentsUntilToldApart (wsV RX1 114 RX1 yX1_needPair wsX1_needPair) := goodIn_app (goodIn_of _ (by decide +kernel)) ggX1_momentsUntilToldApart_X1_needPair
set_option maxRecDepth 20000 in
theorem ggX1_momentsUntilToldApart_X0_becomeDifference : GoodIn wsX1_momentsUntilToldApart wsX0_becomeDifference := goodIn_r _ [22, 23, 24, 25, 26, 27, 21, 28, 29, 30, 31, 32, 33, 34, 70, 71, 72, 73, 74] (by decide +kernel) (by decide +kernel)
set_option maxRecDepth 20000 in
theorem gX1_momentsUntilToldApart_X0_becomeDifference : GoodIn wsX1_momentsUntilToldApart (wsV RX1 121 RX0 yX0_becomeDifference wsX0_becomeDifference) := goodIn_app (goodIn_of _ (by decide +kernel)) ggX1_momentsUntilToldApart_X0_becomeDifference
set_option maxRecDepth 20000 in
theorem ggX1_momentsUntilToldApart_X0_onAt : GoodIn wsX1_momentsUntilToldApart wsX0_onAt := goodIn_r _ [38, 24, 29, 30, 23, 39, 40, 21, 41, 42, 43, 44, 70, 71, 72, 73, 74] (by decide +kernel) (by decide +kernel)
set_option maxRecDepth 20000 in
theorem gX1_momentsUntilToldApart_X0_onAt : GoodIn wsX1_momentsUntilToldApart (wsV RX1 83 RX0 yX0_onAt wsX0_onAt) := goodIn_app (goodIn_of _ (by decide +kernel)) ggX1_momentsUntilToldApart_X0_onAt
set_option maxRecDepth 20000 in
theorem ggX1_momentsUntilToldApart_X0_untilChange : GoodIn wsX1_momentsUntilToldApart wsX0_untilChange := goodIn_r _ [48, 49, 50, 51, 21, 52, 53, 54, 55, 56, 24, 29, 30, 57, 58, 59, 60, 61, 62, 63, 64, 42, 43, 44, 70, 71, 72, 73, 74] (by decide +kernel) (by decide +kernel)
set_option maxRecDepth 20000 in
theorem gX1_momentsUntilToldApart_X0_untilChange : GoodIn wsX1_momentsUntilToldApart (wsV RX1 111 RX0 yX0_untilChange wsX0_untilChange) := goodIn_app (goodIn_of _ (by decide +kernel)) ggX1_momentsUntilToldApart_X0_untilChange
theorem dX1_momentsUntilToldApart_0 : decode cX1_momentsUntilToldApart 0 = .ok (.aload_n 0, 1) := by decide +kernel
theorem dX1_momentsUntilToldApart_1 : decode cX1_momentsUntilToldApart 1 = .ok (.iload_n 1, 1) := by decide +kernel
theorem dX1_momentsUntilToldApart_2 : decode cX1_momentsUntilToldApart 2 = .ok (.iload_n 2, 1) := by decide +kernel
theorem dX1_momentsUntilToldApart_3 : decode cX1_momentsUntilToldApart 3 = .ok (.invokevirtual 114, 3) := by decide +kernel
theorem dX1_momentsUntilToldApart_6 : decode cX1_momentsUntilToldApart 6 = .ok (.aload_n 0, 1) := by decide +kernel
theorem dX1_momentsUntilToldApart_7 : decode cX1_momentsUntilToldApart 7 = .ok (.getfield 16, 3) := by decide +kernel
theorem dX1_momentsUntilToldApart_10 : decode cX1_momentsUntilToldApart 10 = .ok (.aload_n 0, 1) := by decide +kernel
theorem dX1_momentsUntilToldApart_11 : decode cX1_momentsUntilToldApart 11 = .ok (.getfield 11, 3) := by decide +kernel
theorem dX1_momentsUntilToldApart_14 : decode cX1_momentsUntilToldApart 14 = .ok (.iload_n 1, 1) := by decide +kernel
theorem dX1_momentsUntilToldApart_15 : decode cX1_momentsUntilToldApart 15 = .ok (.aaload, 1) := by decide +kernel
theorem dX1_momentsUntilToldApart_16 : decode cX1_momentsUntilToldApart 16 = .ok (.aload_n 0, 1) := by decide +kernel
theorem dX1_momentsUntilToldApart_17 : decode cX1_momentsUntilToldApart 17 = .ok (.getfield 11, 3) := by decide +kernel
theorem dX1_momentsUntilToldApart_20 : decode cX1_momentsUntilToldApart 20 = .ok (.iload_n 2, 1) := by decide +kernel
theorem dX1_momentsUntilToldApart_21 : decode cX1_momentsUntilToldApart 21 = .ok (.aaload, 1) := by decide +kernel
theorem dX1_momentsUntilToldApart_22 : decode cX1_momentsUntilToldApart 22 = .ok (.invokevirtual 121, 3) := by decide +kernel
theorem dX1_momentsUntilToldApart_25 : decode cX1_momentsUntilToldApart 25 = .ok (.aload_n 0, 1) := by decide +kernel
theorem dX1_momentsUntilToldApart_26 : decode cX1_momentsUntilToldApart 26 = .ok (.getfield 16, 3) := by decide +kernel
theorem dX1_momentsUntilToldApart_29 : decode cX1_momentsUntilToldApart 29 = .ok (.aload_n 0, 1) := by decide +kernel
theorem dX1_momentsUntilToldApart_30 : decode cX1_momentsUntilToldApart 30 = .ok (.getfield 73, 3) := by decide +kernel
theorem dX1_momentsUntilToldApart_33 : decode cX1_momentsUntilToldApart 33 = .ok (.invokevirtual 83, 3) := by decide +kernel
theorem dX1_momentsUntilToldApart_36 : decode cX1_momentsUntilToldApart 36 = .ok (.ifCond .eq 5, 3) := by decide +kernel
theorem dX1_momentsUntilToldApart_39 : decode cX1_momentsUntilToldApart 39 = .ok (.iconst 0, 1) := by decide +kernel
theorem dX1_momentsUntilToldApart_40 : decode cX1_momentsUntilToldApart 40 = .ok (.ireturn, 1) := by decide +kernel
theorem dX1_momentsUntilToldApart_41 : decode cX1_momentsUntilToldApart 41 = .ok (.aload_n 0, 1) := by decide +kernel
theorem dX1_momentsUntilToldApart_42 : decode cX1_momentsUntilToldApart 42 = .ok (.getfield 16, 3) := by decide +kernel
theorem dX1_momentsUntilToldApart_45 : decode cX1_momentsUntilToldApart 45 = .ok (.aload_n 0, 1) := by decide +kernel
theorem dX1_momentsUntilToldApart_46 : decode cX1_momentsUntilToldApart 46 = .ok (.getfield 73, 3) := by decide +kernel
theorem dX1_momentsUntilToldApart_49 : decode cX1_momentsUntilToldApart 49 = .ok (.invokevirtual 111, 3) := by decide +kernel
theorem dX1_momentsUntilToldApart_52 : decode cX1_momentsUntilToldApart 52 = .ok (.ireturn, 1) := by decide +kernel
set_option maxRecDepth 20000 in
theorem ggX1_momentsUntilDark_X1_darkAt : GoodIn wsX1_momentsUntilDark wsX1_darkAt := goodIn_r _ [6, 7, 8, 9, 10, 11, 12, 13, 14, 15, 16, 17, 18, 19, 20, 21, 22, 23, 24, 25, 26, 27, 28, 29, 30, 31, 32, 33, 34, 35, 36, 37, 38] (by decide +kernel) (by decide +kernel)
set_option maxRecDepth 20000 in
theorem gX1_momentsUntilDark_X1_darkAt : GoodIn wsX1_momentsUntilDark (wsV RX1 93 RX1 yX1_darkAt wsX1_darkAt) := goodIn_app (goodIn_of _ (by decide +kernel)) ggX1_momentsUntilDark_X1_darkAt
theorem dX1_momentsUntilDark_0 : decode cX1_momentsUntilDark 0 = .ok (.iconst 0, 1) := by decide +kernel
theorem dX1_momentsUntilDark_1 : decode cX1_momentsUntilDark 1 = .ok (.istore_n 1, 1) := by decide +kernel
theorem dX1_momentsUntilDark_2 : decode cX1_momentsUntilDark 2 = .ok (.iload_n 1, 1) := by decide +kernel
theorem dX1_momentsUntilDark_3 : decode cX1_momentsUntilDark 3 = .ok (.sipush 2000, 3) := by decide +kernel
theorem dX1_momentsUntilDark_6 : decode cX1_momentsUntilDark 6 = .ok (.if_icmp .gt 25, 3) := by decide +kernel
theorem dX1_momentsUntilDark_9 : decode cX1_momentsUntilDark 9 = .ok (.aload_n 0, 1) := by decide +kernel
theorem dX1_momentsUntilDark_10 : decode cX1_momentsUntilDark 10 = .ok (.aload_n 0, 1) := by decide +kernel
theorem dX1_momentsUntilDark_11 : decode cX1_momentsUntilDark 11 = .ok (.getfield 73, 3) := by decide +kernel
theorem dX1_momentsUntilDark_14 : decode cX1_momentsUntilDark 14 = .ok (.iload_n 1, 1) := by decide +kernel
theorem dX1_momentsUntilDark_15 : decode cX1_momentsUntilDark 15 = .ok (.iadd, 1) := by decide +kernel
theorem dX1_momentsUntilDark_16 : decode cX1_momentsUntilDark 16 = .ok (.iconst (-1), 1) := by decide +kernel
theorem dX1_momentsUntilDark_17 : decode cX1_momentsUntilDark 17 = .ok (.invokevirtual 93, 3) := by decide +kernel
theorem dX1_momentsUntilDark_20 : decode cX1_momentsUntilDark 20 = .ok (.ifCond .eq 5, 3) := by decide +kernel
theorem dX1_momentsUntilDark_23 : decode cX1_momentsUntilDark 23 = .ok (.iload_n 1, 1) := by decide +kernel
theorem dX1_momentsUntilDark_24 : decode cX1_momentsUntilDark 24 = .ok (.ireturn, 1) := by decide +kernel
theorem dX1_momentsUntilDark_25 : decode cX1_momentsUntilDark 25 = .ok (.iinc 1 1, 3) := by decide +kernel
theorem dX1_momentsUntilDark_28 : decode cX1_momentsUntilDark 28 = .ok (.goto (-26), 3) := by decide +kernel
theorem dX1_momentsUntilDark_31 : decode cX1_momentsUntilDark 31 = .ok (.iconst (-1), 1) := by decide +kernel
theorem dX1_momentsUntilDark_32 : decode cX1_momentsUntilDark 32 = .ok (.ireturn, 1) := by decide +kernel
set_option maxRecDepth 20000 in
theorem ggX1_darkWithin_X1_needMoments : GoodIn wsX1_darkWithin wsX1_needMoments := goodIn_ca (goodIn_r _ [4, 5, 6] (by decide +kernel) (by decide +kernel)) (goodIn_sub (fun _ h => List.mem_cons_of_mem _ (List.mem_append_right _ h)) (by decide +kernel))
set_option maxRecDepth 20000 in
theorem gX1_darkWithin_X1_needMoments : GoodIn wsX1_darkWithin (va_wsS RX1 70 yX1_needMoments wsX1_needMoments) := goodIn_app (goodIn_of _ (by decide +kernel)) ggX1_darkWithin_X1_needMoments
set_option maxRecDepth 20000 in
theorem ggX1_darkWithin_X1_darkMoments : GoodIn wsX1_darkWithin wsX1_darkMoments := goodIn_r _ [10, 11, 12, 13, 14, 3, 15, 16, 17, 18, 19, 20, 21, 22, 23, 24, 25, 26, 27, 28, 29, 30, 31, 32, 33, 34, 35, 36, 37, 38, 39, 40, 41, 42, 43, 44, 45, 46, 47] (by decide +kernel) (by decide +kernel)
set_option maxRecDepth 20000 in
theorem gX1_darkWithin_X1_darkMoments : GoodIn wsX1_darkWithin (wsV RX1 125 RX1 yX1_darkMoments wsX1_darkMoments) := goodIn_app (goodIn_of _ (by decide +kernel)) ggX1_darkWithin_X1_darkMoments
theorem dX1_darkWithin_0 : decode cX1_darkWithin 0 = .ok (.iload_n 1, 1) := by decide +kernel
theorem dX1_darkWithin_1 : decode cX1_darkWithin 1 = .ok (.sipush 500, 3) := by decide +kernel
theorem dX1_darkWithin_4 : decode cX1_darkWithin 4 = .ok (.invokestatic 70, 3) := by decide +kernel
theorem dX1_darkWithin_7 : decode cX1_darkWithin 7 = .ok (.aload_n 0, 1) := by decide +kernel
theorem dX1_darkWithin_8 : decode cX1_darkWithin 8 = .ok (.iload_n 1, 1) := by decide +kernel
theorem dX1_darkWithin_9 : decode cX1_darkWithin 9 = .ok (.iconst (-1), 1) := by decide +kernel
theorem dX1_darkWithin_10 : decode cX1_darkWithin 10 = .ok (.invokevirtual 125, 3) := by decide +kernel
theorem dX1_darkWithin_13 : decode cX1_darkWithin 13 = .ok (.ireturn, 1) := by decide +kernel
set_option maxRecDepth 20000 in
theorem ggX1_bestCover_X1_needMoments : GoodIn wsX1_bestCover wsX1_needMoments := goodIn_ca (goodIn_r _ [6, 7, 8] (by decide +kernel) (by decide +kernel)) (goodIn_sub (fun _ h => List.mem_cons_of_mem _ (List.mem_append_right _ h)) (by decide +kernel))
set_option maxRecDepth 20000 in
theorem gX1_bestCover_X1_needMoments : GoodIn wsX1_bestCover (va_wsS RX1 70 yX1_needMoments wsX1_needMoments) := goodIn_app (goodIn_of _ (by decide +kernel)) ggX1_bestCover_X1_needMoments
set_option maxRecDepth 20000 in
theorem ggX1_bestCover_X1_darkMoments : GoodIn wsX1_bestCover wsX1_darkMoments := goodIn_r _ [12, 13, 14, 15, 16, 5, 17, 1, 2, 18, 19, 20, 21, 22, 23, 24, 25, 26, 27, 28, 29, 30, 31, 32, 33, 34, 35, 36, 37, 38, 39, 40, 41, 42, 43, 44, 45, 46, 47] (by decide +kernel) (by decide +kernel)
set_option maxRecDepth 20000 in
theorem gX1_bestCover_X1_darkMoments : GoodIn wsX1_bestCover (wsV RX1 125 RX1 yX1_darkMoments wsX1_darkMoments) := goodIn_app (goodIn_of _ (by decide +kernel)) ggX1_bestCover_X1_darkMoments
theorem dX1_bestCover_0 : decode cX1_bestCover 0 = .ok (.iload_n 1, 1) := by decide +kernel
theorem dX1_bestCover_1 : decode cX1_bestCover 1 = .ok (.sipush 200, 3) := by decide +kernel
theorem dX1_bestCover_4 : decode cX1_bestCover 4 = .ok (.invokestatic 70, 3) := by decide +kernel
theorem dX1_bestCover_7 : decode cX1_bestCover 7 = .ok (.iconst (-1), 1) := by decide +kernel
theorem dX1_bestCover_8 : decode cX1_bestCover 8 = .ok (.istore_n 2, 1) := by decide +kernel
theorem dX1_bestCover_9 : decode cX1_bestCover 9 = .ok (.iconst (-1), 1) := by decide +kernel
theorem dX1_bestCover_10 : decode cX1_bestCover 10 = .ok (.istore_n 3, 1) := by decide +kernel
theorem dX1_bestCover_11 : decode cX1_bestCover 11 = .ok (.iconst 0, 1) := by decide +kernel
theorem dX1_bestCover_12 : decode cX1_bestCover 12 = .ok (.istore 4, 2) := by decide +kernel
theorem dX1_bestCover_14 : decode cX1_bestCover 14 = .ok (.iload 4, 2) := by decide +kernel
theorem dX1_bestCover_16 : decode cX1_bestCover 16 = .ok (.aload_n 0, 1) := by decide +kernel
theorem dX1_bestCover_17 : decode cX1_bestCover 17 = .ok (.getfield 20, 3) := by decide +kernel
theorem dX1_bestCover_20 : decode cX1_bestCover 20 = .ok (.if_icmp .ge 43, 3) := by decide +kernel
theorem dX1_bestCover_23 : decode cX1_bestCover 23 = .ok (.aload_n 0, 1) := by decide +kernel
theorem dX1_bestCover_24 : decode cX1_bestCover 24 = .ok (.getfield 11, 3) := by decide +kernel
theorem dX1_bestCover_27 : decode cX1_bestCover 27 = .ok (.iload 4, 2) := by decide +kernel
theorem dX1_bestCover_29 : decode cX1_bestCover 29 = .ok (.aaload, 1) := by decide +kernel
theorem dX1_bestCover_30 : decode cX1_bestCover 30 = .ok (.getfield 67, 3) := by decide +kernel
theorem dX1_bestCover_33 : decode cX1_bestCover 33 = .ok (.ifCond .ne 24, 3) := by decide +kernel
theorem dX1_bestCover_36 : decode cX1_bestCover 36 = .ok (.aload_n 0, 1) := by decide +kernel
theorem dX1_bestCover_37 : decode cX1_bestCover 37 = .ok (.iload_n 1, 1) := by decide +kernel
theorem dX1_bestCover_38 : decode cX1_bestCover 38 = .ok (.iload 4, 2) := by decide +kernel
theorem dX1_bestCover_40 : decode cX1_bestCover 40 = .ok (.invokevirtual 125, 3) := by decide +kernel
theorem dX1_bestCover_43 : decode cX1_bestCover 43 = .ok (.istore 5, 2) := by decide +kernel
theorem dX1_bestCover_45 : decode cX1_bestCover 45 = .ok (.iload 5, 2) := by decide +kernel
theorem dX1_bestCover_47 : decode cX1_bestCover 47 = .ok (.iload_n 3, 1) := by decide +kernel
theorem dX1_bestCover_48 : decode cX1_bestCover 48 = .ok (.if_icmp .le 9, 3) := by decide +kernel
theorem dX1_bestCover_51 : decode cX1_bestCover 51 = .ok (.iload 5, 2) := by decide +kernel
theorem dX1_bestCover_53 : decode cX1_bestCover 53 = .ok (.istore_n 3, 1) := by decide +kernel
theorem dX1_bestCover_54 : decode cX1_bestCover 54 = .ok (.iload 4, 2) := by decide +kernel
theorem dX1_bestCover_56 : decode cX1_bestCover 56 = .ok (.istore_n 2, 1) := by decide +kernel
theorem dX1_bestCover_57 : decode cX1_bestCover 57 = .ok (.iinc 4 1, 3) := by decide +kernel
theorem dX1_bestCover_60 : decode cX1_bestCover 60 = .ok (.goto (-46), 3) := by decide +kernel
theorem dX1_bestCover_63 : decode cX1_bestCover 63 = .ok (.iload_n 2, 1) := by decide +kernel
theorem dX1_bestCover_64 : decode cX1_bestCover 64 = .ok (.ireturn, 1) := by decide +kernel
theorem dX1_meanBeats_0 : decode cX1_meanBeats 0 = .ok (.aload_n 0, 1) := by decide +kernel
theorem dX1_meanBeats_1 : decode cX1_meanBeats 1 = .ok (.getfield 20, 3) := by decide +kernel
theorem dX1_meanBeats_4 : decode cX1_meanBeats 4 = .ok (.ifCond .ne 5, 3) := by decide +kernel
theorem dX1_meanBeats_7 : decode cX1_meanBeats 7 = .ok (.dconst 0, 1) := by decide +kernel
theorem dX1_meanBeats_8 : decode cX1_meanBeats 8 = .ok (.dreturn, 1) := by decide +kernel
theorem dX1_meanBeats_9 : decode cX1_meanBeats 9 = .ok (.iconst 0, 1) := by decide +kernel
theorem dX1_meanBeats_10 : decode cX1_meanBeats 10 = .ok (.istore_n 1, 1) := by decide +kernel
theorem dX1_meanBeats_11 : decode cX1_meanBeats 11 = .ok (.iconst 0, 1) := by decide +kernel
theorem dX1_meanBeats_12 : decode cX1_meanBeats 12 = .ok (.istore_n 2, 1) := by decide +kernel
theorem dX1_meanBeats_13 : decode cX1_meanBeats 13 = .ok (.iload_n 2, 1) := by decide +kernel
theorem dX1_meanBeats_14 : decode cX1_meanBeats 14 = .ok (.aload_n 0, 1) := by decide +kernel
theorem dX1_meanBeats_15 : decode cX1_meanBeats 15 = .ok (.getfield 20, 3) := by decide +kernel
theorem dX1_meanBeats_18 : decode cX1_meanBeats 18 = .ok (.if_icmp .ge 21, 3) := by decide +kernel
theorem dX1_meanBeats_21 : decode cX1_meanBeats 21 = .ok (.iload_n 1, 1) := by decide +kernel
theorem dX1_meanBeats_22 : decode cX1_meanBeats 22 = .ok (.aload_n 0, 1) := by decide +kernel
theorem dX1_meanBeats_23 : decode cX1_meanBeats 23 = .ok (.getfield 11, 3) := by decide +kernel
theorem dX1_meanBeats_26 : decode cX1_meanBeats 26 = .ok (.iload_n 2, 1) := by decide +kernel
theorem dX1_meanBeats_27 : decode cX1_meanBeats 27 = .ok (.aaload, 1) := by decide +kernel
theorem dX1_meanBeats_28 : decode cX1_meanBeats 28 = .ok (.getfield 46, 3) := by decide +kernel
theorem dX1_meanBeats_31 : decode cX1_meanBeats 31 = .ok (.iadd, 1) := by decide +kernel
theorem dX1_meanBeats_32 : decode cX1_meanBeats 32 = .ok (.istore_n 1, 1) := by decide +kernel
theorem dX1_meanBeats_33 : decode cX1_meanBeats 33 = .ok (.iinc 2 1, 3) := by decide +kernel
theorem dX1_meanBeats_36 : decode cX1_meanBeats 36 = .ok (.goto (-23), 3) := by decide +kernel
theorem dX1_meanBeats_39 : decode cX1_meanBeats 39 = .ok (.iload_n 1, 1) := by decide +kernel
theorem dX1_meanBeats_40 : decode cX1_meanBeats 40 = .ok (.i2d, 1) := by decide +kernel
theorem dX1_meanBeats_41 : decode cX1_meanBeats 41 = .ok (.aload_n 0, 1) := by decide +kernel
theorem dX1_meanBeats_42 : decode cX1_meanBeats 42 = .ok (.getfield 20, 3) := by decide +kernel
theorem dX1_meanBeats_45 : decode cX1_meanBeats 45 = .ok (.i2d, 1) := by decide +kernel
theorem dX1_meanBeats_46 : decode cX1_meanBeats 46 = .ok (.ddiv, 1) := by decide +kernel
theorem dX1_meanBeats_47 : decode cX1_meanBeats 47 = .ok (.dreturn, 1) := by decide +kernel
set_option maxRecDepth 20000 in
theorem ggX1_digest_X1_mixed : GoodIn wsX1_digest wsX1_mixed := goodIn_r _ [9, 10] (by decide +kernel) (by decide +kernel)
set_option maxRecDepth 20000 in
theorem gX1_digest_X1_mixed : GoodIn wsX1_digest (va_wsS RX1 131 yX1_mixed wsX1_mixed) := goodIn_app (goodIn_of _ (by decide +kernel)) ggX1_digest_X1_mixed
set_option maxRecDepth 20000 in
theorem ggX1_digest_X1_litCount : GoodIn wsX1_digest wsX1_litCount := goodIn_r _ [14, 2, 5, 15, 16, 17, 18, 19, 20, 21, 22, 23, 24, 25, 26, 27, 28, 29, 30, 31, 32, 33, 34, 69, 70, 71, 72, 73, 74, 75, 76, 77, 78] (by decide +kernel) (by decide +kernel)
set_option maxRecDepth 20000 in
theorem gX1_digest_X1_litCount : GoodIn wsX1_digest (wsV RX1 90 RX1 yX1_litCount wsX1_litCount) := goodIn_app (goodIn_of _ (by decide +kernel)) ggX1_digest_X1_litCount
set_option maxRecDepth 20000 in
theorem ggX1_digest_X1_mixedWithLamp : GoodIn wsX1_digest wsX1_mixedWithLamp := goodIn_r _ [38, 3, 6, 7, 8, 9, 10, 39, 22, 23, 18, 24, 25, 26, 27, 28, 29, 30, 31, 32, 33, 34, 40, 41, 42, 43, 44, 45, 46, 47, 48, 49, 50, 51, 52, 53, 54, 55, 21, 56, 57, 58, 59, 60, 61, 62, 63, 64, 65, 66, 67, 68, 74, 75, 76, 77, 78, 69, 70, 71, 72, 73] (by decide +kernel) (by decide +kernel)
set_option maxRecDepth 20000 in
theorem gX1_digest_X1_mixedWithLamp : GoodIn wsX1_digest (wsV RX1 135 RX1 yX1_mixedWithLamp wsX1_mixedWithLamp) := goodIn_app (goodIn_of _ (by decide +kernel)) ggX1_digest_X1_mixedWithLamp
theorem dX1_digest_0 : decode cX1_digest 0 = .ok (.ldc2_w 129, 3) := by decide +kernel
theorem dX1_digest_3 : decode cX1_digest 3 = .ok (.lstore_n 1, 1) := by decide +kernel
theorem dX1_digest_4 : decode cX1_digest 4 = .ok (.lload_n 1, 1) := by decide +kernel
theorem dX1_digest_5 : decode cX1_digest 5 = .ok (.aload_n 0, 1) := by decide +kernel
theorem dX1_digest_6 : decode cX1_digest 6 = .ok (.getfield 20, 3) := by decide +kernel
theorem dX1_digest_9 : decode cX1_digest 9 = .ok (.i2l, 1) := by decide +kernel
theorem dX1_digest_10 : decode cX1_digest 10 = .ok (.invokestatic 131, 3) := by decide +kernel
theorem dX1_digest_13 : decode cX1_digest 13 = .ok (.lstore_n 1, 1) := by decide +kernel
theorem dX1_digest_14 : decode cX1_digest 14 = .ok (.lload_n 1, 1) := by decide +kernel
theorem dX1_digest_15 : decode cX1_digest 15 = .ok (.aload_n 0, 1) := by decide +kernel
theorem dX1_digest_16 : decode cX1_digest 16 = .ok (.getfield 73, 3) := by decide +kernel
theorem dX1_digest_19 : decode cX1_digest 19 = .ok (.i2l, 1) := by decide +kernel
theorem dX1_digest_20 : decode cX1_digest 20 = .ok (.invokestatic 131, 3) := by decide +kernel
theorem dX1_digest_23 : decode cX1_digest 23 = .ok (.lstore_n 1, 1) := by decide +kernel
theorem dX1_digest_24 : decode cX1_digest 24 = .ok (.lload_n 1, 1) := by decide +kernel
theorem dX1_digest_25 : decode cX1_digest 25 = .ok (.aload_n 0, 1) := by decide +kernel
theorem dX1_digest_26 : decode cX1_digest 26 = .ok (.getfield 80, 3) := by decide +kernel
theorem dX1_digest_29 : decode cX1_digest 29 = .ok (.i2l, 1) := by decide +kernel
theorem dX1_digest_30 : decode cX1_digest 30 = .ok (.invokestatic 131, 3) := by decide +kernel
theorem dX1_digest_33 : decode cX1_digest 33 = .ok (.lstore_n 1, 1) := by decide +kernel
theorem dX1_digest_34 : decode cX1_digest 34 = .ok (.lload_n 1, 1) := by decide +kernel
theorem dX1_digest_35 : decode cX1_digest 35 = .ok (.aload_n 0, 1) := by decide +kernel
theorem dX1_digest_36 : decode cX1_digest 36 = .ok (.aload_n 0, 1) := by decide +kernel
theorem dX1_digest_37 : decode cX1_digest 37 = .ok (.getfield 73, 3) := by decide +kernel
theorem dX1_digest_40 : decode cX1_digest 40 = .ok (.invokevirtual 90, 3) := by decide +kernel
theorem dX1_digest_43 : decode cX1_digest 43 = .ok (.i2l, 1) := by decide +kernel
theorem dX1_digest_44 : decode cX1_digest 44 = .ok (.invokestatic 131, 3) := by decide +kernel
theorem dX1_digest_47 : decode cX1_digest 47 = .ok (.lstore_n 1, 1) := by decide +kernel
theorem dX1_digest_48 : decode cX1_digest 48 = .ok (.iconst 0, 1) := by decide +kernel
theorem dX1_digest_49 : decode cX1_digest 49 = .ok (.istore_n 3, 1) := by decide +kernel
theorem dX1_digest_50 : decode cX1_digest 50 = .ok (.iload_n 3, 1) := by decide +kernel
theorem dX1_digest_51 : decode cX1_digest 51 = .ok (.aload_n 0, 1) := by decide +kernel
theorem dX1_digest_52 : decode cX1_digest 52 = .ok (.getfield 20, 3) := by decide +kernel
theorem dX1_digest_55 : decode cX1_digest 55 = .ok (.if_icmp .ge 21, 3) := by decide +kernel
theorem dX1_digest_58 : decode cX1_digest 58 = .ok (.aload_n 0, 1) := by decide +kernel
theorem dX1_digest_59 : decode cX1_digest 59 = .ok (.lload_n 1, 1) := by decide +kernel
theorem dX1_digest_60 : decode cX1_digest 60 = .ok (.aload_n 0, 1) := by decide +kernel
theorem dX1_digest_61 : decode cX1_digest 61 = .ok (.getfield 11, 3) := by decide +kernel
theorem dX1_digest_64 : decode cX1_digest 64 = .ok (.iload_n 3, 1) := by decide +kernel
theorem dX1_digest_65 : decode cX1_digest 65 = .ok (.aaload, 1) := by decide +kernel
theorem dX1_digest_66 : decode cX1_digest 66 = .ok (.invokevirtual 135, 3) := by decide +kernel
theorem dX1_digest_69 : decode cX1_digest 69 = .ok (.lstore_n 1, 1) := by decide +kernel
theorem dX1_digest_70 : decode cX1_digest 70 = .ok (.iinc 3 1, 3) := by decide +kernel
theorem dX1_digest_73 : decode cX1_digest 73 = .ok (.goto (-23), 3) := by decide +kernel
theorem dX1_digest_76 : decode cX1_digest 76 = .ok (.lload_n 1, 1) := by decide +kernel
theorem dX1_digest_77 : decode cX1_digest 77 = .ok (.lreturn, 1) := by decide +kernel
set_option maxRecDepth 20000 in
theorem ggX1_mixedWithLamp_X1_mixed : GoodIn wsX1_mixedWithLamp wsX1_mixed := goodIn_r _ [5, 6] (by decide +kernel) (by decide +kernel)
set_option maxRecDepth 20000 in
theorem gX1_mixedWithLamp_X1_mixed : GoodIn wsX1_mixedWithLamp (va_wsS RX1 131 yX1_mixed wsX1_mixed) := goodIn_app (goodIn_of _ (by decide +kernel)) ggX1_mixedWithLamp_X1_mixed
set_option maxRecDepth 20000 in
theorem ggX1_mixedWithLamp_X0_onAt : GoodIn wsX1_mixedWithLamp wsX0_onAt := goodIn_r _ [11, 12, 13, 14, 15, 16, 17, 10, 18, 19, 20, 21, 52, 53, 54, 55, 56] (by decide +kernel) (by decide +kernel)
set_option maxRecDepth 20000 in
theorem gX1_mixedWithLamp_X0_onAt : GoodIn wsX1_mixedWithLamp (wsV RX1 83 RX0 yX0_onAt wsX0_onAt) := goodIn_app (goodIn_of _ (by decide +kernel)) ggX1_mixedWithLamp_X0_onAt
set_option maxRecDepth 20000 in
theorem ggX1_mixedWithLamp_X0_neverChanges : GoodIn wsX1_mixedWithLamp wsX0_neverChanges := goodIn_r _ [25, 26, 27, 28, 10, 29, 15, 30, 31, 32, 33, 34, 35, 36, 37, 12, 13, 14, 38, 8, 9, 11, 16, 17, 18, 19, 20, 21, 52, 53, 54, 55, 56] (by decide +kernel) (by decide +kernel)
set_option maxRecDepth 20000 in
theorem gX1_mixedWithLamp_X0_neverChanges : GoodIn wsX1_mixedWithLamp (wsV RX1 103 RX0 yX0_neverChanges wsX0_neverChanges) := goodIn_app (goodIn_of _ (by decide +kernel)) ggX1_mixedWithLamp_X0_neverChanges
set_option maxRecDepth 20000 in
theorem ggX1_mixedWithLamp_X0_cycle : GoodIn wsX1_mixedWithLamp wsX0_cycle := goodIn_r _ [29, 15, 30, 31, 32, 10, 33, 34, 35, 36, 37, 12, 13, 14, 38, 8, 9, 11, 16, 17, 18, 19, 20, 21, 52, 53, 54, 55, 56] (by decide +kernel) (by decide +kernel)
set_option maxRecDepth 20000 in
theorem gX1_mixedWithLamp_X0_cycle : GoodIn wsX1_mixedWithLamp (wsV RX1 107 RX0 yX0_cycle wsX0_cycle) := goodIn_app (goodIn_of _ (by decide +kernel)) ggX1_mixedWithLamp_X0_cycle
set_option maxRecDepth 20000 in
theorem ggX1_mixedWithLamp_X0_untilChange : GoodIn wsX1_mixedWithLamp wsX0_untilChange := goodIn_r _ [43, 30, 31, 32, 10, 33, 34, 35, 36, 37, 12, 13, 14, 44, 45, 46, 47, 48, 49, 50, 51, 19, 20, 21, 52, 53, 54, 55, 56] (by decide +kernel) (by decide +kernel)
set_option maxRecDepth 20000 in
theorem gX1_mixedWithLamp_X0_untilChange : GoodIn wsX1_mixedWithLamp (wsV RX1 111 RX0 yX0_untilChange wsX0_untilChange) := goodIn_app (goodIn_of _ (by decide +kernel)) ggX1_mixedWithLamp_X0_untilChange
theorem dX1_mixedWithLamp_0 : decode cX1_mixedWithLamp 0 = .ok (.lload_n 1, 1) := by decide +kernel
theorem dX1_mixedWithLamp_1 : decode cX1_mixedWithLamp 1 = .ok (.lstore 4, 2) := by decide +kernel
theorem dX1_mixedWithLamp_3 : decode cX1_mixedWithLamp 3 = .ok (.lload 4, 2) := by decide +kernel
theorem dX1_mixedWithLamp_5 : decode cX1_mixedWithLamp 5 = .ok (.aload_n 3, 1) := by decide +kernel
theorem dX1_mixedWithLamp_6 : decode cX1_mixedWithLamp 6 = .ok (.getfield 46, 3) := by decide +kernel
theorem dX1_mixedWithLamp_9 : decode cX1_mixedWithLamp 9 = .ok (.i2l, 1) := by decide +kernel
theorem dX1_mixedWithLamp_10 : decode cX1_mixedWithLamp 10 = .ok (.invokestatic 131, 3) := by decide +kernel
theorem dX1_mixedWithLamp_13 : decode cX1_mixedWithLamp 13 = .ok (.lstore 4, 2) := by decide +kernel
theorem dX1_mixedWithLamp_15 : decode cX1_mixedWithLamp 15 = .ok (.lload 4, 2) := by decide +kernel
theorem dX1_mixedWithLamp_17 : decode cX1_mixedWithLamp 17 = .ok (.aload_n 3, 1) := by decide +kernel
theorem dX1_mixedWithLamp_18 : decode cX1_mixedWithLamp 18 = .ok (.getfield 67, 3) := by decide +kernel
theorem dX1_mixedWithLamp_21 : decode cX1_mixedWithLamp 21 = .ok (.ifCond .eq 7, 3) := by decide +kernel
theorem dX1_mixedWithLamp_24 : decode cX1_mixedWithLamp 24 = .ok (.lconst 1, 1) := by decide +kernel
theorem dX1_mixedWithLamp_25 : decode cX1_mixedWithLamp 25 = .ok (.goto 4, 3) := by decide +kernel
theorem dX1_mixedWithLamp_28 : decode cX1_mixedWithLamp 28 = .ok (.lconst 0, 1) := by decide +kernel
theorem dX1_mixedWithLamp_29 : decode cX1_mixedWithLamp 29 = .ok (.invokestatic 131, 3) := by decide +kernel
theorem dX1_mixedWithLamp_32 : decode cX1_mixedWithLamp 32 = .ok (.lstore 4, 2) := by decide +kernel
theorem dX1_mixedWithLamp_34 : decode cX1_mixedWithLamp 34 = .ok (.lload 4, 2) := by decide +kernel
theorem dX1_mixedWithLamp_36 : decode cX1_mixedWithLamp 36 = .ok (.aload_n 3, 1) := by decide +kernel
theorem dX1_mixedWithLamp_37 : decode cX1_mixedWithLamp 37 = .ok (.aload_n 0, 1) := by decide +kernel
theorem dX1_mixedWithLamp_38 : decode cX1_mixedWithLamp 38 = .ok (.getfield 73, 3) := by decide +kernel
theorem dX1_mixedWithLamp_41 : decode cX1_mixedWithLamp 41 = .ok (.invokevirtual 83, 3) := by decide +kernel
theorem dX1_mixedWithLamp_44 : decode cX1_mixedWithLamp 44 = .ok (.ifCond .eq 7, 3) := by decide +kernel
theorem dX1_mixedWithLamp_47 : decode cX1_mixedWithLamp 47 = .ok (.lconst 1, 1) := by decide +kernel
theorem dX1_mixedWithLamp_48 : decode cX1_mixedWithLamp 48 = .ok (.goto 4, 3) := by decide +kernel
theorem dX1_mixedWithLamp_51 : decode cX1_mixedWithLamp 51 = .ok (.lconst 0, 1) := by decide +kernel
theorem dX1_mixedWithLamp_52 : decode cX1_mixedWithLamp 52 = .ok (.invokestatic 131, 3) := by decide +kernel
theorem dX1_mixedWithLamp_55 : decode cX1_mixedWithLamp 55 = .ok (.lstore 4, 2) := by decide +kernel
theorem dX1_mixedWithLamp_57 : decode cX1_mixedWithLamp 57 = .ok (.lload 4, 2) := by decide +kernel
theorem dX1_mixedWithLamp_59 : decode cX1_mixedWithLamp 59 = .ok (.aload_n 3, 1) := by decide +kernel
theorem dX1_mixedWithLamp_60 : decode cX1_mixedWithLamp 60 = .ok (.invokevirtual 103, 3) := by decide +kernel
theorem dX1_mixedWithLamp_63 : decode cX1_mixedWithLamp 63 = .ok (.ifCond .eq 7, 3) := by decide +kernel
theorem dX1_mixedWithLamp_66 : decode cX1_mixedWithLamp 66 = .ok (.lconst 1, 1) := by decide +kernel
theorem dX1_mixedWithLamp_67 : decode cX1_mixedWithLamp 67 = .ok (.goto 4, 3) := by decide +kernel
theorem dX1_mixedWithLamp_70 : decode cX1_mixedWithLamp 70 = .ok (.lconst 0, 1) := by decide +kernel
theorem dX1_mixedWithLamp_71 : decode cX1_mixedWithLamp 71 = .ok (.invokestatic 131, 3) := by decide +kernel
theorem dX1_mixedWithLamp_74 : decode cX1_mixedWithLamp 74 = .ok (.lstore 4, 2) := by decide +kernel
theorem dX1_mixedWithLamp_76 : decode cX1_mixedWithLamp 76 = .ok (.lload 4, 2) := by decide +kernel
theorem dX1_mixedWithLamp_78 : decode cX1_mixedWithLamp 78 = .ok (.aload_n 3, 1) := by decide +kernel
theorem dX1_mixedWithLamp_79 : decode cX1_mixedWithLamp 79 = .ok (.invokevirtual 107, 3) := by decide +kernel
theorem dX1_mixedWithLamp_82 : decode cX1_mixedWithLamp 82 = .ok (.i2l, 1) := by decide +kernel
theorem dX1_mixedWithLamp_83 : decode cX1_mixedWithLamp 83 = .ok (.invokestatic 131, 3) := by decide +kernel
theorem dX1_mixedWithLamp_86 : decode cX1_mixedWithLamp 86 = .ok (.lstore 4, 2) := by decide +kernel
theorem dX1_mixedWithLamp_88 : decode cX1_mixedWithLamp 88 = .ok (.lload 4, 2) := by decide +kernel
theorem dX1_mixedWithLamp_90 : decode cX1_mixedWithLamp 90 = .ok (.aload_n 3, 1) := by decide +kernel
theorem dX1_mixedWithLamp_91 : decode cX1_mixedWithLamp 91 = .ok (.aload_n 0, 1) := by decide +kernel
theorem dX1_mixedWithLamp_92 : decode cX1_mixedWithLamp 92 = .ok (.getfield 73, 3) := by decide +kernel
theorem dX1_mixedWithLamp_95 : decode cX1_mixedWithLamp 95 = .ok (.invokevirtual 111, 3) := by decide +kernel
theorem dX1_mixedWithLamp_98 : decode cX1_mixedWithLamp 98 = .ok (.i2l, 1) := by decide +kernel
theorem dX1_mixedWithLamp_99 : decode cX1_mixedWithLamp 99 = .ok (.invokestatic 131, 3) := by decide +kernel
theorem dX1_mixedWithLamp_102 : decode cX1_mixedWithLamp 102 = .ok (.lstore 4, 2) := by decide +kernel
theorem dX1_mixedWithLamp_104 : decode cX1_mixedWithLamp 104 = .ok (.iconst 0, 1) := by decide +kernel
theorem dX1_mixedWithLamp_105 : decode cX1_mixedWithLamp 105 = .ok (.istore 6, 2) := by decide +kernel
theorem dX1_mixedWithLamp_107 : decode cX1_mixedWithLamp 107 = .ok (.iload 6, 2) := by decide +kernel
theorem dX1_mixedWithLamp_109 : decode cX1_mixedWithLamp 109 = .ok (.aload_n 3, 1) := by decide +kernel
theorem dX1_mixedWithLamp_110 : decode cX1_mixedWithLamp 110 = .ok (.getfield 46, 3) := by decide +kernel
theorem dX1_mixedWithLamp_113 : decode cX1_mixedWithLamp 113 = .ok (.if_icmp .ge 39, 3) := by decide +kernel
theorem dX1_mixedWithLamp_116 : decode cX1_mixedWithLamp 116 = .ok (.lload 4, 2) := by decide +kernel
theorem dX1_mixedWithLamp_118 : decode cX1_mixedWithLamp 118 = .ok (.aload_n 3, 1) := by decide +kernel
theorem dX1_mixedWithLamp_119 : decode cX1_mixedWithLamp 119 = .ok (.getfield 57, 3) := by decide +kernel
theorem dX1_mixedWithLamp_122 : decode cX1_mixedWithLamp 122 = .ok (.iload 6, 2) := by decide +kernel
theorem dX1_mixedWithLamp_124 : decode cX1_mixedWithLamp 124 = .ok (.iaload, 1) := by decide +kernel
theorem dX1_mixedWithLamp_125 : decode cX1_mixedWithLamp 125 = .ok (.i2l, 1) := by decide +kernel
theorem dX1_mixedWithLamp_126 : decode cX1_mixedWithLamp 126 = .ok (.invokestatic 131, 3) := by decide +kernel
theorem dX1_mixedWithLamp_129 : decode cX1_mixedWithLamp 129 = .ok (.lstore 4, 2) := by decide +kernel
theorem dX1_mixedWithLamp_131 : decode cX1_mixedWithLamp 131 = .ok (.lload 4, 2) := by decide +kernel
theorem dX1_mixedWithLamp_133 : decode cX1_mixedWithLamp 133 = .ok (.aload_n 3, 1) := by decide +kernel
theorem dX1_mixedWithLamp_134 : decode cX1_mixedWithLamp 134 = .ok (.getfield 61, 3) := by decide +kernel
theorem dX1_mixedWithLamp_137 : decode cX1_mixedWithLamp 137 = .ok (.iload 6, 2) := by decide +kernel
theorem dX1_mixedWithLamp_139 : decode cX1_mixedWithLamp 139 = .ok (.iaload, 1) := by decide +kernel
theorem dX1_mixedWithLamp_140 : decode cX1_mixedWithLamp 140 = .ok (.i2l, 1) := by decide +kernel
theorem dX1_mixedWithLamp_141 : decode cX1_mixedWithLamp 141 = .ok (.invokestatic 131, 3) := by decide +kernel
theorem dX1_mixedWithLamp_144 : decode cX1_mixedWithLamp 144 = .ok (.lstore 4, 2) := by decide +kernel
theorem dX1_mixedWithLamp_146 : decode cX1_mixedWithLamp 146 = .ok (.iinc 6 1, 3) := by decide +kernel
theorem dX1_mixedWithLamp_149 : decode cX1_mixedWithLamp 149 = .ok (.goto (-42), 3) := by decide +kernel
theorem dX1_mixedWithLamp_152 : decode cX1_mixedWithLamp 152 = .ok (.lload 4, 2) := by decide +kernel
theorem dX1_mixedWithLamp_154 : decode cX1_mixedWithLamp 154 = .ok (.lreturn, 1) := by decide +kernel
theorem dX1_mixed_0 : decode cX1_mixed 0 = .ok (.lload_n 0, 1) := by decide +kernel
theorem dX1_mixed_1 : decode cX1_mixed 1 = .ok (.ldc2_w 139, 3) := by decide +kernel
theorem dX1_mixed_4 : decode cX1_mixed 4 = .ok (.lmul, 1) := by decide +kernel
theorem dX1_mixed_5 : decode cX1_mixed 5 = .ok (.lload_n 2, 1) := by decide +kernel
theorem dX1_mixed_6 : decode cX1_mixed 6 = .ok (.ladd, 1) := by decide +kernel
theorem dX1_mixed_7 : decode cX1_mixed 7 = .ok (.lreturn, 1) := by decide +kernel
theorem dX1_needLamp_0 : decode cX1_needLamp 0 = .ok (.iload_n 1, 1) := by decide +kernel
theorem dX1_needLamp_1 : decode cX1_needLamp 1 = .ok (.ifCond .lt 11, 3) := by decide +kernel
theorem dX1_needLamp_4 : decode cX1_needLamp 4 = .ok (.iload_n 1, 1) := by decide +kernel
theorem dX1_needLamp_5 : decode cX1_needLamp 5 = .ok (.aload_n 0, 1) := by decide +kernel
theorem dX1_needLamp_6 : decode cX1_needLamp 6 = .ok (.getfield 20, 3) := by decide +kernel
theorem dX1_needLamp_9 : decode cX1_needLamp 9 = .ok (.if_icmp .lt 13, 3) := by decide +kernel
theorem dX1_needLamp_12 : decode cX1_needLamp 12 = .ok (.new 141, 3) := by decide +kernel
theorem dX1_needLamp_15 : decode cX1_needLamp 15 = .ok (.dup, 1) := by decide +kernel
theorem dX1_needLamp_16 : decode cX1_needLamp 16 = .ok (.ldc 143, 2) := by decide +kernel
theorem dX1_needLamp_18 : decode cX1_needLamp 18 = .ok (.invokespecial 145, 3) := by decide +kernel
theorem dX1_needLamp_21 : decode cX1_needLamp 21 = .ok (.athrow, 1) := by decide +kernel
theorem dX1_needLamp_22 : decode cX1_needLamp 22 = .ok (.return_, 1) := by decide +kernel
set_option maxRecDepth 20000 in
theorem ggX1_needBeat_X1_needLamp : GoodIn wsX1_needBeat wsX1_needLamp := goodIn_ca (goodIn_r _ [8, 1, 2, 9, 10, 11, 12, 13, 14] (by decide +kernel) (by decide +kernel)) (goodIn_sub (fun _ h => List.mem_cons_of_mem _ (List.mem_append_right _ h)) (by decide +kernel))
set_option maxRecDepth 20000 in
theorem gX1_needBeat_X1_needLamp : GoodIn wsX1_needBeat (wsV RX1 35 RX1 yX1_needLamp wsX1_needLamp) := goodIn_app (goodIn_of _ (by decide +kernel)) ggX1_needBeat_X1_needLamp
theorem dX1_needBeat_0 : decode cX1_needBeat 0 = .ok (.aload_n 0, 1) := by decide +kernel
theorem dX1_needBeat_1 : decode cX1_needBeat 1 = .ok (.iload_n 1, 1) := by decide +kernel
theorem dX1_needBeat_2 : decode cX1_needBeat 2 = .ok (.invokevirtual 35, 3) := by decide +kernel
theorem dX1_needBeat_5 : decode cX1_needBeat 5 = .ok (.iload_n 2, 1) := by decide +kernel
theorem dX1_needBeat_6 : decode cX1_needBeat 6 = .ok (.ifCond .lt 16, 3) := by decide +kernel
theorem dX1_needBeat_9 : decode cX1_needBeat 9 = .ok (.iload_n 2, 1) := by decide +kernel
theorem dX1_needBeat_10 : decode cX1_needBeat 10 = .ok (.aload_n 0, 1) := by decide +kernel
theorem dX1_needBeat_11 : decode cX1_needBeat 11 = .ok (.getfield 11, 3) := by decide +kernel
theorem dX1_needBeat_14 : decode cX1_needBeat 14 = .ok (.iload_n 1, 1) := by decide +kernel
theorem dX1_needBeat_15 : decode cX1_needBeat 15 = .ok (.aaload, 1) := by decide +kernel
theorem dX1_needBeat_16 : decode cX1_needBeat 16 = .ok (.getfield 46, 3) := by decide +kernel
theorem dX1_needBeat_19 : decode cX1_needBeat 19 = .ok (.if_icmp .lt 13, 3) := by decide +kernel
theorem dX1_needBeat_22 : decode cX1_needBeat 22 = .ok (.new 141, 3) := by decide +kernel
theorem dX1_needBeat_25 : decode cX1_needBeat 25 = .ok (.dup, 1) := by decide +kernel
theorem dX1_needBeat_26 : decode cX1_needBeat 26 = .ok (.ldc 146, 2) := by decide +kernel
theorem dX1_needBeat_28 : decode cX1_needBeat 28 = .ok (.invokespecial 145, 3) := by decide +kernel
theorem dX1_needBeat_31 : decode cX1_needBeat 31 = .ok (.athrow, 1) := by decide +kernel
theorem dX1_needBeat_32 : decode cX1_needBeat 32 = .ok (.return_, 1) := by decide +kernel
set_option maxRecDepth 20000 in
theorem ggX1_needPair_X1_needLamp : GoodIn wsX1_needPair wsX1_needLamp := goodIn_ca (goodIn_r _ [7, 8, 9, 10, 11, 12, 13, 14, 15] (by decide +kernel) (by decide +kernel)) (goodIn_sub (fun _ h => List.mem_cons_of_mem _ (List.mem_append_right _ h)) (by decide +kernel))
set_option maxRecDepth 20000 in
theorem gX1_needPair_X1_needLamp : GoodIn wsX1_needPair (wsV RX1 35 RX1 yX1_needLamp wsX1_needLamp) := goodIn_app (goodIn_of _ (by decide +kernel)) ggX1_needPair_X1_needLamp
theorem dX1_needPair_0 : decode cX1_needPair 0 = .ok (.aload_n 0, 1) := by decide +kernel
theorem dX1_needPair_1 : decode cX1_needPair 1 = .ok (.iload_n 1, 1) := by decide +kernel
theorem dX1_needPair_2 : decode cX1_needPair 2 = .ok (.invokevirtual 35, 3) := by decide +kernel
theorem dX1_needPair_5 : decode cX1_needPair 5 = .ok (.aload_n 0, 1) := by decide +kernel
theorem dX1_needPair_6 : decode cX1_needPair 6 = .ok (.iload_n 2, 1) := by decide +kernel
theorem dX1_needPair_7 : decode cX1_needPair 7 = .ok (.invokevirtual 35, 3) := by decide +kernel
theorem dX1_needPair_10 : decode cX1_needPair 10 = .ok (.iload_n 1, 1) := by decide +kernel
theorem dX1_needPair_11 : decode cX1_needPair 11 = .ok (.iload_n 2, 1) := by decide +kernel
theorem dX1_needPair_12 : decode cX1_needPair 12 = .ok (.if_icmp .ne 13, 3) := by decide +kernel
theorem dX1_needPair_15 : decode cX1_needPair 15 = .ok (.new 148, 3) := by decide +kernel
theorem dX1_needPair_18 : decode cX1_needPair 18 = .ok (.dup, 1) := by decide +kernel
theorem dX1_needPair_19 : decode cX1_needPair 19 = .ok (.ldc 150, 2) := by decide +kernel
theorem dX1_needPair_21 : decode cX1_needPair 21 = .ok (.invokespecial 152, 3) := by decide +kernel
theorem dX1_needPair_24 : decode cX1_needPair 24 = .ok (.athrow, 1) := by decide +kernel
theorem dX1_needPair_25 : decode cX1_needPair 25 = .ok (.return_, 1) := by decide +kernel
theorem dX1_needNumber_0 : decode cX1_needNumber 0 = .ok (.getstatic 153, 3) := by decide +kernel
theorem dX1_needNumber_3 : decode cX1_needNumber 3 = .ok (.astore_n 1, 1) := by decide +kernel
theorem dX1_needNumber_4 : decode cX1_needNumber 4 = .ok (.aload_n 1, 1) := by decide +kernel
theorem dX1_needNumber_5 : decode cX1_needNumber 5 = .ok (.arraylength, 1) := by decide +kernel
theorem dX1_needNumber_6 : decode cX1_needNumber 6 = .ok (.istore_n 2, 1) := by decide +kernel
theorem dX1_needNumber_7 : decode cX1_needNumber 7 = .ok (.iconst 0, 1) := by decide +kernel
theorem dX1_needNumber_8 : decode cX1_needNumber 8 = .ok (.istore_n 3, 1) := by decide +kernel
theorem dX1_needNumber_9 : decode cX1_needNumber 9 = .ok (.iload_n 3, 1) := by decide +kernel
theorem dX1_needNumber_10 : decode cX1_needNumber 10 = .ok (.iload_n 2, 1) := by decide +kernel
theorem dX1_needNumber_11 : decode cX1_needNumber 11 = .ok (.if_icmp .ge 21, 3) := by decide +kernel
theorem dX1_needNumber_14 : decode cX1_needNumber 14 = .ok (.aload_n 1, 1) := by decide +kernel
theorem dX1_needNumber_15 : decode cX1_needNumber 15 = .ok (.iload_n 3, 1) := by decide +kernel
theorem dX1_needNumber_16 : decode cX1_needNumber 16 = .ok (.iaload, 1) := by decide +kernel
theorem dX1_needNumber_17 : decode cX1_needNumber 17 = .ok (.istore 4, 2) := by decide +kernel
theorem dX1_needNumber_19 : decode cX1_needNumber 19 = .ok (.iload_n 0, 1) := by decide +kernel
theorem dX1_needNumber_20 : decode cX1_needNumber 20 = .ok (.iload 4, 2) := by decide +kernel
theorem dX1_needNumber_22 : decode cX1_needNumber 22 = .ok (.if_icmp .ne 4, 3) := by decide +kernel
theorem dX1_needNumber_25 : decode cX1_needNumber 25 = .ok (.return_, 1) := by decide +kernel
theorem dX1_needNumber_26 : decode cX1_needNumber 26 = .ok (.iinc 3 1, 3) := by decide +kernel
theorem dX1_needNumber_29 : decode cX1_needNumber 29 = .ok (.goto (-20), 3) := by decide +kernel
theorem dX1_needNumber_32 : decode cX1_needNumber 32 = .ok (.new 148, 3) := by decide +kernel
theorem dX1_needNumber_35 : decode cX1_needNumber 35 = .ok (.dup, 1) := by decide +kernel
theorem dX1_needNumber_36 : decode cX1_needNumber 36 = .ok (.ldc 156, 2) := by decide +kernel
theorem dX1_needNumber_38 : decode cX1_needNumber 38 = .ok (.invokespecial 152, 3) := by decide +kernel
theorem dX1_needNumber_41 : decode cX1_needNumber 41 = .ok (.athrow, 1) := by decide +kernel
theorem dX1_needOffset_0 : decode cX1_needOffset 0 = .ok (.iload_n 0, 1) := by decide +kernel
theorem dX1_needOffset_1 : decode cX1_needOffset 1 = .ok (.ifCond .lt 8, 3) := by decide +kernel
theorem dX1_needOffset_4 : decode cX1_needOffset 4 = .ok (.iload_n 0, 1) := by decide +kernel
theorem dX1_needOffset_5 : decode cX1_needOffset 5 = .ok (.iload_n 1, 1) := by decide +kernel
theorem dX1_needOffset_6 : decode cX1_needOffset 6 = .ok (.if_icmp .lt 13, 3) := by decide +kernel
theorem dX1_needOffset_9 : decode cX1_needOffset 9 = .ok (.new 148, 3) := by decide +kernel
theorem dX1_needOffset_12 : decode cX1_needOffset 12 = .ok (.dup, 1) := by decide +kernel
theorem dX1_needOffset_13 : decode cX1_needOffset 13 = .ok (.ldc 158, 2) := by decide +kernel
theorem dX1_needOffset_15 : decode cX1_needOffset 15 = .ok (.invokespecial 152, 3) := by decide +kernel
theorem dX1_needOffset_18 : decode cX1_needOffset 18 = .ok (.athrow, 1) := by decide +kernel
theorem dX1_needOffset_19 : decode cX1_needOffset 19 = .ok (.return_, 1) := by decide +kernel
theorem dX1_needMoment_0 : decode cX1_needMoment 0 = .ok (.iload_n 0, 1) := by decide +kernel
theorem dX1_needMoment_1 : decode cX1_needMoment 1 = .ok (.ifCond .lt 9, 3) := by decide +kernel
theorem dX1_needMoment_4 : decode cX1_needMoment 4 = .ok (.iload_n 0, 1) := by decide +kernel
theorem dX1_needMoment_5 : decode cX1_needMoment 5 = .ok (.ldc 160, 2) := by decide +kernel
theorem dX1_needMoment_7 : decode cX1_needMoment 7 = .ok (.if_icmp .le 13, 3) := by decide +kernel
theorem dX1_needMoment_10 : decode cX1_needMoment 10 = .ok (.new 148, 3) := by decide +kernel
theorem dX1_needMoment_13 : decode cX1_needMoment 13 = .ok (.dup, 1) := by decide +kernel
theorem dX1_needMoment_14 : decode cX1_needMoment 14 = .ok (.ldc 161, 2) := by decide +kernel
theorem dX1_needMoment_16 : decode cX1_needMoment 16 = .ok (.invokespecial 152, 3) := by decide +kernel
theorem dX1_needMoment_19 : decode cX1_needMoment 19 = .ok (.athrow, 1) := by decide +kernel
theorem dX1_needMoment_20 : decode cX1_needMoment 20 = .ok (.return_, 1) := by decide +kernel
theorem dX1_needMoments_0 : decode cX1_needMoments 0 = .ok (.iload_n 0, 1) := by decide +kernel
theorem dX1_needMoments_1 : decode cX1_needMoments 1 = .ok (.iconst 1, 1) := by decide +kernel
theorem dX1_needMoments_2 : decode cX1_needMoments 2 = .ok (.if_icmp .lt 8, 3) := by decide +kernel
theorem dX1_needMoments_5 : decode cX1_needMoments 5 = .ok (.iload_n 0, 1) := by decide +kernel
theorem dX1_needMoments_6 : decode cX1_needMoments 6 = .ok (.iload_n 1, 1) := by decide +kernel
theorem dX1_needMoments_7 : decode cX1_needMoments 7 = .ok (.if_icmp .le 13, 3) := by decide +kernel
theorem dX1_needMoments_10 : decode cX1_needMoments 10 = .ok (.new 148, 3) := by decide +kernel
theorem dX1_needMoments_13 : decode cX1_needMoments 13 = .ok (.dup, 1) := by decide +kernel
theorem dX1_needMoments_14 : decode cX1_needMoments 14 = .ok (.ldc 163, 2) := by decide +kernel
theorem dX1_needMoments_16 : decode cX1_needMoments 16 = .ok (.invokespecial 152, 3) := by decide +kernel
theorem dX1_needMoments_19 : decode cX1_needMoments 19 = .ok (.athrow, 1) := by decide +kernel
theorem dX1_needMoments_20 : decode cX1_needMoments 20 = .ok (.return_, 1) := by decide +kernel
set_option maxRecDepth 20000 in
theorem ggX1_changesOfLamps_X0_changesAt : GoodIn wsX1_changesOfLamps wsX0_changesAt := goodIn_r _ [7, 8, 9, 10, 6, 11, 12, 13, 14, 15, 16, 17, 23, 24, 25, 26, 27] (by decide +kernel) (by decide +kernel)
set_option maxRecDepth 20000 in
theorem gX1_changesOfLamps_X0_changesAt : GoodIn wsX1_changesOfLamps (wsV RX1 165 RX0 yX0_changesAt wsX0_changesAt) := goodIn_app (goodIn_of _ (by decide +kernel)) ggX1_changesOfLamps_X0_changesAt
theorem dX1_changesOfLamps_0 : decode cX1_changesOfLamps 0 = .ok (.iconst 0, 1) := by decide +kernel
theorem dX1_changesOfLamps_1 : decode cX1_changesOfLamps 1 = .ok (.istore_n 2, 1) := by decide +kernel
theorem dX1_changesOfLamps_2 : decode cX1_changesOfLamps 2 = .ok (.iconst 0, 1) := by decide +kernel
theorem dX1_changesOfLamps_3 : decode cX1_changesOfLamps 3 = .ok (.istore_n 3, 1) := by decide +kernel
theorem dX1_changesOfLamps_4 : decode cX1_changesOfLamps 4 = .ok (.iload_n 3, 1) := by decide +kernel
theorem dX1_changesOfLamps_5 : decode cX1_changesOfLamps 5 = .ok (.aload_n 0, 1) := by decide +kernel
theorem dX1_changesOfLamps_6 : decode cX1_changesOfLamps 6 = .ok (.getfield 20, 3) := by decide +kernel
theorem dX1_changesOfLamps_9 : decode cX1_changesOfLamps 9 = .ok (.if_icmp .ge 25, 3) := by decide +kernel
theorem dX1_changesOfLamps_12 : decode cX1_changesOfLamps 12 = .ok (.aload_n 0, 1) := by decide +kernel
theorem dX1_changesOfLamps_13 : decode cX1_changesOfLamps 13 = .ok (.getfield 11, 3) := by decide +kernel
theorem dX1_changesOfLamps_16 : decode cX1_changesOfLamps 16 = .ok (.iload_n 3, 1) := by decide +kernel
theorem dX1_changesOfLamps_17 : decode cX1_changesOfLamps 17 = .ok (.aaload, 1) := by decide +kernel
theorem dX1_changesOfLamps_18 : decode cX1_changesOfLamps 18 = .ok (.iload_n 1, 1) := by decide +kernel
theorem dX1_changesOfLamps_19 : decode cX1_changesOfLamps 19 = .ok (.invokevirtual 165, 3) := by decide +kernel
theorem dX1_changesOfLamps_22 : decode cX1_changesOfLamps 22 = .ok (.ifCond .eq 6, 3) := by decide +kernel
theorem dX1_changesOfLamps_25 : decode cX1_changesOfLamps 25 = .ok (.iinc 2 1, 3) := by decide +kernel
theorem dX1_changesOfLamps_28 : decode cX1_changesOfLamps 28 = .ok (.iinc 3 1, 3) := by decide +kernel
theorem dX1_changesOfLamps_31 : decode cX1_changesOfLamps 31 = .ok (.goto (-27), 3) := by decide +kernel
theorem dX1_changesOfLamps_34 : decode cX1_changesOfLamps 34 = .ok (.iload_n 2, 1) := by decide +kernel
theorem dX1_changesOfLamps_35 : decode cX1_changesOfLamps 35 = .ok (.ireturn, 1) := by decide +kernel
set_option maxRecDepth 20000 in
theorem ggX1_litCount_X0_litAt : GoodIn wsX1_litCount wsX0_litAt := goodIn_r _ [7, 8, 9, 10, 11, 6, 12, 13, 14, 15, 16, 17, 18, 19, 20, 21, 22, 28, 29, 30, 31, 32] (by decide +kernel) (by decide +kernel)
set_option maxRecDepth 20000 in
theorem gX1_litCount_X0_litAt : GoodIn wsX1_litCount (wsV RX1 87 RX0 yX0_litAt wsX0_litAt) := goodIn_app (goodIn_of _ (by decide +kernel)) ggX1_litCount_X0_litAt
theorem dX1_litCount_0 : decode cX1_litCount 0 = .ok (.iconst 0, 1) := by decide +kernel
theorem dX1_litCount_1 : decode cX1_litCount 1 = .ok (.istore_n 2, 1) := by decide +kernel
theorem dX1_litCount_2 : decode cX1_litCount 2 = .ok (.iconst 0, 1) := by decide +kernel
theorem dX1_litCount_3 : decode cX1_litCount 3 = .ok (.istore_n 3, 1) := by decide +kernel
theorem dX1_litCount_4 : decode cX1_litCount 4 = .ok (.iload_n 3, 1) := by decide +kernel
theorem dX1_litCount_5 : decode cX1_litCount 5 = .ok (.aload_n 0, 1) := by decide +kernel
theorem dX1_litCount_6 : decode cX1_litCount 6 = .ok (.getfield 20, 3) := by decide +kernel
theorem dX1_litCount_9 : decode cX1_litCount 9 = .ok (.if_icmp .ge 25, 3) := by decide +kernel
theorem dX1_litCount_12 : decode cX1_litCount 12 = .ok (.aload_n 0, 1) := by decide +kernel
theorem dX1_litCount_13 : decode cX1_litCount 13 = .ok (.getfield 11, 3) := by decide +kernel
theorem dX1_litCount_16 : decode cX1_litCount 16 = .ok (.iload_n 3, 1) := by decide +kernel
theorem dX1_litCount_17 : decode cX1_litCount 17 = .ok (.aaload, 1) := by decide +kernel
theorem dX1_litCount_18 : decode cX1_litCount 18 = .ok (.iload_n 1, 1) := by decide +kernel
theorem dX1_litCount_19 : decode cX1_litCount 19 = .ok (.invokevirtual 87, 3) := by decide +kernel
theorem dX1_litCount_22 : decode cX1_litCount 22 = .ok (.ifCond .eq 6, 3) := by decide +kernel
theorem dX1_litCount_25 : decode cX1_litCount 25 = .ok (.iinc 2 1, 3) := by decide +kernel
theorem dX1_litCount_28 : decode cX1_litCount 28 = .ok (.iinc 3 1, 3) := by decide +kernel
theorem dX1_litCount_31 : decode cX1_litCount 31 = .ok (.goto (-27), 3) := by decide +kernel
theorem dX1_litCount_34 : decode cX1_litCount 34 = .ok (.iload_n 2, 1) := by decide +kernel
theorem dX1_litCount_35 : decode cX1_litCount 35 = .ok (.ireturn, 1) := by decide +kernel
set_option maxRecDepth 20000 in
theorem ggX1_darkAt_X0_litAt : GoodIn wsX1_darkAt wsX0_litAt := goodIn_r _ [7, 8, 9, 10, 11, 6, 12, 13, 14, 15, 16, 17, 18, 19, 20, 21, 22, 28, 29, 30, 31, 32] (by decide +kernel) (by decide +kernel)
set_option maxRecDepth 20000 in
theorem gX1_darkAt_X0_litAt : GoodIn wsX1_darkAt (wsV RX1 87 RX0 yX0_litAt wsX0_litAt) := goodIn_app (goodIn_of _ (by decide +kernel)) ggX1_darkAt_X0_litAt
theorem dX1_darkAt_0 : decode cX1_darkAt 0 = .ok (.iconst 0, 1) := by decide +kernel
theorem dX1_darkAt_1 : decode cX1_darkAt 1 = .ok (.istore_n 3, 1) := by decide +kernel
theorem dX1_darkAt_2 : decode cX1_darkAt 2 = .ok (.iload_n 3, 1) := by decide +kernel
theorem dX1_darkAt_3 : decode cX1_darkAt 3 = .ok (.aload_n 0, 1) := by decide +kernel
theorem dX1_darkAt_4 : decode cX1_darkAt 4 = .ok (.getfield 20, 3) := by decide +kernel
theorem dX1_darkAt_7 : decode cX1_darkAt 7 = .ok (.if_icmp .ge 29, 3) := by decide +kernel
theorem dX1_darkAt_10 : decode cX1_darkAt 10 = .ok (.iload_n 3, 1) := by decide +kernel
theorem dX1_darkAt_11 : decode cX1_darkAt 11 = .ok (.iload_n 2, 1) := by decide +kernel
theorem dX1_darkAt_12 : decode cX1_darkAt 12 = .ok (.if_icmp .eq 18, 3) := by decide +kernel
theorem dX1_darkAt_15 : decode cX1_darkAt 15 = .ok (.aload_n 0, 1) := by decide +kernel
theorem dX1_darkAt_16 : decode cX1_darkAt 16 = .ok (.getfield 11, 3) := by decide +kernel
theorem dX1_darkAt_19 : decode cX1_darkAt 19 = .ok (.iload_n 3, 1) := by decide +kernel
theorem dX1_darkAt_20 : decode cX1_darkAt 20 = .ok (.aaload, 1) := by decide +kernel
theorem dX1_darkAt_21 : decode cX1_darkAt 21 = .ok (.iload_n 1, 1) := by decide +kernel
theorem dX1_darkAt_22 : decode cX1_darkAt 22 = .ok (.invokevirtual 87, 3) := by decide +kernel
theorem dX1_darkAt_25 : decode cX1_darkAt 25 = .ok (.ifCond .eq 5, 3) := by decide +kernel
theorem dX1_darkAt_28 : decode cX1_darkAt 28 = .ok (.iconst 0, 1) := by decide +kernel
theorem dX1_darkAt_29 : decode cX1_darkAt 29 = .ok (.ireturn, 1) := by decide +kernel
theorem dX1_darkAt_30 : decode cX1_darkAt 30 = .ok (.iinc 3 1, 3) := by decide +kernel
theorem dX1_darkAt_33 : decode cX1_darkAt 33 = .ok (.goto (-31), 3) := by decide +kernel
theorem dX1_darkAt_36 : decode cX1_darkAt 36 = .ok (.iconst 1, 1) := by decide +kernel
theorem dX1_darkAt_37 : decode cX1_darkAt 37 = .ok (.ireturn, 1) := by decide +kernel
set_option maxRecDepth 20000 in
theorem ggX1_darkMoments_X1_darkAt : GoodIn wsX1_darkMoments wsX1_darkAt := goodIn_r _ [6, 7, 8, 9, 10, 11, 12, 13, 14, 15, 16, 17, 18, 19, 20, 21, 22, 23, 24, 25, 26, 27, 28, 29, 30, 31, 32, 33, 34, 35, 36, 37, 38] (by decide +kernel) (by decide +kernel)
set_option maxRecDepth 20000 in
theorem gX1_darkMoments_X1_darkAt : GoodIn wsX1_darkMoments (wsV RX1 93 RX1 yX1_darkAt wsX1_darkAt) := goodIn_app (goodIn_of _ (by decide +kernel)) ggX1_darkMoments_X1_darkAt
theorem dX1_darkMoments_0 : decode cX1_darkMoments 0 = .ok (.iconst 0, 1) := by decide +kernel
theorem dX1_darkMoments_1 : decode cX1_darkMoments 1 = .ok (.istore_n 3, 1) := by decide +kernel
theorem dX1_darkMoments_2 : decode cX1_darkMoments 2 = .ok (.iconst 1, 1) := by decide +kernel
theorem dX1_darkMoments_3 : decode cX1_darkMoments 3 = .ok (.istore 4, 2) := by decide +kernel
theorem dX1_darkMoments_5 : decode cX1_darkMoments 5 = .ok (.iload 4, 2) := by decide +kernel
theorem dX1_darkMoments_7 : decode cX1_darkMoments 7 = .ok (.iload_n 1, 1) := by decide +kernel
theorem dX1_darkMoments_8 : decode cX1_darkMoments 8 = .ok (.if_icmp .gt 27, 3) := by decide +kernel
theorem dX1_darkMoments_11 : decode cX1_darkMoments 11 = .ok (.aload_n 0, 1) := by decide +kernel
theorem dX1_darkMoments_12 : decode cX1_darkMoments 12 = .ok (.aload_n 0, 1) := by decide +kernel
theorem dX1_darkMoments_13 : decode cX1_darkMoments 13 = .ok (.getfield 73, 3) := by decide +kernel
theorem dX1_darkMoments_16 : decode cX1_darkMoments 16 = .ok (.iload 4, 2) := by decide +kernel
theorem dX1_darkMoments_18 : decode cX1_darkMoments 18 = .ok (.iadd, 1) := by decide +kernel
theorem dX1_darkMoments_19 : decode cX1_darkMoments 19 = .ok (.iload_n 2, 1) := by decide +kernel
theorem dX1_darkMoments_20 : decode cX1_darkMoments 20 = .ok (.invokevirtual 93, 3) := by decide +kernel
theorem dX1_darkMoments_23 : decode cX1_darkMoments 23 = .ok (.ifCond .eq 6, 3) := by decide +kernel
theorem dX1_darkMoments_26 : decode cX1_darkMoments 26 = .ok (.iinc 3 1, 3) := by decide +kernel
theorem dX1_darkMoments_29 : decode cX1_darkMoments 29 = .ok (.iinc 4 1, 3) := by decide +kernel
theorem dX1_darkMoments_32 : decode cX1_darkMoments 32 = .ok (.goto (-27), 3) := by decide +kernel
theorem dX1_darkMoments_35 : decode cX1_darkMoments 35 = .ok (.iload_n 3, 1) := by decide +kernel
theorem dX1_darkMoments_36 : decode cX1_darkMoments 36 = .ok (.ireturn, 1) := by decide +kernel
set_option maxRecDepth 20000 in
theorem ggX1_collideAt_X0_changesAt : GoodIn wsX1_collideAt wsX0_changesAt := goodIn_r _ [6, 7, 8, 9, 5, 10, 11, 12, 13, 14, 15, 16, 22, 23, 24, 25, 26] (by decide +kernel) (by decide +kernel)
set_option maxRecDepth 20000 in
theorem gX1_collideAt_X0_changesAt : GoodIn wsX1_collideAt (wsV RX1 165 RX0 yX0_changesAt wsX0_changesAt) := goodIn_app (goodIn_of _ (by decide +kernel)) ggX1_collideAt_X0_changesAt
theorem dX1_collideAt_0 : decode cX1_collideAt 0 = .ok (.aload_n 0, 1) := by decide +kernel
theorem dX1_collideAt_1 : decode cX1_collideAt 1 = .ok (.getfield 11, 3) := by decide +kernel
theorem dX1_collideAt_4 : decode cX1_collideAt 4 = .ok (.iload_n 1, 1) := by decide +kernel
theorem dX1_collideAt_5 : decode cX1_collideAt 5 = .ok (.aaload, 1) := by decide +kernel
theorem dX1_collideAt_6 : decode cX1_collideAt 6 = .ok (.iload_n 3, 1) := by decide +kernel
theorem dX1_collideAt_7 : decode cX1_collideAt 7 = .ok (.invokevirtual 165, 3) := by decide +kernel
theorem dX1_collideAt_10 : decode cX1_collideAt 10 = .ok (.ifCond .eq 20, 3) := by decide +kernel
theorem dX1_collideAt_13 : decode cX1_collideAt 13 = .ok (.aload_n 0, 1) := by decide +kernel
theorem dX1_collideAt_14 : decode cX1_collideAt 14 = .ok (.getfield 11, 3) := by decide +kernel
theorem dX1_collideAt_17 : decode cX1_collideAt 17 = .ok (.iload_n 2, 1) := by decide +kernel
theorem dX1_collideAt_18 : decode cX1_collideAt 18 = .ok (.aaload, 1) := by decide +kernel
theorem dX1_collideAt_19 : decode cX1_collideAt 19 = .ok (.iload_n 3, 1) := by decide +kernel
theorem dX1_collideAt_20 : decode cX1_collideAt 20 = .ok (.invokevirtual 165, 3) := by decide +kernel
theorem dX1_collideAt_23 : decode cX1_collideAt 23 = .ok (.ifCond .eq 7, 3) := by decide +kernel
theorem dX1_collideAt_26 : decode cX1_collideAt 26 = .ok (.iconst 1, 1) := by decide +kernel
theorem dX1_collideAt_27 : decode cX1_collideAt 27 = .ok (.goto 4, 3) := by decide +kernel
theorem dX1_collideAt_30 : decode cX1_collideAt 30 = .ok (.iconst 0, 1) := by decide +kernel
theorem dX1_collideAt_31 : decode cX1_collideAt 31 = .ok (.ireturn, 1) := by decide +kernel
