set_option maxRecDepth 20000 in
theorem ggL_addLamp_X1_addLamp : GoodIn wsL_addLamp wsX1_addLamp := goodIn_ca (goodIn_r _ [6, 7, 8, 9, 10, 11, 12, 13, 14, 15, 16, 17, 18, 19, 20] (by decide +kernel) (by decide +kernel)) (goodIn_sub (fun _ h => List.mem_cons_of_mem _ (List.mem_append_right _ h)) (by decide +kernel))
set_option maxRecDepth 20000 in
theorem gL_addLamp_X1_addLamp : GoodIn wsL_addLamp (wsV RL 7 RX1 yX1_addLamp wsX1_addLamp) := goodIn_app (goodIn_of _ (by decide +kernel)) ggL_addLamp_X1_addLamp
theorem dL_addLamp_0 : decode cL_addLamp 0 = .ok (.aload_n 2, 1) := by decide +kernel
theorem dL_addLamp_1 : decode cL_addLamp 1 = .ok (.iconst 0, 1) := by decide +kernel
theorem dL_addLamp_2 : decode cL_addLamp 2 = .ok (.aload_n 0, 1) := by decide +kernel
theorem dL_addLamp_3 : decode cL_addLamp 3 = .ok (.iload_n 1, 1) := by decide +kernel
theorem dL_addLamp_4 : decode cL_addLamp 4 = .ok (.invokevirtual 7, 3) := by decide +kernel
theorem dL_addLamp_7 : decode cL_addLamp 7 = .ok (.i2l, 1) := by decide +kernel
theorem dL_addLamp_8 : decode cL_addLamp 8 = .ok (.lastore, 1) := by decide +kernel
theorem dL_addLamp_9 : decode cL_addLamp 9 = .ok (.goto 6, 3) := by decide +kernel
theorem dL_addLamp_12 : decode cL_addLamp 12 = .ok (.astore_n 3, 1) := by decide +kernel
theorem dL_addLamp_13 : decode cL_addLamp 13 = .ok (.iconst 1, 1) := by decide +kernel
theorem dL_addLamp_14 : decode cL_addLamp 14 = .ok (.ireturn, 1) := by decide +kernel
theorem dL_addLamp_15 : decode cL_addLamp 15 = .ok (.iconst 0, 1) := by decide +kernel
theorem dL_addLamp_16 : decode cL_addLamp 16 = .ok (.ireturn, 1) := by decide +kernel
set_option maxRecDepth 20000 in
theorem ggL_addBeat_X1_addBeat : GoodIn wsL_addBeat wsX1_addBeat := goodIn_ca (goodIn_ca (goodIn_ca (goodIn_r _ [8, 9, 10, 11, 12, 13, 14, 7, 15, 16, 17, 18, 19, 20, 21, 22, 23, 24, 25, 26, 27, 28, 29, 30, 31, 32, 33, 34, 35, 36, 37, 38, 39, 40, 41, 42, 43, 44, 45] (by decide +kernel) (by decide +kernel)) (goodIn_sub (fun _ h => List.mem_cons_of_mem _ (List.mem_append_left _ (List.mem_append_left _ (List.mem_append_right _ h)))) (by decide +kernel))) (goodIn_sub (fun _ h => List.mem_cons_of_mem _ (List.mem_append_left _ (List.mem_append_right _ h))) (by decide +kernel))) (goodIn_sub (fun _ h => List.mem_cons_of_mem _ (List.mem_append_right _ h)) (by decide +kernel))
set_option maxRecDepth 20000 in
theorem gL_addBeat_X1_addBeat : GoodIn wsL_addBeat (wsV RL 15 RX1 yX1_addBeat wsX1_addBeat) := goodIn_app (goodIn_of _ (by decide +kernel)) ggL_addBeat_X1_addBeat
theorem dL_addBeat_0 : decode cL_addBeat 0 = .ok (.aload 4, 2) := by decide +kernel
theorem dL_addBeat_2 : decode cL_addBeat 2 = .ok (.iconst 0, 1) := by decide +kernel
theorem dL_addBeat_3 : decode cL_addBeat 3 = .ok (.aload_n 0, 1) := by decide +kernel
theorem dL_addBeat_4 : decode cL_addBeat 4 = .ok (.iload_n 1, 1) := by decide +kernel
theorem dL_addBeat_5 : decode cL_addBeat 5 = .ok (.iload_n 2, 1) := by decide +kernel
theorem dL_addBeat_6 : decode cL_addBeat 6 = .ok (.iload_n 3, 1) := by decide +kernel
theorem dL_addBeat_7 : decode cL_addBeat 7 = .ok (.invokevirtual 15, 3) := by decide +kernel
theorem dL_addBeat_10 : decode cL_addBeat 10 = .ok (.i2l, 1) := by decide +kernel
theorem dL_addBeat_11 : decode cL_addBeat 11 = .ok (.lastore, 1) := by decide +kernel
theorem dL_addBeat_12 : decode cL_addBeat 12 = .ok (.goto 15, 3) := by decide +kernel
theorem dL_addBeat_15 : decode cL_addBeat 15 = .ok (.astore 5, 2) := by decide +kernel
theorem dL_addBeat_17 : decode cL_addBeat 17 = .ok (.iconst 1, 1) := by decide +kernel
theorem dL_addBeat_18 : decode cL_addBeat 18 = .ok (.ireturn, 1) := by decide +kernel
theorem dL_addBeat_19 : decode cL_addBeat 19 = .ok (.astore 5, 2) := by decide +kernel
theorem dL_addBeat_21 : decode cL_addBeat 21 = .ok (.iconst 2, 1) := by decide +kernel
theorem dL_addBeat_22 : decode cL_addBeat 22 = .ok (.ireturn, 1) := by decide +kernel
theorem dL_addBeat_23 : decode cL_addBeat 23 = .ok (.astore 5, 2) := by decide +kernel
theorem dL_addBeat_25 : decode cL_addBeat 25 = .ok (.iconst 3, 1) := by decide +kernel
theorem dL_addBeat_26 : decode cL_addBeat 26 = .ok (.ireturn, 1) := by decide +kernel
theorem dL_addBeat_27 : decode cL_addBeat 27 = .ok (.iconst 0, 1) := by decide +kernel
theorem dL_addBeat_28 : decode cL_addBeat 28 = .ok (.ireturn, 1) := by decide +kernel
set_option maxRecDepth 20000 in
theorem ggL_moveBeat_X1_moveBeat : GoodIn wsL_moveBeat wsX1_moveBeat := goodIn_ca (goodIn_ca (goodIn_r _ [7, 8, 9, 10, 11, 6, 12, 13, 14, 15, 16, 17, 18, 19, 20, 21, 22, 23, 24, 25, 26, 27, 28, 29, 30, 31, 32, 33, 34] (by decide +kernel) (by decide +kernel)) (goodIn_sub (fun _ h => List.mem_cons_of_mem _ (List.mem_append_left _ (List.mem_append_right _ h))) (by decide +kernel))) (goodIn_sub (fun _ h => List.mem_cons_of_mem _ (List.mem_append_right _ h)) (by decide +kernel))
set_option maxRecDepth 20000 in
theorem gL_moveBeat_X1_moveBeat : GoodIn wsL_moveBeat (wsV RL 23 RX1 yX1_moveBeat wsX1_moveBeat) := goodIn_app (goodIn_of _ (by decide +kernel)) ggL_moveBeat_X1_moveBeat
theorem dL_moveBeat_0 : decode cL_moveBeat 0 = .ok (.aload 4, 2) := by decide +kernel
theorem dL_moveBeat_2 : decode cL_moveBeat 2 = .ok (.iconst 0, 1) := by decide +kernel
theorem dL_moveBeat_3 : decode cL_moveBeat 3 = .ok (.aload_n 0, 1) := by decide +kernel
theorem dL_moveBeat_4 : decode cL_moveBeat 4 = .ok (.iload_n 1, 1) := by decide +kernel
theorem dL_moveBeat_5 : decode cL_moveBeat 5 = .ok (.iload_n 2, 1) := by decide +kernel
theorem dL_moveBeat_6 : decode cL_moveBeat 6 = .ok (.iload_n 3, 1) := by decide +kernel
theorem dL_moveBeat_7 : decode cL_moveBeat 7 = .ok (.invokevirtual 23, 3) := by decide +kernel
theorem dL_moveBeat_10 : decode cL_moveBeat 10 = .ok (.i2l, 1) := by decide +kernel
theorem dL_moveBeat_11 : decode cL_moveBeat 11 = .ok (.lastore, 1) := by decide +kernel
theorem dL_moveBeat_12 : decode cL_moveBeat 12 = .ok (.goto 11, 3) := by decide +kernel
theorem dL_moveBeat_15 : decode cL_moveBeat 15 = .ok (.astore 5, 2) := by decide +kernel
theorem dL_moveBeat_17 : decode cL_moveBeat 17 = .ok (.iconst 1, 1) := by decide +kernel
theorem dL_moveBeat_18 : decode cL_moveBeat 18 = .ok (.ireturn, 1) := by decide +kernel
theorem dL_moveBeat_19 : decode cL_moveBeat 19 = .ok (.astore 5, 2) := by decide +kernel
theorem dL_moveBeat_21 : decode cL_moveBeat 21 = .ok (.iconst 2, 1) := by decide +kernel
theorem dL_moveBeat_22 : decode cL_moveBeat 22 = .ok (.ireturn, 1) := by decide +kernel
theorem dL_moveBeat_23 : decode cL_moveBeat 23 = .ok (.iconst 0, 1) := by decide +kernel
theorem dL_moveBeat_24 : decode cL_moveBeat 24 = .ok (.ireturn, 1) := by decide +kernel
set_option maxRecDepth 20000 in
theorem ggL_takeBeat_X1_takeBeat : GoodIn wsL_takeBeat wsX1_takeBeat := goodIn_ca (goodIn_r _ [6, 7, 8, 9, 10, 5, 11, 12, 13, 14, 15, 16, 17, 18, 19, 20, 21, 22, 23, 24, 25, 26, 27, 28, 29, 30, 31, 32, 33, 34, 35, 36] (by decide +kernel) (by decide +kernel)) (goodIn_sub (fun _ h => List.mem_cons_of_mem _ (List.mem_append_right _ h)) (by decide +kernel))
set_option maxRecDepth 20000 in
theorem gL_takeBeat_X1_takeBeat : GoodIn wsL_takeBeat (wsV RL 26 RX1 yX1_takeBeat wsX1_takeBeat) := goodIn_app (goodIn_of _ (by decide +kernel)) ggL_takeBeat_X1_takeBeat
theorem dL_takeBeat_0 : decode cL_takeBeat 0 = .ok (.aload_n 3, 1) := by decide +kernel
theorem dL_takeBeat_1 : decode cL_takeBeat 1 = .ok (.iconst 0, 1) := by decide +kernel
theorem dL_takeBeat_2 : decode cL_takeBeat 2 = .ok (.aload_n 0, 1) := by decide +kernel
theorem dL_takeBeat_3 : decode cL_takeBeat 3 = .ok (.iload_n 1, 1) := by decide +kernel
theorem dL_takeBeat_4 : decode cL_takeBeat 4 = .ok (.iload_n 2, 1) := by decide +kernel
theorem dL_takeBeat_5 : decode cL_takeBeat 5 = .ok (.invokevirtual 26, 3) := by decide +kernel
theorem dL_takeBeat_8 : decode cL_takeBeat 8 = .ok (.i2l, 1) := by decide +kernel
theorem dL_takeBeat_9 : decode cL_takeBeat 9 = .ok (.lastore, 1) := by decide +kernel
theorem dL_takeBeat_10 : decode cL_takeBeat 10 = .ok (.goto 7, 3) := by decide +kernel
theorem dL_takeBeat_13 : decode cL_takeBeat 13 = .ok (.astore 4, 2) := by decide +kernel
theorem dL_takeBeat_15 : decode cL_takeBeat 15 = .ok (.iconst 1, 1) := by decide +kernel
theorem dL_takeBeat_16 : decode cL_takeBeat 16 = .ok (.ireturn, 1) := by decide +kernel
theorem dL_takeBeat_17 : decode cL_takeBeat 17 = .ok (.iconst 0, 1) := by decide +kernel
theorem dL_takeBeat_18 : decode cL_takeBeat 18 = .ok (.ireturn, 1) := by decide +kernel
set_option maxRecDepth 20000 in
theorem ggL_turnShutter_X1_turnShutter : GoodIn wsL_turnShutter wsX1_turnShutter := goodIn_ca (goodIn_r _ [6, 7, 8, 9, 10, 5, 11, 12, 13, 14, 15, 16, 17, 18, 19, 20, 21, 22, 23, 24] (by decide +kernel) (by decide +kernel)) (goodIn_sub (fun _ h => List.mem_cons_of_mem _ (List.mem_append_right _ h)) (by decide +kernel))
set_option maxRecDepth 20000 in
theorem gL_turnShutter_X1_turnShutter : GoodIn wsL_turnShutter (wsV RL 30 RX1 yX1_turnShutter wsX1_turnShutter) := goodIn_app (goodIn_of _ (by decide +kernel)) ggL_turnShutter_X1_turnShutter
theorem dL_turnShutter_0 : decode cL_turnShutter 0 = .ok (.aload_n 2, 1) := by decide +kernel
theorem dL_turnShutter_1 : decode cL_turnShutter 1 = .ok (.iconst 0, 1) := by decide +kernel
theorem dL_turnShutter_2 : decode cL_turnShutter 2 = .ok (.aload_n 0, 1) := by decide +kernel
theorem dL_turnShutter_3 : decode cL_turnShutter 3 = .ok (.iload_n 1, 1) := by decide +kernel
theorem dL_turnShutter_4 : decode cL_turnShutter 4 = .ok (.invokevirtual 30, 3) := by decide +kernel
theorem dL_turnShutter_7 : decode cL_turnShutter 7 = .ok (.ifCond .eq 7, 3) := by decide +kernel
theorem dL_turnShutter_10 : decode cL_turnShutter 10 = .ok (.lconst 1, 1) := by decide +kernel
theorem dL_turnShutter_11 : decode cL_turnShutter 11 = .ok (.goto 4, 3) := by decide +kernel
theorem dL_turnShutter_14 : decode cL_turnShutter 14 = .ok (.lconst 0, 1) := by decide +kernel
theorem dL_turnShutter_15 : decode cL_turnShutter 15 = .ok (.lastore, 1) := by decide +kernel
theorem dL_turnShutter_16 : decode cL_turnShutter 16 = .ok (.goto 6, 3) := by decide +kernel
theorem dL_turnShutter_19 : decode cL_turnShutter 19 = .ok (.astore_n 3, 1) := by decide +kernel
theorem dL_turnShutter_20 : decode cL_turnShutter 20 = .ok (.iconst 1, 1) := by decide +kernel
theorem dL_turnShutter_21 : decode cL_turnShutter 21 = .ok (.ireturn, 1) := by decide +kernel
theorem dL_turnShutter_22 : decode cL_turnShutter 22 = .ok (.iconst 0, 1) := by decide +kernel
theorem dL_turnShutter_23 : decode cL_turnShutter 23 = .ok (.ireturn, 1) := by decide +kernel
set_option maxRecDepth 20000 in
theorem ggL_pass_X1_pass : GoodIn wsL_pass wsX1_pass := goodIn_ca (goodIn_r _ [6, 7, 8, 9, 10, 5, 11, 12, 13, 14, 15, 16, 17, 18, 19, 20, 21, 22, 23, 24, 25, 26, 27, 28, 29, 30, 31, 32, 33, 34, 35, 36, 37, 38, 39, 40, 41, 42, 43, 44] (by decide +kernel) (by decide +kernel)) (goodIn_sub (fun _ h => List.mem_cons_of_mem _ (List.mem_append_right _ h)) (by decide +kernel))
set_option maxRecDepth 20000 in
theorem gL_pass_X1_pass : GoodIn wsL_pass (wsV RL 34 RX1 yX1_pass wsX1_pass) := goodIn_app (goodIn_of _ (by decide +kernel)) ggL_pass_X1_pass
theorem dL_pass_0 : decode cL_pass 0 = .ok (.aload_n 2, 1) := by decide +kernel
theorem dL_pass_1 : decode cL_pass 1 = .ok (.iconst 0, 1) := by decide +kernel
theorem dL_pass_2 : decode cL_pass 2 = .ok (.aload_n 0, 1) := by decide +kernel
theorem dL_pass_3 : decode cL_pass 3 = .ok (.iload_n 1, 1) := by decide +kernel
theorem dL_pass_4 : decode cL_pass 4 = .ok (.invokevirtual 34, 3) := by decide +kernel
theorem dL_pass_7 : decode cL_pass 7 = .ok (.i2l, 1) := by decide +kernel
theorem dL_pass_8 : decode cL_pass 8 = .ok (.lastore, 1) := by decide +kernel
theorem dL_pass_9 : decode cL_pass 9 = .ok (.goto 6, 3) := by decide +kernel
theorem dL_pass_12 : decode cL_pass 12 = .ok (.astore_n 3, 1) := by decide +kernel
theorem dL_pass_13 : decode cL_pass 13 = .ok (.iconst 1, 1) := by decide +kernel
theorem dL_pass_14 : decode cL_pass 14 = .ok (.ireturn, 1) := by decide +kernel
theorem dL_pass_15 : decode cL_pass 15 = .ok (.iconst 0, 1) := by decide +kernel
theorem dL_pass_16 : decode cL_pass 16 = .ok (.ireturn, 1) := by decide +kernel
set_option maxRecDepth 20000 in
theorem ggL_beatsOf_X1_beatsOf : GoodIn wsL_beatsOf wsX1_beatsOf := goodIn_ca (goodIn_r _ [6, 7, 8, 9, 10, 5, 11, 12, 13, 14, 15, 16, 17, 18, 19, 20, 21, 22, 23, 24] (by decide +kernel) (by decide +kernel)) (goodIn_sub (fun _ h => List.mem_cons_of_mem _ (List.mem_append_right _ h)) (by decide +kernel))
set_option maxRecDepth 20000 in
theorem gL_beatsOf_X1_beatsOf : GoodIn wsL_beatsOf (wsV RL 38 RX1 yX1_beatsOf wsX1_beatsOf) := goodIn_app (goodIn_of _ (by decide +kernel)) ggL_beatsOf_X1_beatsOf
theorem dL_beatsOf_0 : decode cL_beatsOf 0 = .ok (.aload_n 2, 1) := by decide +kernel
theorem dL_beatsOf_1 : decode cL_beatsOf 1 = .ok (.iconst 0, 1) := by decide +kernel
theorem dL_beatsOf_2 : decode cL_beatsOf 2 = .ok (.aload_n 0, 1) := by decide +kernel
theorem dL_beatsOf_3 : decode cL_beatsOf 3 = .ok (.iload_n 1, 1) := by decide +kernel
theorem dL_beatsOf_4 : decode cL_beatsOf 4 = .ok (.invokevirtual 38, 3) := by decide +kernel
theorem dL_beatsOf_7 : decode cL_beatsOf 7 = .ok (.i2l, 1) := by decide +kernel
theorem dL_beatsOf_8 : decode cL_beatsOf 8 = .ok (.lastore, 1) := by decide +kernel
theorem dL_beatsOf_9 : decode cL_beatsOf 9 = .ok (.goto 6, 3) := by decide +kernel
theorem dL_beatsOf_12 : decode cL_beatsOf 12 = .ok (.astore_n 3, 1) := by decide +kernel
theorem dL_beatsOf_13 : decode cL_beatsOf 13 = .ok (.iconst 1, 1) := by decide +kernel
theorem dL_beatsOf_14 : decode cL_beatsOf 14 = .ok (.ireturn, 1) := by decide +kernel
theorem dL_beatsOf_15 : decode cL_beatsOf 15 = .ok (.iconst 0, 1) := by decide +kernel
theorem dL_beatsOf_16 : decode cL_beatsOf 16 = .ok (.ireturn, 1) := by decide +kernel
set_option maxRecDepth 20000 in
theorem ggL_numberOf_X1_numberOf : GoodIn wsL_numberOf wsX1_numberOf := goodIn_ca (goodIn_r _ [6, 7, 8, 9, 10, 5, 11, 12, 13, 14, 15, 16, 17, 18, 19, 20, 21, 22, 23, 24, 25, 26, 27, 28] (by decide +kernel) (by decide +kernel)) (goodIn_sub (fun _ h => List.mem_cons_of_mem _ (List.mem_append_right _ h)) (by decide +kernel))
set_option maxRecDepth 20000 in
theorem gL_numberOf_X1_numberOf : GoodIn wsL_numberOf (wsV RL 41 RX1 yX1_numberOf wsX1_numberOf) := goodIn_app (goodIn_of _ (by decide +kernel)) ggL_numberOf_X1_numberOf
theorem dL_numberOf_0 : decode cL_numberOf 0 = .ok (.aload_n 3, 1) := by decide +kernel
theorem dL_numberOf_1 : decode cL_numberOf 1 = .ok (.iconst 0, 1) := by decide +kernel
theorem dL_numberOf_2 : decode cL_numberOf 2 = .ok (.aload_n 0, 1) := by decide +kernel
theorem dL_numberOf_3 : decode cL_numberOf 3 = .ok (.iload_n 1, 1) := by decide +kernel
theorem dL_numberOf_4 : decode cL_numberOf 4 = .ok (.iload_n 2, 1) := by decide +kernel
theorem dL_numberOf_5 : decode cL_numberOf 5 = .ok (.invokevirtual 41, 3) := by decide +kernel
theorem dL_numberOf_8 : decode cL_numberOf 8 = .ok (.i2l, 1) := by decide +kernel
theorem dL_numberOf_9 : decode cL_numberOf 9 = .ok (.lastore, 1) := by decide +kernel
theorem dL_numberOf_10 : decode cL_numberOf 10 = .ok (.goto 7, 3) := by decide +kernel
theorem dL_numberOf_13 : decode cL_numberOf 13 = .ok (.astore 4, 2) := by decide +kernel
theorem dL_numberOf_15 : decode cL_numberOf 15 = .ok (.iconst 1, 1) := by decide +kernel
theorem dL_numberOf_16 : decode cL_numberOf 16 = .ok (.ireturn, 1) := by decide +kernel
theorem dL_numberOf_17 : decode cL_numberOf 17 = .ok (.iconst 0, 1) := by decide +kernel
theorem dL_numberOf_18 : decode cL_numberOf 18 = .ok (.ireturn, 1) := by decide +kernel
set_option maxRecDepth 20000 in
theorem ggL_offsetOf_X1_offsetOf : GoodIn wsL_offsetOf wsX1_offsetOf := goodIn_ca (goodIn_r _ [6, 7, 8, 9, 10, 5, 11, 12, 13, 14, 15, 16, 17, 18, 19, 20, 21, 22, 23, 24, 25, 26, 27, 28] (by decide +kernel) (by decide +kernel)) (goodIn_sub (fun _ h => List.mem_cons_of_mem _ (List.mem_append_right _ h)) (by decide +kernel))
set_option maxRecDepth 20000 in
theorem gL_offsetOf_X1_offsetOf : GoodIn wsL_offsetOf (wsV RL 44 RX1 yX1_offsetOf wsX1_offsetOf) := goodIn_app (goodIn_of _ (by decide +kernel)) ggL_offsetOf_X1_offsetOf
theorem dL_offsetOf_0 : decode cL_offsetOf 0 = .ok (.aload_n 3, 1) := by decide +kernel
theorem dL_offsetOf_1 : decode cL_offsetOf 1 = .ok (.iconst 0, 1) := by decide +kernel
theorem dL_offsetOf_2 : decode cL_offsetOf 2 = .ok (.aload_n 0, 1) := by decide +kernel
theorem dL_offsetOf_3 : decode cL_offsetOf 3 = .ok (.iload_n 1, 1) := by decide +kernel
theorem dL_offsetOf_4 : decode cL_offsetOf 4 = .ok (.iload_n 2, 1) := by decide +kernel
theorem dL_offsetOf_5 : decode cL_offsetOf 5 = .ok (.invokevirtual 44, 3) := by decide +kernel
theorem dL_offsetOf_8 : decode cL_offsetOf 8 = .ok (.i2l, 1) := by decide +kernel
theorem dL_offsetOf_9 : decode cL_offsetOf 9 = .ok (.lastore, 1) := by decide +kernel
theorem dL_offsetOf_10 : decode cL_offsetOf 10 = .ok (.goto 7, 3) := by decide +kernel
theorem dL_offsetOf_13 : decode cL_offsetOf 13 = .ok (.astore 4, 2) := by decide +kernel
theorem dL_offsetOf_15 : decode cL_offsetOf 15 = .ok (.iconst 1, 1) := by decide +kernel
theorem dL_offsetOf_16 : decode cL_offsetOf 16 = .ok (.ireturn, 1) := by decide +kernel
theorem dL_offsetOf_17 : decode cL_offsetOf 17 = .ok (.iconst 0, 1) := by decide +kernel
theorem dL_offsetOf_18 : decode cL_offsetOf 18 = .ok (.ireturn, 1) := by decide +kernel
set_option maxRecDepth 20000 in
theorem ggL_isCovered_X1_isCovered : GoodIn wsL_isCovered wsX1_isCovered := goodIn_ca (goodIn_r _ [6, 7, 8, 9, 10, 5, 11, 12, 13, 14, 15, 16, 17, 18, 19, 20, 21, 22, 23, 24] (by decide +kernel) (by decide +kernel)) (goodIn_sub (fun _ h => List.mem_cons_of_mem _ (List.mem_append_right _ h)) (by decide +kernel))
set_option maxRecDepth 20000 in
theorem gL_isCovered_X1_isCovered : GoodIn wsL_isCovered (wsV RL 47 RX1 yX1_isCovered wsX1_isCovered) := goodIn_app (goodIn_of _ (by decide +kernel)) ggL_isCovered_X1_isCovered
theorem dL_isCovered_0 : decode cL_isCovered 0 = .ok (.aload_n 2, 1) := by decide +kernel
theorem dL_isCovered_1 : decode cL_isCovered 1 = .ok (.iconst 0, 1) := by decide +kernel
theorem dL_isCovered_2 : decode cL_isCovered 2 = .ok (.aload_n 0, 1) := by decide +kernel
theorem dL_isCovered_3 : decode cL_isCovered 3 = .ok (.iload_n 1, 1) := by decide +kernel
theorem dL_isCovered_4 : decode cL_isCovered 4 = .ok (.invokevirtual 47, 3) := by decide +kernel
theorem dL_isCovered_7 : decode cL_isCovered 7 = .ok (.ifCond .eq 7, 3) := by decide +kernel
theorem dL_isCovered_10 : decode cL_isCovered 10 = .ok (.lconst 1, 1) := by decide +kernel
theorem dL_isCovered_11 : decode cL_isCovered 11 = .ok (.goto 4, 3) := by decide +kernel
theorem dL_isCovered_14 : decode cL_isCovered 14 = .ok (.lconst 0, 1) := by decide +kernel
theorem dL_isCovered_15 : decode cL_isCovered 15 = .ok (.lastore, 1) := by decide +kernel
theorem dL_isCovered_16 : decode cL_isCovered 16 = .ok (.goto 6, 3) := by decide +kernel
theorem dL_isCovered_19 : decode cL_isCovered 19 = .ok (.astore_n 3, 1) := by decide +kernel
theorem dL_isCovered_20 : decode cL_isCovered 20 = .ok (.iconst 1, 1) := by decide +kernel
theorem dL_isCovered_21 : decode cL_isCovered 21 = .ok (.ireturn, 1) := by decide +kernel
theorem dL_isCovered_22 : decode cL_isCovered 22 = .ok (.iconst 0, 1) := by decide +kernel
theorem dL_isCovered_23 : decode cL_isCovered 23 = .ok (.ireturn, 1) := by decide +kernel
set_option maxRecDepth 20000 in
theorem ggL_isOn_X1_isOn : GoodIn wsL_isOn wsX1_isOn := goodIn_ca (goodIn_r _ [6, 7, 8, 9, 10, 11, 5, 12, 13, 14, 15, 16, 17, 18, 19, 20, 21, 22, 23, 24, 25, 26, 27, 28, 29, 30, 31, 32, 33, 34, 35, 36, 37, 38, 39, 40] (by decide +kernel) (by decide +kernel)) (goodIn_sub (fun _ h => List.mem_cons_of_mem _ (List.mem_append_right _ h)) (by decide +kernel))
set_option maxRecDepth 20000 in
theorem gL_isOn_X1_isOn : GoodIn wsL_isOn (wsV RL 50 RX1 yX1_isOn wsX1_isOn) := goodIn_app (goodIn_of _ (by decide +kernel)) ggL_isOn_X1_isOn
theorem dL_isOn_0 : decode cL_isOn 0 = .ok (.aload_n 2, 1) := by decide +kernel
theorem dL_isOn_1 : decode cL_isOn 1 = .ok (.iconst 0, 1) := by decide +kernel
theorem dL_isOn_2 : decode cL_isOn 2 = .ok (.aload_n 0, 1) := by decide +kernel
theorem dL_isOn_3 : decode cL_isOn 3 = .ok (.iload_n 1, 1) := by decide +kernel
theorem dL_isOn_4 : decode cL_isOn 4 = .ok (.invokevirtual 50, 3) := by decide +kernel
theorem dL_isOn_7 : decode cL_isOn 7 = .ok (.ifCond .eq 7, 3) := by decide +kernel
theorem dL_isOn_10 : decode cL_isOn 10 = .ok (.lconst 1, 1) := by decide +kernel
theorem dL_isOn_11 : decode cL_isOn 11 = .ok (.goto 4, 3) := by decide +kernel
theorem dL_isOn_14 : decode cL_isOn 14 = .ok (.lconst 0, 1) := by decide +kernel
theorem dL_isOn_15 : decode cL_isOn 15 = .ok (.lastore, 1) := by decide +kernel
theorem dL_isOn_16 : decode cL_isOn 16 = .ok (.goto 6, 3) := by decide +kernel
theorem dL_isOn_19 : decode cL_isOn 19 = .ok (.astore_n 3, 1) := by decide +kernel
theorem dL_isOn_20 : decode cL_isOn 20 = .ok (.iconst 1, 1) := by decide +kernel
theorem dL_isOn_21 : decode cL_isOn 21 = .ok (.ireturn, 1) := by decide +kernel
theorem dL_isOn_22 : decode cL_isOn 22 = .ok (.iconst 0, 1) := by decide +kernel
theorem dL_isOn_23 : decode cL_isOn 23 = .ok (.ireturn, 1) := by decide +kernel
set_option maxRecDepth 20000 in
theorem ggL_isLit_X1_isLit : GoodIn wsL_isLit wsX1_isLit := goodIn_ca (goodIn_r _ [6, 7, 8, 9, 10, 11, 5, 12, 13, 14, 15, 16, 17, 18, 19, 20, 21, 22, 23, 24, 25, 26, 27, 28, 29, 30, 31, 32, 33, 34, 35, 36, 37, 38, 39, 40, 41, 42, 43, 44, 45] (by decide +kernel) (by decide +kernel)) (goodIn_sub (fun _ h => List.mem_cons_of_mem _ (List.mem_append_right _ h)) (by decide +kernel))
set_option maxRecDepth 20000 in
theorem gL_isLit_X1_isLit : GoodIn wsL_isLit (wsV RL 53 RX1 yX1_isLit wsX1_isLit) := goodIn_app (goodIn_of _ (by decide +kernel)) ggL_isLit_X1_isLit
theorem dL_isLit_0 : decode cL_isLit 0 = .ok (.aload_n 2, 1) := by decide +kernel
theorem dL_isLit_1 : decode cL_isLit 1 = .ok (.iconst 0, 1) := by decide +kernel
theorem dL_isLit_2 : decode cL_isLit 2 = .ok (.aload_n 0, 1) := by decide +kernel
theorem dL_isLit_3 : decode cL_isLit 3 = .ok (.iload_n 1, 1) := by decide +kernel
theorem dL_isLit_4 : decode cL_isLit 4 = .ok (.invokevirtual 53, 3) := by decide +kernel
theorem dL_isLit_7 : decode cL_isLit 7 = .ok (.ifCond .eq 7, 3) := by decide +kernel
theorem dL_isLit_10 : decode cL_isLit 10 = .ok (.lconst 1, 1) := by decide +kernel
theorem dL_isLit_11 : decode cL_isLit 11 = .ok (.goto 4, 3) := by decide +kernel
theorem dL_isLit_14 : decode cL_isLit 14 = .ok (.lconst 0, 1) := by decide +kernel
theorem dL_isLit_15 : decode cL_isLit 15 = .ok (.lastore, 1) := by decide +kernel
theorem dL_isLit_16 : decode cL_isLit 16 = .ok (.goto 6, 3) := by decide +kernel
theorem dL_isLit_19 : decode cL_isLit 19 = .ok (.astore_n 3, 1) := by decide +kernel
theorem dL_isLit_20 : decode cL_isLit 20 = .ok (.iconst 1, 1) := by decide +kernel
theorem dL_isLit_21 : decode cL_isLit 21 = .ok (.ireturn, 1) := by decide +kernel
theorem dL_isLit_22 : decode cL_isLit 22 = .ok (.iconst 0, 1) := by decide +kernel
theorem dL_isLit_23 : decode cL_isLit 23 = .ok (.ireturn, 1) := by decide +kernel
set_option maxRecDepth 20000 in
theorem ggL_isOnAt_X1_isOnAt : GoodIn wsL_isOnAt wsX1_isOnAt := goodIn_ca (goodIn_ca (goodIn_r _ [7, 8, 9, 10, 11, 6, 12, 13, 14, 15, 16, 17, 18, 19, 20, 21, 22, 23, 24, 25, 26, 27, 28, 29, 30, 31, 32, 33, 34, 35, 36, 37, 38, 39, 40, 41, 42, 43, 44, 45, 46] (by decide +kernel) (by decide +kernel)) (goodIn_sub (fun _ h => List.mem_cons_of_mem _ (List.mem_append_left _ (List.mem_append_right _ h))) (by decide +kernel))) (goodIn_sub (fun _ h => List.mem_cons_of_mem _ (List.mem_append_right _ h)) (by decide +kernel))
set_option maxRecDepth 20000 in
theorem gL_isOnAt_X1_isOnAt : GoodIn wsL_isOnAt (wsV RL 56 RX1 yX1_isOnAt wsX1_isOnAt) := goodIn_app (goodIn_of _ (by decide +kernel)) ggL_isOnAt_X1_isOnAt
theorem dL_isOnAt_0 : decode cL_isOnAt 0 = .ok (.aload_n 3, 1) := by decide +kernel
theorem dL_isOnAt_1 : decode cL_isOnAt 1 = .ok (.iconst 0, 1) := by decide +kernel
theorem dL_isOnAt_2 : decode cL_isOnAt 2 = .ok (.aload_n 0, 1) := by decide +kernel
theorem dL_isOnAt_3 : decode cL_isOnAt 3 = .ok (.iload_n 1, 1) := by decide +kernel
theorem dL_isOnAt_4 : decode cL_isOnAt 4 = .ok (.iload_n 2, 1) := by decide +kernel
theorem dL_isOnAt_5 : decode cL_isOnAt 5 = .ok (.invokevirtual 56, 3) := by decide +kernel
theorem dL_isOnAt_8 : decode cL_isOnAt 8 = .ok (.ifCond .eq 7, 3) := by decide +kernel
theorem dL_isOnAt_11 : decode cL_isOnAt 11 = .ok (.lconst 1, 1) := by decide +kernel
theorem dL_isOnAt_12 : decode cL_isOnAt 12 = .ok (.goto 4, 3) := by decide +kernel
theorem dL_isOnAt_15 : decode cL_isOnAt 15 = .ok (.lconst 0, 1) := by decide +kernel
theorem dL_isOnAt_16 : decode cL_isOnAt 16 = .ok (.lastore, 1) := by decide +kernel
theorem dL_isOnAt_17 : decode cL_isOnAt 17 = .ok (.goto 11, 3) := by decide +kernel
theorem dL_isOnAt_20 : decode cL_isOnAt 20 = .ok (.astore 4, 2) := by decide +kernel
theorem dL_isOnAt_22 : decode cL_isOnAt 22 = .ok (.iconst 1, 1) := by decide +kernel
theorem dL_isOnAt_23 : decode cL_isOnAt 23 = .ok (.ireturn, 1) := by decide +kernel
theorem dL_isOnAt_24 : decode cL_isOnAt 24 = .ok (.astore 4, 2) := by decide +kernel
theorem dL_isOnAt_26 : decode cL_isOnAt 26 = .ok (.iconst 2, 1) := by decide +kernel
theorem dL_isOnAt_27 : decode cL_isOnAt 27 = .ok (.ireturn, 1) := by decide +kernel
theorem dL_isOnAt_28 : decode cL_isOnAt 28 = .ok (.iconst 0, 1) := by decide +kernel
theorem dL_isOnAt_29 : decode cL_isOnAt 29 = .ok (.ireturn, 1) := by decide +kernel
set_option maxRecDepth 20000 in
theorem ggL_strikesAt_X1_strikesAt : GoodIn wsL_strikesAt wsX1_strikesAt := goodIn_ca (goodIn_ca (goodIn_r _ [7, 8, 9, 10, 11, 6, 12, 13, 14, 15, 16, 17, 18, 19, 20, 21, 22, 23, 24, 25, 26, 27, 28, 29, 30, 31, 32, 33, 34, 35, 36, 37, 38, 39] (by decide +kernel) (by decide +kernel)) (goodIn_sub (fun _ h => List.mem_cons_of_mem _ (List.mem_append_left _ (List.mem_append_right _ h))) (by decide +kernel))) (goodIn_sub (fun _ h => List.mem_cons_of_mem _ (List.mem_append_right _ h)) (by decide +kernel))
set_option maxRecDepth 20000 in
theorem gL_strikesAt_X1_strikesAt : GoodIn wsL_strikesAt (wsV RL 60 RX1 yX1_strikesAt wsX1_strikesAt) := goodIn_app (goodIn_of _ (by decide +kernel)) ggL_strikesAt_X1_strikesAt
theorem dL_strikesAt_0 : decode cL_strikesAt 0 = .ok (.aload_n 3, 1) := by decide +kernel
theorem dL_strikesAt_1 : decode cL_strikesAt 1 = .ok (.iconst 0, 1) := by decide +kernel
theorem dL_strikesAt_2 : decode cL_strikesAt 2 = .ok (.aload_n 0, 1) := by decide +kernel
theorem dL_strikesAt_3 : decode cL_strikesAt 3 = .ok (.iload_n 1, 1) := by decide +kernel
theorem dL_strikesAt_4 : decode cL_strikesAt 4 = .ok (.iload_n 2, 1) := by decide +kernel
theorem dL_strikesAt_5 : decode cL_strikesAt 5 = .ok (.invokevirtual 60, 3) := by decide +kernel
theorem dL_strikesAt_8 : decode cL_strikesAt 8 = .ok (.i2l, 1) := by decide +kernel
theorem dL_strikesAt_9 : decode cL_strikesAt 9 = .ok (.lastore, 1) := by decide +kernel
theorem dL_strikesAt_10 : decode cL_strikesAt 10 = .ok (.goto 11, 3) := by decide +kernel
theorem dL_strikesAt_13 : decode cL_strikesAt 13 = .ok (.astore 4, 2) := by decide +kernel
theorem dL_strikesAt_15 : decode cL_strikesAt 15 = .ok (.iconst 1, 1) := by decide +kernel
theorem dL_strikesAt_16 : decode cL_strikesAt 16 = .ok (.ireturn, 1) := by decide +kernel
theorem dL_strikesAt_17 : decode cL_strikesAt 17 = .ok (.astore 4, 2) := by decide +kernel
theorem dL_strikesAt_19 : decode cL_strikesAt 19 = .ok (.iconst 2, 1) := by decide +kernel
theorem dL_strikesAt_20 : decode cL_strikesAt 20 = .ok (.ireturn, 1) := by decide +kernel
theorem dL_strikesAt_21 : decode cL_strikesAt 21 = .ok (.iconst 0, 1) := by decide +kernel
theorem dL_strikesAt_22 : decode cL_strikesAt 22 = .ok (.ireturn, 1) := by decide +kernel
set_option maxRecDepth 20000 in
theorem ggL_isSteady_X1_isSteady : GoodIn wsL_isSteady wsX1_isSteady := goodIn_ca (goodIn_r _ [6, 7, 8, 9, 10, 5, 11, 12, 13, 14, 15, 16, 17, 18, 19, 20, 21, 22, 23, 24, 25, 26, 27, 28, 29, 30, 31, 32, 33, 34, 35, 36, 37, 38, 39, 40, 41, 42, 43, 44, 45, 46, 47, 48, 49, 50, 51, 52, 53, 54, 55] (by decide +kernel) (by decide +kernel)) (goodIn_sub (fun _ h => List.mem_cons_of_mem _ (List.mem_append_right _ h)) (by decide +kernel))
set_option maxRecDepth 20000 in
theorem gL_isSteady_X1_isSteady : GoodIn wsL_isSteady (wsV RL 63 RX1 yX1_isSteady wsX1_isSteady) := goodIn_app (goodIn_of _ (by decide +kernel)) ggL_isSteady_X1_isSteady
theorem dL_isSteady_0 : decode cL_isSteady 0 = .ok (.aload_n 2, 1) := by decide +kernel
theorem dL_isSteady_1 : decode cL_isSteady 1 = .ok (.iconst 0, 1) := by decide +kernel
theorem dL_isSteady_2 : decode cL_isSteady 2 = .ok (.aload_n 0, 1) := by decide +kernel
theorem dL_isSteady_3 : decode cL_isSteady 3 = .ok (.iload_n 1, 1) := by decide +kernel
theorem dL_isSteady_4 : decode cL_isSteady 4 = .ok (.invokevirtual 63, 3) := by decide +kernel
theorem dL_isSteady_7 : decode cL_isSteady 7 = .ok (.ifCond .eq 7, 3) := by decide +kernel
theorem dL_isSteady_10 : decode cL_isSteady 10 = .ok (.lconst 1, 1) := by decide +kernel
theorem dL_isSteady_11 : decode cL_isSteady 11 = .ok (.goto 4, 3) := by decide +kernel
theorem dL_isSteady_14 : decode cL_isSteady 14 = .ok (.lconst 0, 1) := by decide +kernel
theorem dL_isSteady_15 : decode cL_isSteady 15 = .ok (.lastore, 1) := by decide +kernel
theorem dL_isSteady_16 : decode cL_isSteady 16 = .ok (.goto 6, 3) := by decide +kernel
theorem dL_isSteady_19 : decode cL_isSteady 19 = .ok (.astore_n 3, 1) := by decide +kernel
theorem dL_isSteady_20 : decode cL_isSteady 20 = .ok (.iconst 1, 1) := by decide +kernel
theorem dL_isSteady_21 : decode cL_isSteady 21 = .ok (.ireturn, 1) := by decide +kernel
theorem dL_isSteady_22 : decode cL_isSteady 22 = .ok (.iconst 0, 1) := by decide +kernel
theorem dL_isSteady_23 : decode cL_isSteady 23 = .ok (.ireturn, 1) := by decide +kernel
set_option maxRecDepth 20000 in
theorem ggL_cycleOf_X1_cycleOf : GoodIn wsL_cycleOf wsX1_cycleOf := goodIn_ca (goodIn_r _ [6, 7, 8, 9, 10, 5, 11, 12, 13, 14, 15, 16, 17, 18, 19, 20, 21, 22, 23, 24, 25, 26, 27, 28, 29, 30, 31, 32, 33, 34, 35, 36, 37, 38, 39, 40, 41, 42, 43, 44, 45, 46, 47, 48, 49, 50, 51] (by decide +kernel) (by decide +kernel)) (goodIn_sub (fun _ h => List.mem_cons_of_mem _ (List.mem_append_right _ h)) (by decide +kernel))
set_option maxRecDepth 20000 in
theorem gL_cycleOf_X1_cycleOf : GoodIn wsL_cycleOf (wsV RL 66 RX1 yX1_cycleOf wsX1_cycleOf) := goodIn_app (goodIn_of _ (by decide +kernel)) ggL_cycleOf_X1_cycleOf
theorem dL_cycleOf_0 : decode cL_cycleOf 0 = .ok (.aload_n 2, 1) := by decide +kernel
theorem dL_cycleOf_1 : decode cL_cycleOf 1 = .ok (.iconst 0, 1) := by decide +kernel
theorem dL_cycleOf_2 : decode cL_cycleOf 2 = .ok (.aload_n 0, 1) := by decide +kernel
theorem dL_cycleOf_3 : decode cL_cycleOf 3 = .ok (.iload_n 1, 1) := by decide +kernel
theorem dL_cycleOf_4 : decode cL_cycleOf 4 = .ok (.invokevirtual 66, 3) := by decide +kernel
theorem dL_cycleOf_7 : decode cL_cycleOf 7 = .ok (.i2l, 1) := by decide +kernel
theorem dL_cycleOf_8 : decode cL_cycleOf 8 = .ok (.lastore, 1) := by decide +kernel
theorem dL_cycleOf_9 : decode cL_cycleOf 9 = .ok (.goto 6, 3) := by decide +kernel
theorem dL_cycleOf_12 : decode cL_cycleOf 12 = .ok (.astore_n 3, 1) := by decide +kernel
theorem dL_cycleOf_13 : decode cL_cycleOf 13 = .ok (.iconst 1, 1) := by decide +kernel
theorem dL_cycleOf_14 : decode cL_cycleOf 14 = .ok (.ireturn, 1) := by decide +kernel
theorem dL_cycleOf_15 : decode cL_cycleOf 15 = .ok (.iconst 0, 1) := by decide +kernel
theorem dL_cycleOf_16 : decode cL_cycleOf 16 = .ok (.ireturn, 1) := by decide +kernel
set_option maxRecDepth 20000 in
theorem ggL_momentsUntilChange_X1_momentsUntilChange : GoodIn wsL_momentsUntilChange wsX1_momentsUntilChange := goodIn_ca (goodIn_r _ [6, 7, 8, 9, 10, 11, 5, 12, 13, 14, 15, 16, 17, 18, 19, 20, 21, 22, 23, 24, 25, 26, 27, 28, 29, 30, 31, 32, 33, 34, 35, 36, 37, 38, 39, 40, 41, 42, 43, 44, 45, 46, 47, 48, 49, 50, 51, 52] (by decide +kernel) (by decide +kernel)) (goodIn_sub (fun _ h => List.mem_cons_of_mem _ (List.mem_append_right _ h)) (by decide +kernel))
set_option maxRecDepth 20000 in
theorem gL_momentsUntilChange_X1_momentsUntilChange : GoodIn wsL_momentsUntilChange (wsV RL 69 RX1 yX1_momentsUntilChange wsX1_momentsUntilChange) := goodIn_app (goodIn_of _ (by decide +kernel)) ggL_momentsUntilChange_X1_momentsUntilChange
theorem dL_momentsUntilChange_0 : decode cL_momentsUntilChange 0 = .ok (.aload_n 2, 1) := by decide +kernel
theorem dL_momentsUntilChange_1 : decode cL_momentsUntilChange 1 = .ok (.iconst 0, 1) := by decide +kernel
theorem dL_momentsUntilChange_2 : decode cL_momentsUntilChange 2 = .ok (.aload_n 0, 1) := by decide +kernel
theorem dL_momentsUntilChange_3 : decode cL_momentsUntilChange 3 = .ok (.iload_n 1, 1) := by decide +kernel
theorem dL_momentsUntilChange_4 : decode cL_momentsUntilChange 4 = .ok (.invokevirtual 69, 3) := by decide +kernel
theorem dL_momentsUntilChange_7 : decode cL_momentsUntilChange 7 = .ok (.i2l, 1) := by decide +kernel
theorem dL_momentsUntilChange_8 : decode cL_momentsUntilChange 8 = .ok (.lastore, 1) := by decide +kernel
theorem dL_momentsUntilChange_9 : decode cL_momentsUntilChange 9 = .ok (.goto 6, 3) := by decide +kernel
theorem dL_momentsUntilChange_12 : decode cL_momentsUntilChange 12 = .ok (.astore_n 3, 1) := by decide +kernel
theorem dL_momentsUntilChange_13 : decode cL_momentsUntilChange 13 = .ok (.iconst 1, 1) := by decide +kernel
theorem dL_momentsUntilChange_14 : decode cL_momentsUntilChange 14 = .ok (.ireturn, 1) := by decide +kernel
theorem dL_momentsUntilChange_15 : decode cL_momentsUntilChange 15 = .ok (.iconst 0, 1) := by decide +kernel
theorem dL_momentsUntilChange_16 : decode cL_momentsUntilChange 16 = .ok (.ireturn, 1) := by decide +kernel
set_option maxRecDepth 20000 in
theorem ggL_shows_X1_shows : GoodIn wsL_shows wsX1_shows := goodIn_ca (goodIn_ca (goodIn_r _ [7, 8, 9, 10, 11, 12, 6, 13, 14, 15, 16, 17, 18, 19, 20, 21, 22, 23, 24, 25, 26, 27, 28, 29, 30, 31, 32, 33, 34, 35, 36, 37, 38, 39, 40, 41, 42, 43, 44, 45, 46] (by decide +kernel) (by decide +kernel)) (goodIn_sub (fun _ h => List.mem_cons_of_mem _ (List.mem_append_left _ (List.mem_append_right _ h))) (by decide +kernel))) (goodIn_sub (fun _ h => List.mem_cons_of_mem _ (List.mem_append_right _ h)) (by decide +kernel))
set_option maxRecDepth 20000 in
theorem gL_shows_X1_shows : GoodIn wsL_shows (wsV RL 72 RX1 yX1_shows wsX1_shows) := goodIn_app (goodIn_of _ (by decide +kernel)) ggL_shows_X1_shows
theorem dL_shows_0 : decode cL_shows 0 = .ok (.aload_n 3, 1) := by decide +kernel
theorem dL_shows_1 : decode cL_shows 1 = .ok (.iconst 0, 1) := by decide +kernel
theorem dL_shows_2 : decode cL_shows 2 = .ok (.aload_n 0, 1) := by decide +kernel
theorem dL_shows_3 : decode cL_shows 3 = .ok (.iload_n 1, 1) := by decide +kernel
theorem dL_shows_4 : decode cL_shows 4 = .ok (.iload_n 2, 1) := by decide +kernel
theorem dL_shows_5 : decode cL_shows 5 = .ok (.invokevirtual 72, 3) := by decide +kernel
theorem dL_shows_8 : decode cL_shows 8 = .ok (.i2l, 1) := by decide +kernel
theorem dL_shows_9 : decode cL_shows 9 = .ok (.lastore, 1) := by decide +kernel
theorem dL_shows_10 : decode cL_shows 10 = .ok (.goto 11, 3) := by decide +kernel
theorem dL_shows_13 : decode cL_shows 13 = .ok (.astore 4, 2) := by decide +kernel
theorem dL_shows_15 : decode cL_shows 15 = .ok (.iconst 1, 1) := by decide +kernel
theorem dL_shows_16 : decode cL_shows 16 = .ok (.ireturn, 1) := by decide +kernel
theorem dL_shows_17 : decode cL_shows 17 = .ok (.astore 4, 2) := by decide +kernel
theorem dL_shows_19 : decode cL_shows 19 = .ok (.iconst 2, 1) := by decide +kernel
theorem dL_shows_20 : decode cL_shows 20 = .ok (.ireturn, 1) := by decide +kernel
theorem dL_shows_21 : decode cL_shows 21 = .ok (.iconst 0, 1) := by decide +kernel
theorem dL_shows_22 : decode cL_shows 22 = .ok (.ireturn, 1) := by decide +kernel
set_option maxRecDepth 20000 in
theorem ggL_momentsUntilCollision_X1_momentsUntilCollision : GoodIn wsL_momentsUntilCollision wsX1_momentsUntilCollision := goodIn_ca (goodIn_ca (goodIn_r _ [7, 8, 9, 10, 11, 6, 12, 13, 14, 15, 16, 17, 18, 19, 20, 21, 22, 23, 24, 25, 26, 27, 28, 29, 30, 31, 32, 33, 34, 35, 36, 37, 38, 39, 40, 41, 42, 43, 44, 45, 46, 47, 48, 49, 50, 51] (by decide +kernel) (by decide +kernel)) (goodIn_sub (fun _ h => List.mem_cons_of_mem _ (List.mem_append_left _ (List.mem_append_right _ h))) (by decide +kernel))) (goodIn_sub (fun _ h => List.mem_cons_of_mem _ (List.mem_append_right _ h)) (by decide +kernel))
set_option maxRecDepth 20000 in
theorem gL_momentsUntilCollision_X1_momentsUntilCollision : GoodIn wsL_momentsUntilCollision (wsV RL 75 RX1 yX1_momentsUntilCollision wsX1_momentsUntilCollision) := goodIn_app (goodIn_of _ (by decide +kernel)) ggL_momentsUntilCollision_X1_momentsUntilCollision
theorem dL_momentsUntilCollision_0 : decode cL_momentsUntilCollision 0 = .ok (.aload_n 3, 1) := by decide +kernel
theorem dL_momentsUntilCollision_1 : decode cL_momentsUntilCollision 1 = .ok (.iconst 0, 1) := by decide +kernel
theorem dL_momentsUntilCollision_2 : decode cL_momentsUntilCollision 2 = .ok (.aload_n 0, 1) := by decide +kernel
theorem dL_momentsUntilCollision_3 : decode cL_momentsUntilCollision 3 = .ok (.iload_n 1, 1) := by decide +kernel
theorem dL_momentsUntilCollision_4 : decode cL_momentsUntilCollision 4 = .ok (.iload_n 2, 1) := by decide +kernel
theorem dL_momentsUntilCollision_5 : decode cL_momentsUntilCollision 5 = .ok (.invokevirtual 75, 3) := by decide +kernel
theorem dL_momentsUntilCollision_8 : decode cL_momentsUntilCollision 8 = .ok (.i2l, 1) := by decide +kernel
theorem dL_momentsUntilCollision_9 : decode cL_momentsUntilCollision 9 = .ok (.lastore, 1) := by decide +kernel
theorem dL_momentsUntilCollision_10 : decode cL_momentsUntilCollision 10 = .ok (.goto 11, 3) := by decide +kernel
theorem dL_momentsUntilCollision_13 : decode cL_momentsUntilCollision 13 = .ok (.astore 4, 2) := by decide +kernel
theorem dL_momentsUntilCollision_15 : decode cL_momentsUntilCollision 15 = .ok (.iconst 1, 1) := by decide +kernel
theorem dL_momentsUntilCollision_16 : decode cL_momentsUntilCollision 16 = .ok (.ireturn, 1) := by decide +kernel
theorem dL_momentsUntilCollision_17 : decode cL_momentsUntilCollision 17 = .ok (.astore 4, 2) := by decide +kernel
theorem dL_momentsUntilCollision_19 : decode cL_momentsUntilCollision 19 = .ok (.iconst 2, 1) := by decide +kernel
theorem dL_momentsUntilCollision_20 : decode cL_momentsUntilCollision 20 = .ok (.ireturn, 1) := by decide +kernel
theorem dL_momentsUntilCollision_21 : decode cL_momentsUntilCollision 21 = .ok (.iconst 0, 1) := by decide +kernel
theorem dL_momentsUntilCollision_22 : decode cL_momentsUntilCollision 22 = .ok (.ireturn, 1) := by decide +kernel
set_option maxRecDepth 20000 in
theorem ggL_collisionsWithin_X1_collisionsWithin : GoodIn wsL_collisionsWithin wsX1_collisionsWithin := goodIn_ca (goodIn_ca (goodIn_r _ [7, 8, 9, 10, 11, 6, 12, 13, 14, 15, 16, 17, 18, 19, 20, 21, 22, 23, 24, 25, 26, 27, 28, 29, 30, 31, 32, 33, 34, 35, 36, 37, 38, 39, 40, 41, 42, 43, 44, 45, 46, 47, 48, 49, 50, 51, 52, 53, 54] (by decide +kernel) (by decide +kernel)) (goodIn_sub (fun _ h => List.mem_cons_of_mem _ (List.mem_append_left _ (List.mem_append_right _ h))) (by decide +kernel))) (goodIn_sub (fun _ h => List.mem_cons_of_mem _ (List.mem_append_right _ h)) (by decide +kernel))
set_option maxRecDepth 20000 in
theorem gL_collisionsWithin_X1_collisionsWithin : GoodIn wsL_collisionsWithin (wsV RL 78 RX1 yX1_collisionsWithin wsX1_collisionsWithin) := goodIn_app (goodIn_of _ (by decide +kernel)) ggL_collisionsWithin_X1_collisionsWithin
theorem dL_collisionsWithin_0 : decode cL_collisionsWithin 0 = .ok (.aload 4, 2) := by decide +kernel
theorem dL_collisionsWithin_2 : decode cL_collisionsWithin 2 = .ok (.iconst 0, 1) := by decide +kernel
theorem dL_collisionsWithin_3 : decode cL_collisionsWithin 3 = .ok (.aload_n 0, 1) := by decide +kernel
theorem dL_collisionsWithin_4 : decode cL_collisionsWithin 4 = .ok (.iload_n 1, 1) := by decide +kernel
theorem dL_collisionsWithin_5 : decode cL_collisionsWithin 5 = .ok (.iload_n 2, 1) := by decide +kernel
theorem dL_collisionsWithin_6 : decode cL_collisionsWithin 6 = .ok (.iload_n 3, 1) := by decide +kernel
theorem dL_collisionsWithin_7 : decode cL_collisionsWithin 7 = .ok (.invokevirtual 78, 3) := by decide +kernel
theorem dL_collisionsWithin_10 : decode cL_collisionsWithin 10 = .ok (.i2l, 1) := by decide +kernel
theorem dL_collisionsWithin_11 : decode cL_collisionsWithin 11 = .ok (.lastore, 1) := by decide +kernel
theorem dL_collisionsWithin_12 : decode cL_collisionsWithin 12 = .ok (.goto 11, 3) := by decide +kernel
theorem dL_collisionsWithin_15 : decode cL_collisionsWithin 15 = .ok (.astore 5, 2) := by decide +kernel
theorem dL_collisionsWithin_17 : decode cL_collisionsWithin 17 = .ok (.iconst 1, 1) := by decide +kernel
theorem dL_collisionsWithin_18 : decode cL_collisionsWithin 18 = .ok (.ireturn, 1) := by decide +kernel
theorem dL_collisionsWithin_19 : decode cL_collisionsWithin 19 = .ok (.astore 5, 2) := by decide +kernel
theorem dL_collisionsWithin_21 : decode cL_collisionsWithin 21 = .ok (.iconst 2, 1) := by decide +kernel
theorem dL_collisionsWithin_22 : decode cL_collisionsWithin 22 = .ok (.ireturn, 1) := by decide +kernel
theorem dL_collisionsWithin_23 : decode cL_collisionsWithin 23 = .ok (.iconst 0, 1) := by decide +kernel
theorem dL_collisionsWithin_24 : decode cL_collisionsWithin 24 = .ok (.ireturn, 1) := by decide +kernel
set_option maxRecDepth 20000 in
theorem ggL_momentsUntilToldApart_X1_momentsUntilToldApart : GoodIn wsL_momentsUntilToldApart wsX1_momentsUntilToldApart := goodIn_ca (goodIn_ca (goodIn_r _ [7, 8, 9, 10, 11, 12, 13, 6, 14, 15, 16, 17, 18, 19, 20, 21, 22, 23, 24, 25, 26, 27, 28, 29, 30, 31, 32, 33, 34, 35, 36, 37, 38, 39, 40, 41, 42, 43, 44, 45, 46, 47, 48, 49, 50, 51, 52, 53, 54, 55, 56, 57, 58, 59, 60, 61, 62, 63, 64, 65, 66, 67, 68, 69, 70, 71, 72, 73, 74, 75, 76, 77, 78, 79, 80] (by decide +kernel) (by decide +kernel)) (goodIn_sub (fun _ h => List.mem_cons_of_mem _ (List.mem_append_left _ (List.mem_append_right _ h))) (by decide +kernel))) (goodIn_sub (fun _ h => List.mem_cons_of_mem _ (List.mem_append_right _ h)) (by decide +kernel))
set_option maxRecDepth 20000 in
theorem gL_momentsUntilToldApart_X1_momentsUntilToldApart : GoodIn wsL_momentsUntilToldApart (wsV RL 81 RX1 yX1_momentsUntilToldApart wsX1_momentsUntilToldApart) := goodIn_app (goodIn_of _ (by decide +kernel)) ggL_momentsUntilToldApart_X1_momentsUntilToldApart
theorem dL_momentsUntilToldApart_0 : decode cL_momentsUntilToldApart 0 = .ok (.aload_n 3, 1) := by decide +kernel
theorem dL_momentsUntilToldApart_1 : decode cL_momentsUntilToldApart 1 = .ok (.iconst 0, 1) := by decide +kernel
theorem dL_momentsUntilToldApart_2 : decode cL_momentsUntilToldApart 2 = .ok (.aload_n 0, 1) := by decide +kernel
theorem dL_momentsUntilToldApart_3 : decode cL_momentsUntilToldApart 3 = .ok (.iload_n 1, 1) := by decide +kernel
theorem dL_momentsUntilToldApart_4 : decode cL_momentsUntilToldApart 4 = .ok (.iload_n 2, 1) := by decide +kernel
theorem dL_momentsUntilToldApart_5 : decode cL_momentsUntilToldApart 5 = .ok (.invokevirtual 81, 3) := by decide +kernel
theorem dL_momentsUntilToldApart_8 : decode cL_momentsUntilToldApart 8 = .ok (.i2l, 1) := by decide +kernel
theorem dL_momentsUntilToldApart_9 : decode cL_momentsUntilToldApart 9 = .ok (.lastore, 1) := by decide +kernel
theorem dL_momentsUntilToldApart_10 : decode cL_momentsUntilToldApart 10 = .ok (.goto 11, 3) := by decide +kernel
theorem dL_momentsUntilToldApart_13 : decode cL_momentsUntilToldApart 13 = .ok (.astore 4, 2) := by decide +kernel
theorem dL_momentsUntilToldApart_15 : decode cL_momentsUntilToldApart 15 = .ok (.iconst 1, 1) := by decide +kernel
theorem dL_momentsUntilToldApart_16 : decode cL_momentsUntilToldApart 16 = .ok (.ireturn, 1) := by decide +kernel
theorem dL_momentsUntilToldApart_17 : decode cL_momentsUntilToldApart 17 = .ok (.astore 4, 2) := by decide +kernel
theorem dL_momentsUntilToldApart_19 : decode cL_momentsUntilToldApart 19 = .ok (.iconst 2, 1) := by decide +kernel
theorem dL_momentsUntilToldApart_20 : decode cL_momentsUntilToldApart 20 = .ok (.ireturn, 1) := by decide +kernel
theorem dL_momentsUntilToldApart_21 : decode cL_momentsUntilToldApart 21 = .ok (.iconst 0, 1) := by decide +kernel
theorem dL_momentsUntilToldApart_22 : decode cL_momentsUntilToldApart 22 = .ok (.ireturn, 1) := by decide +kernel
set_option maxRecDepth 20000 in
theorem ggL_darkWithin_X1_darkWithin : GoodIn wsL_darkWithin wsX1_darkWithin := goodIn_ca (goodIn_r _ [6, 7, 8, 5, 9, 10, 11, 12, 13, 14, 15, 16, 17, 18, 19, 20, 21, 22, 23, 24, 25, 26, 27, 28, 29, 30, 31, 32, 33, 34, 35, 36, 37, 38, 39, 40, 41, 42, 43, 44, 45, 46, 47, 48, 49, 50, 51, 52] (by decide +kernel) (by decide +kernel)) (goodIn_sub (fun _ h => List.mem_cons_of_mem _ (List.mem_append_right _ h)) (by decide +kernel))
set_option maxRecDepth 20000 in
theorem gL_darkWithin_X1_darkWithin : GoodIn wsL_darkWithin (wsV RL 84 RX1 yX1_darkWithin wsX1_darkWithin) := goodIn_app (goodIn_of _ (by decide +kernel)) ggL_darkWithin_X1_darkWithin
theorem dL_darkWithin_0 : decode cL_darkWithin 0 = .ok (.aload_n 2, 1) := by decide +kernel
theorem dL_darkWithin_1 : decode cL_darkWithin 1 = .ok (.iconst 0, 1) := by decide +kernel
theorem dL_darkWithin_2 : decode cL_darkWithin 2 = .ok (.aload_n 0, 1) := by decide +kernel
theorem dL_darkWithin_3 : decode cL_darkWithin 3 = .ok (.iload_n 1, 1) := by decide +kernel
theorem dL_darkWithin_4 : decode cL_darkWithin 4 = .ok (.invokevirtual 84, 3) := by decide +kernel
theorem dL_darkWithin_7 : decode cL_darkWithin 7 = .ok (.i2l, 1) := by decide +kernel
theorem dL_darkWithin_8 : decode cL_darkWithin 8 = .ok (.lastore, 1) := by decide +kernel
theorem dL_darkWithin_9 : decode cL_darkWithin 9 = .ok (.goto 6, 3) := by decide +kernel
theorem dL_darkWithin_12 : decode cL_darkWithin 12 = .ok (.astore_n 3, 1) := by decide +kernel
theorem dL_darkWithin_13 : decode cL_darkWithin 13 = .ok (.iconst 1, 1) := by decide +kernel
theorem dL_darkWithin_14 : decode cL_darkWithin 14 = .ok (.ireturn, 1) := by decide +kernel
theorem dL_darkWithin_15 : decode cL_darkWithin 15 = .ok (.iconst 0, 1) := by decide +kernel
theorem dL_darkWithin_16 : decode cL_darkWithin 16 = .ok (.ireturn, 1) := by decide +kernel
set_option maxRecDepth 20000 in
theorem ggL_brightestWithin_X1_brightestWithin : GoodIn wsL_brightestWithin wsX1_brightestWithin := goodIn_ca (goodIn_r _ [6, 7, 8, 9, 5, 10, 11, 12, 13, 14, 15, 16, 17, 18, 19, 20, 21, 22, 23, 24, 25, 26, 27, 28, 29, 30, 31, 32, 33, 34, 35, 36, 37, 38, 39, 40, 41, 42, 43, 44, 45, 46, 47, 48] (by decide +kernel) (by decide +kernel)) (goodIn_sub (fun _ h => List.mem_cons_of_mem _ (List.mem_append_right _ h)) (by decide +kernel))
set_option maxRecDepth 20000 in
theorem gL_brightestWithin_X1_brightestWithin : GoodIn wsL_brightestWithin (wsV RL 87 RX1 yX1_brightestWithin wsX1_brightestWithin) := goodIn_app (goodIn_of _ (by decide +kernel)) ggL_brightestWithin_X1_brightestWithin
theorem dL_brightestWithin_0 : decode cL_brightestWithin 0 = .ok (.aload_n 2, 1) := by decide +kernel
theorem dL_brightestWithin_1 : decode cL_brightestWithin 1 = .ok (.iconst 0, 1) := by decide +kernel
theorem dL_brightestWithin_2 : decode cL_brightestWithin 2 = .ok (.aload_n 0, 1) := by decide +kernel
theorem dL_brightestWithin_3 : decode cL_brightestWithin 3 = .ok (.iload_n 1, 1) := by decide +kernel
theorem dL_brightestWithin_4 : decode cL_brightestWithin 4 = .ok (.invokevirtual 87, 3) := by decide +kernel
theorem dL_brightestWithin_7 : decode cL_brightestWithin 7 = .ok (.i2l, 1) := by decide +kernel
theorem dL_brightestWithin_8 : decode cL_brightestWithin 8 = .ok (.lastore, 1) := by decide +kernel
theorem dL_brightestWithin_9 : decode cL_brightestWithin 9 = .ok (.goto 6, 3) := by decide +kernel
theorem dL_brightestWithin_12 : decode cL_brightestWithin 12 = .ok (.astore_n 3, 1) := by decide +kernel
theorem dL_brightestWithin_13 : decode cL_brightestWithin 13 = .ok (.iconst 1, 1) := by decide +kernel
theorem dL_brightestWithin_14 : decode cL_brightestWithin 14 = .ok (.ireturn, 1) := by decide +kernel
theorem dL_brightestWithin_15 : decode cL_brightestWithin 15 = .ok (.iconst 0, 1) := by decide +kernel
theorem dL_brightestWithin_16 : decode cL_brightestWithin 16 = .ok (.ireturn, 1) := by decide +kernel
set_option maxRecDepth 20000 in
theorem ggL_bestCover_X1_bestCover : GoodIn wsL_bestCover wsX1_bestCover := goodIn_ca (goodIn_r _ [6, 7, 8, 9, 10, 5, 11, 12, 13, 14, 15, 16, 17, 18, 19, 20, 21, 22, 23, 24, 25, 26, 27, 28, 29, 30, 31, 32, 33, 34, 35, 36, 37, 38, 39, 40, 41, 42, 43, 44, 45, 46, 47, 48, 49, 50, 51, 52] (by decide +kernel) (by decide +kernel)) (goodIn_sub (fun _ h => List.mem_cons_of_mem _ (List.mem_append_right _ h)) (by decide +kernel))
set_option maxRecDepth 20000 in
theorem gL_bestCover_X1_bestCover : GoodIn wsL_bestCover (wsV RL 90 RX1 yX1_bestCover wsX1_bestCover) := goodIn_app (goodIn_of _ (by decide +kernel)) ggL_bestCover_X1_bestCover
theorem dL_bestCover_0 : decode cL_bestCover 0 = .ok (.aload_n 2, 1) := by decide +kernel
theorem dL_bestCover_1 : decode cL_bestCover 1 = .ok (.iconst 0, 1) := by decide +kernel
theorem dL_bestCover_2 : decode cL_bestCover 2 = .ok (.aload_n 0, 1) := by decide +kernel
theorem dL_bestCover_3 : decode cL_bestCover 3 = .ok (.iload_n 1, 1) := by decide +kernel
theorem dL_bestCover_4 : decode cL_bestCover 4 = .ok (.invokevirtual 90, 3) := by decide +kernel
theorem dL_bestCover_7 : decode cL_bestCover 7 = .ok (.i2l, 1) := by decide +kernel
theorem dL_bestCover_8 : decode cL_bestCover 8 = .ok (.lastore, 1) := by decide +kernel
theorem dL_bestCover_9 : decode cL_bestCover 9 = .ok (.goto 6, 3) := by decide +kernel
theorem dL_bestCover_12 : decode cL_bestCover 12 = .ok (.astore_n 3, 1) := by decide +kernel
theorem dL_bestCover_13 : decode cL_bestCover 13 = .ok (.iconst 1, 1) := by decide +kernel
theorem dL_bestCover_14 : decode cL_bestCover 14 = .ok (.ireturn, 1) := by decide +kernel
theorem dL_bestCover_15 : decode cL_bestCover 15 = .ok (.iconst 0, 1) := by decide +kernel
theorem dL_bestCover_16 : decode cL_bestCover 16 = .ok (.ireturn, 1) := by decide +kernel
