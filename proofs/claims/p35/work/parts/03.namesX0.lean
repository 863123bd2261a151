theorem dX0_init_0 : decode cX0_init 0 = .ok (.aload_n 0, 1) := by decide +kernel
theorem dX0_init_1 : decode cX0_init 1 = .ok (.invokespecial 3, 3) := by decide +kernel
theorem dX0_init_4 : decode cX0_init 4 = .ok (.aload_n 0, 1) := by decide +kernel
theorem dX0_init_5 : decode cX0_init 5 = .ok (.bipush 8, 2) := by decide +kernel
theorem dX0_init_7 : decode cX0_init 7 = .ok (.newarray .int, 2) := by decide +kernel
theorem dX0_init_9 : decode cX0_init 9 = .ok (.putfield 9, 3) := by decide +kernel
theorem dX0_init_12 : decode cX0_init 12 = .ok (.aload_n 0, 1) := by decide +kernel
theorem dX0_init_13 : decode cX0_init 13 = .ok (.bipush 8, 2) := by decide +kernel
theorem dX0_init_15 : decode cX0_init 15 = .ok (.newarray .int, 2) := by decide +kernel
theorem dX0_init_17 : decode cX0_init 17 = .ok (.putfield 15, 3) := by decide +kernel
theorem dX0_init_20 : decode cX0_init 20 = .ok (.return_, 1) := by decide +kernel
theorem dX0_append_0 : decode cX0_append 0 = .ok (.aload_n 0, 1) := by decide +kernel
theorem dX0_append_1 : decode cX0_append 1 = .ok (.getfield 18, 3) := by decide +kernel
theorem dX0_append_4 : decode cX0_append 4 = .ok (.bipush 8, 2) := by decide +kernel
theorem dX0_append_6 : decode cX0_append 6 = .ok (.if_icmp .ge 33, 3) := by decide +kernel
theorem dX0_append_9 : decode cX0_append 9 = .ok (.aload_n 0, 1) := by decide +kernel
theorem dX0_append_10 : decode cX0_append 10 = .ok (.getfield 9, 3) := by decide +kernel
theorem dX0_append_13 : decode cX0_append 13 = .ok (.aload_n 0, 1) := by decide +kernel
theorem dX0_append_14 : decode cX0_append 14 = .ok (.getfield 18, 3) := by decide +kernel
theorem dX0_append_17 : decode cX0_append 17 = .ok (.iload_n 1, 1) := by decide +kernel
theorem dX0_append_18 : decode cX0_append 18 = .ok (.iastore, 1) := by decide +kernel
theorem dX0_append_19 : decode cX0_append 19 = .ok (.aload_n 0, 1) := by decide +kernel
theorem dX0_append_20 : decode cX0_append 20 = .ok (.getfield 15, 3) := by decide +kernel
theorem dX0_append_23 : decode cX0_append 23 = .ok (.aload_n 0, 1) := by decide +kernel
theorem dX0_append_24 : decode cX0_append 24 = .ok (.getfield 18, 3) := by decide +kernel
theorem dX0_append_27 : decode cX0_append 27 = .ok (.iload_n 2, 1) := by decide +kernel
theorem dX0_append_28 : decode cX0_append 28 = .ok (.iastore, 1) := by decide +kernel
theorem dX0_append_29 : decode cX0_append 29 = .ok (.aload_n 0, 1) := by decide +kernel
theorem dX0_append_30 : decode cX0_append 30 = .ok (.dup, 1) := by decide +kernel
theorem dX0_append_31 : decode cX0_append 31 = .ok (.getfield 18, 3) := by decide +kernel
theorem dX0_append_34 : decode cX0_append 34 = .ok (.iconst 1, 1) := by decide +kernel
theorem dX0_append_35 : decode cX0_append 35 = .ok (.iadd, 1) := by decide +kernel
theorem dX0_append_36 : decode cX0_append 36 = .ok (.putfield 18, 3) := by decide +kernel
theorem dX0_append_39 : decode cX0_append 39 = .ok (.return_, 1) := by decide +kernel
theorem dX0_remove_0 : decode cX0_remove 0 = .ok (.iload_n 1, 1) := by decide +kernel
theorem dX0_remove_1 : decode cX0_remove 1 = .ok (.iconst 1, 1) := by decide +kernel
theorem dX0_remove_2 : decode cX0_remove 2 = .ok (.iadd, 1) := by decide +kernel
theorem dX0_remove_3 : decode cX0_remove 3 = .ok (.istore_n 2, 1) := by decide +kernel
theorem dX0_remove_4 : decode cX0_remove 4 = .ok (.iload_n 2, 1) := by decide +kernel
theorem dX0_remove_5 : decode cX0_remove 5 = .ok (.aload_n 0, 1) := by decide +kernel
theorem dX0_remove_6 : decode cX0_remove 6 = .ok (.getfield 18, 3) := by decide +kernel
theorem dX0_remove_9 : decode cX0_remove 9 = .ok (.if_icmp .ge 37, 3) := by decide +kernel
theorem dX0_remove_12 : decode cX0_remove 12 = .ok (.aload_n 0, 1) := by decide +kernel
theorem dX0_remove_13 : decode cX0_remove 13 = .ok (.getfield 9, 3) := by decide +kernel
theorem dX0_remove_16 : decode cX0_remove 16 = .ok (.iload_n 2, 1) := by decide +kernel
theorem dX0_remove_17 : decode cX0_remove 17 = .ok (.iconst 1, 1) := by decide +kernel
theorem dX0_remove_18 : decode cX0_remove 18 = .ok (.isub, 1) := by decide +kernel
theorem dX0_remove_19 : decode cX0_remove 19 = .ok (.aload_n 0, 1) := by decide +kernel
theorem dX0_remove_20 : decode cX0_remove 20 = .ok (.getfield 9, 3) := by decide +kernel
theorem dX0_remove_23 : decode cX0_remove 23 = .ok (.iload_n 2, 1) := by decide +kernel
theorem dX0_remove_24 : decode cX0_remove 24 = .ok (.iaload, 1) := by decide +kernel
theorem dX0_remove_25 : decode cX0_remove 25 = .ok (.iastore, 1) := by decide +kernel
theorem dX0_remove_26 : decode cX0_remove 26 = .ok (.aload_n 0, 1) := by decide +kernel
theorem dX0_remove_27 : decode cX0_remove 27 = .ok (.getfield 15, 3) := by decide +kernel
theorem dX0_remove_30 : decode cX0_remove 30 = .ok (.iload_n 2, 1) := by decide +kernel
theorem dX0_remove_31 : decode cX0_remove 31 = .ok (.iconst 1, 1) := by decide +kernel
theorem dX0_remove_32 : decode cX0_remove 32 = .ok (.isub, 1) := by decide +kernel
theorem dX0_remove_33 : decode cX0_remove 33 = .ok (.aload_n 0, 1) := by decide +kernel
theorem dX0_remove_34 : decode cX0_remove 34 = .ok (.getfield 15, 3) := by decide +kernel
theorem dX0_remove_37 : decode cX0_remove 37 = .ok (.iload_n 2, 1) := by decide +kernel
theorem dX0_remove_38 : decode cX0_remove 38 = .ok (.iaload, 1) := by decide +kernel
theorem dX0_remove_39 : decode cX0_remove 39 = .ok (.iastore, 1) := by decide +kernel
theorem dX0_remove_40 : decode cX0_remove 40 = .ok (.iinc 2 1, 3) := by decide +kernel
theorem dX0_remove_43 : decode cX0_remove 43 = .ok (.goto (-39), 3) := by decide +kernel
theorem dX0_remove_46 : decode cX0_remove 46 = .ok (.aload_n 0, 1) := by decide +kernel
theorem dX0_remove_47 : decode cX0_remove 47 = .ok (.dup, 1) := by decide +kernel
theorem dX0_remove_48 : decode cX0_remove 48 = .ok (.getfield 18, 3) := by decide +kernel
theorem dX0_remove_51 : decode cX0_remove 51 = .ok (.iconst 1, 1) := by decide +kernel
theorem dX0_remove_52 : decode cX0_remove 52 = .ok (.isub, 1) := by decide +kernel
theorem dX0_remove_53 : decode cX0_remove 53 = .ok (.putfield 18, 3) := by decide +kernel
theorem dX0_remove_56 : decode cX0_remove 56 = .ok (.return_, 1) := by decide +kernel
set_option maxRecDepth 20000 in
theorem ggX0_becomeDifference_X0_appendBeatsOf : GoodIn wsX0_becomeDifference wsX0_appendBeatsOf := goodIn_r _ [7, 2, 8, 9, 10, 11, 12, 6, 13, 14, 15, 16, 17, 18] (by decide +kernel) (by decide +kernel)
set_option maxRecDepth 20000 in
theorem gX0_becomeDifference_X0_appendBeatsOf : GoodIn wsX0_becomeDifference (wsV RX0 26 RX0 yX0_appendBeatsOf wsX0_appendBeatsOf) := goodIn_app (goodIn_of _ (by decide +kernel)) ggX0_becomeDifference_X0_appendBeatsOf
theorem dX0_becomeDifference_0 : decode cX0_becomeDifference 0 = .ok (.aload_n 0, 1) := by decide +kernel
theorem dX0_becomeDifference_1 : decode cX0_becomeDifference 1 = .ok (.aload_n 1, 1) := by decide +kernel
theorem dX0_becomeDifference_2 : decode cX0_becomeDifference 2 = .ok (.getfield 22, 3) := by decide +kernel
theorem dX0_becomeDifference_5 : decode cX0_becomeDifference 5 = .ok (.aload_n 2, 1) := by decide +kernel
theorem dX0_becomeDifference_6 : decode cX0_becomeDifference 6 = .ok (.getfield 22, 3) := by decide +kernel
theorem dX0_becomeDifference_9 : decode cX0_becomeDifference 9 = .ok (.if_icmp .eq 7, 3) := by decide +kernel
theorem dX0_becomeDifference_12 : decode cX0_becomeDifference 12 = .ok (.iconst 1, 1) := by decide +kernel
theorem dX0_becomeDifference_13 : decode cX0_becomeDifference 13 = .ok (.goto 4, 3) := by decide +kernel
theorem dX0_becomeDifference_16 : decode cX0_becomeDifference 16 = .ok (.iconst 0, 1) := by decide +kernel
theorem dX0_becomeDifference_17 : decode cX0_becomeDifference 17 = .ok (.putfield 22, 3) := by decide +kernel
theorem dX0_becomeDifference_20 : decode cX0_becomeDifference 20 = .ok (.aload_n 0, 1) := by decide +kernel
theorem dX0_becomeDifference_21 : decode cX0_becomeDifference 21 = .ok (.iconst 0, 1) := by decide +kernel
theorem dX0_becomeDifference_22 : decode cX0_becomeDifference 22 = .ok (.putfield 18, 3) := by decide +kernel
theorem dX0_becomeDifference_25 : decode cX0_becomeDifference 25 = .ok (.aload_n 0, 1) := by decide +kernel
theorem dX0_becomeDifference_26 : decode cX0_becomeDifference 26 = .ok (.aload_n 1, 1) := by decide +kernel
theorem dX0_becomeDifference_27 : decode cX0_becomeDifference 27 = .ok (.invokevirtual 26, 3) := by decide +kernel
theorem dX0_becomeDifference_30 : decode cX0_becomeDifference 30 = .ok (.aload_n 0, 1) := by decide +kernel
theorem dX0_becomeDifference_31 : decode cX0_becomeDifference 31 = .ok (.aload_n 2, 1) := by decide +kernel
theorem dX0_becomeDifference_32 : decode cX0_becomeDifference 32 = .ok (.invokevirtual 26, 3) := by decide +kernel
theorem dX0_becomeDifference_35 : decode cX0_becomeDifference 35 = .ok (.return_, 1) := by decide +kernel
set_option maxRecDepth 20000 in
theorem ggX0_appendBeatsOf_X0_append : GoodIn wsX0_appendBeatsOf wsX0_append := goodIn_r _ [8, 1, 2, 3, 9, 10, 11, 12, 13] (by decide +kernel) (by decide +kernel)
set_option maxRecDepth 20000 in
theorem gX0_appendBeatsOf_X0_append : GoodIn wsX0_appendBeatsOf (wsV RX0 30 RX0 yX0_append wsX0_append) := goodIn_app (goodIn_of _ (by decide +kernel)) ggX0_appendBeatsOf_X0_append
theorem dX0_appendBeatsOf_0 : decode cX0_appendBeatsOf 0 = .ok (.iconst 0, 1) := by decide +kernel
theorem dX0_appendBeatsOf_1 : decode cX0_appendBeatsOf 1 = .ok (.istore_n 2, 1) := by decide +kernel
theorem dX0_appendBeatsOf_2 : decode cX0_appendBeatsOf 2 = .ok (.iload_n 2, 1) := by decide +kernel
theorem dX0_appendBeatsOf_3 : decode cX0_appendBeatsOf 3 = .ok (.aload_n 1, 1) := by decide +kernel
theorem dX0_appendBeatsOf_4 : decode cX0_appendBeatsOf 4 = .ok (.getfield 18, 3) := by decide +kernel
theorem dX0_appendBeatsOf_7 : decode cX0_appendBeatsOf 7 = .ok (.if_icmp .ge 25, 3) := by decide +kernel
theorem dX0_appendBeatsOf_10 : decode cX0_appendBeatsOf 10 = .ok (.aload_n 0, 1) := by decide +kernel
theorem dX0_appendBeatsOf_11 : decode cX0_appendBeatsOf 11 = .ok (.aload_n 1, 1) := by decide +kernel
theorem dX0_appendBeatsOf_12 : decode cX0_appendBeatsOf 12 = .ok (.getfield 9, 3) := by decide +kernel
theorem dX0_appendBeatsOf_15 : decode cX0_appendBeatsOf 15 = .ok (.iload_n 2, 1) := by decide +kernel
theorem dX0_appendBeatsOf_16 : decode cX0_appendBeatsOf 16 = .ok (.iaload, 1) := by decide +kernel
theorem dX0_appendBeatsOf_17 : decode cX0_appendBeatsOf 17 = .ok (.aload_n 1, 1) := by decide +kernel
theorem dX0_appendBeatsOf_18 : decode cX0_appendBeatsOf 18 = .ok (.getfield 15, 3) := by decide +kernel
theorem dX0_appendBeatsOf_21 : decode cX0_appendBeatsOf 21 = .ok (.iload_n 2, 1) := by decide +kernel
theorem dX0_appendBeatsOf_22 : decode cX0_appendBeatsOf 22 = .ok (.iaload, 1) := by decide +kernel
theorem dX0_appendBeatsOf_23 : decode cX0_appendBeatsOf 23 = .ok (.invokevirtual 30, 3) := by decide +kernel
theorem dX0_appendBeatsOf_26 : decode cX0_appendBeatsOf 26 = .ok (.iinc 2 1, 3) := by decide +kernel
theorem dX0_appendBeatsOf_29 : decode cX0_appendBeatsOf 29 = .ok (.goto (-27), 3) := by decide +kernel
theorem dX0_appendBeatsOf_32 : decode cX0_appendBeatsOf 32 = .ok (.return_, 1) := by decide +kernel
theorem dX0_strikes_0 : decode cX0_strikes 0 = .ok (.iconst 0, 1) := by decide +kernel
theorem dX0_strikes_1 : decode cX0_strikes 1 = .ok (.istore_n 2, 1) := by decide +kernel
theorem dX0_strikes_2 : decode cX0_strikes 2 = .ok (.iconst 0, 1) := by decide +kernel
theorem dX0_strikes_3 : decode cX0_strikes 3 = .ok (.istore_n 3, 1) := by decide +kernel
theorem dX0_strikes_4 : decode cX0_strikes 4 = .ok (.iload_n 3, 1) := by decide +kernel
theorem dX0_strikes_5 : decode cX0_strikes 5 = .ok (.aload_n 0, 1) := by decide +kernel
theorem dX0_strikes_6 : decode cX0_strikes 6 = .ok (.getfield 18, 3) := by decide +kernel
theorem dX0_strikes_9 : decode cX0_strikes 9 = .ok (.if_icmp .ge 38, 3) := by decide +kernel
theorem dX0_strikes_12 : decode cX0_strikes 12 = .ok (.aload_n 0, 1) := by decide +kernel
theorem dX0_strikes_13 : decode cX0_strikes 13 = .ok (.getfield 9, 3) := by decide +kernel
theorem dX0_strikes_16 : decode cX0_strikes 16 = .ok (.iload_n 3, 1) := by decide +kernel
theorem dX0_strikes_17 : decode cX0_strikes 17 = .ok (.iaload, 1) := by decide +kernel
theorem dX0_strikes_18 : decode cX0_strikes 18 = .ok (.ifCond .le 23, 3) := by decide +kernel
theorem dX0_strikes_21 : decode cX0_strikes 21 = .ok (.iload_n 1, 1) := by decide +kernel
theorem dX0_strikes_22 : decode cX0_strikes 22 = .ok (.aload_n 0, 1) := by decide +kernel
theorem dX0_strikes_23 : decode cX0_strikes 23 = .ok (.getfield 9, 3) := by decide +kernel
theorem dX0_strikes_26 : decode cX0_strikes 26 = .ok (.iload_n 3, 1) := by decide +kernel
theorem dX0_strikes_27 : decode cX0_strikes 27 = .ok (.iaload, 1) := by decide +kernel
theorem dX0_strikes_28 : decode cX0_strikes 28 = .ok (.irem, 1) := by decide +kernel
theorem dX0_strikes_29 : decode cX0_strikes 29 = .ok (.aload_n 0, 1) := by decide +kernel
theorem dX0_strikes_30 : decode cX0_strikes 30 = .ok (.getfield 15, 3) := by decide +kernel
theorem dX0_strikes_33 : decode cX0_strikes 33 = .ok (.iload_n 3, 1) := by decide +kernel
theorem dX0_strikes_34 : decode cX0_strikes 34 = .ok (.iaload, 1) := by decide +kernel
theorem dX0_strikes_35 : decode cX0_strikes 35 = .ok (.if_icmp .ne 6, 3) := by decide +kernel
theorem dX0_strikes_38 : decode cX0_strikes 38 = .ok (.iinc 2 1, 3) := by decide +kernel
theorem dX0_strikes_41 : decode cX0_strikes 41 = .ok (.iinc 3 1, 3) := by decide +kernel
theorem dX0_strikes_44 : decode cX0_strikes 44 = .ok (.goto (-40), 3) := by decide +kernel
theorem dX0_strikes_47 : decode cX0_strikes 47 = .ok (.iload_n 2, 1) := by decide +kernel
theorem dX0_strikes_48 : decode cX0_strikes 48 = .ok (.ireturn, 1) := by decide +kernel
set_option maxRecDepth 20000 in
theorem ggX0_changesAt_X0_strikes : GoodIn wsX0_changesAt wsX0_strikes := goodIn_r _ [5, 6, 7, 8, 12, 13, 14, 15, 16] (by decide +kernel) (by decide +kernel)
set_option maxRecDepth 20000 in
theorem gX0_changesAt_X0_strikes : GoodIn wsX0_changesAt (wsV RX0 34 RX0 yX0_strikes wsX0_strikes) := goodIn_app (goodIn_of _ (by decide +kernel)) ggX0_changesAt_X0_strikes
set_option maxRecDepth 20000 in
theorem ggX0_changesAt_X0_isOdd : GoodIn wsX0_changesAt wsX0_isOdd := goodIn_r _ [11] (by decide +kernel) (by decide +kernel)
set_option maxRecDepth 20000 in
theorem gX0_changesAt_X0_isOdd : GoodIn wsX0_changesAt (va_wsS RX0 38 yX0_isOdd wsX0_isOdd) := goodIn_app (goodIn_of _ (by decide +kernel)) ggX0_changesAt_X0_isOdd
theorem dX0_changesAt_0 : decode cX0_changesAt 0 = .ok (.aload_n 0, 1) := by decide +kernel
theorem dX0_changesAt_1 : decode cX0_changesAt 1 = .ok (.iload_n 1, 1) := by decide +kernel
theorem dX0_changesAt_2 : decode cX0_changesAt 2 = .ok (.invokevirtual 34, 3) := by decide +kernel
theorem dX0_changesAt_5 : decode cX0_changesAt 5 = .ok (.invokestatic 38, 3) := by decide +kernel
theorem dX0_changesAt_8 : decode cX0_changesAt 8 = .ok (.ireturn, 1) := by decide +kernel
set_option maxRecDepth 20000 in
theorem ggX0_litAt_X0_onAt : GoodIn wsX0_litAt wsX0_onAt := goodIn_r _ [6, 7, 8, 9, 10, 11, 12, 5, 13, 14, 15, 16, 17, 18, 19, 20, 21] (by decide +kernel) (by decide +kernel)
set_option maxRecDepth 20000 in
theorem gX0_litAt_X0_onAt : GoodIn wsX0_litAt (wsV RX0 45 RX0 yX0_onAt wsX0_onAt) := goodIn_app (goodIn_of _ (by decide +kernel)) ggX0_litAt_X0_onAt
theorem dX0_litAt_0 : decode cX0_litAt 0 = .ok (.aload_n 0, 1) := by decide +kernel
theorem dX0_litAt_1 : decode cX0_litAt 1 = .ok (.getfield 42, 3) := by decide +kernel
theorem dX0_litAt_4 : decode cX0_litAt 4 = .ok (.ifCond .ne 15, 3) := by decide +kernel
theorem dX0_litAt_7 : decode cX0_litAt 7 = .ok (.aload_n 0, 1) := by decide +kernel
theorem dX0_litAt_8 : decode cX0_litAt 8 = .ok (.iload_n 1, 1) := by decide +kernel
theorem dX0_litAt_9 : decode cX0_litAt 9 = .ok (.invokevirtual 45, 3) := by decide +kernel
theorem dX0_litAt_12 : decode cX0_litAt 12 = .ok (.ifCond .eq 7, 3) := by decide +kernel
theorem dX0_litAt_15 : decode cX0_litAt 15 = .ok (.iconst 1, 1) := by decide +kernel
theorem dX0_litAt_16 : decode cX0_litAt 16 = .ok (.goto 4, 3) := by decide +kernel
theorem dX0_litAt_19 : decode cX0_litAt 19 = .ok (.iconst 0, 1) := by decide +kernel
theorem dX0_litAt_20 : decode cX0_litAt 20 = .ok (.ireturn, 1) := by decide +kernel
set_option maxRecDepth 20000 in
theorem ggX0_onAt_X0_strikesUpTo : GoodIn wsX0_onAt wsX0_strikesUpTo := goodIn_r _ [8] (by decide +kernel) (by decide +kernel)
set_option maxRecDepth 20000 in
theorem gX0_onAt_X0_strikesUpTo : GoodIn wsX0_onAt (va_wsS RX0 48 yX0_strikesUpTo wsX0_strikesUpTo) := goodIn_app (goodIn_of _ (by decide +kernel)) ggX0_onAt_X0_strikesUpTo
set_option maxRecDepth 20000 in
theorem ggX0_onAt_X0_isOdd : GoodIn wsX0_onAt wsX0_isOdd := goodIn_r _ [11] (by decide +kernel) (by decide +kernel)
set_option maxRecDepth 20000 in
theorem gX0_onAt_X0_isOdd : GoodIn wsX0_onAt (va_wsS RX0 38 yX0_isOdd wsX0_isOdd) := goodIn_app (goodIn_of _ (by decide +kernel)) ggX0_onAt_X0_isOdd
theorem dX0_onAt_0 : decode cX0_onAt 0 = .ok (.iconst 0, 1) := by decide +kernel
theorem dX0_onAt_1 : decode cX0_onAt 1 = .ok (.istore_n 2, 1) := by decide +kernel
theorem dX0_onAt_2 : decode cX0_onAt 2 = .ok (.iconst 0, 1) := by decide +kernel
theorem dX0_onAt_3 : decode cX0_onAt 3 = .ok (.istore_n 3, 1) := by decide +kernel
theorem dX0_onAt_4 : decode cX0_onAt 4 = .ok (.iload_n 3, 1) := by decide +kernel
theorem dX0_onAt_5 : decode cX0_onAt 5 = .ok (.aload_n 0, 1) := by decide +kernel
theorem dX0_onAt_6 : decode cX0_onAt 6 = .ok (.getfield 18, 3) := by decide +kernel
theorem dX0_onAt_9 : decode cX0_onAt 9 = .ok (.if_icmp .ge 28, 3) := by decide +kernel
theorem dX0_onAt_12 : decode cX0_onAt 12 = .ok (.iload_n 2, 1) := by decide +kernel
theorem dX0_onAt_13 : decode cX0_onAt 13 = .ok (.iload_n 1, 1) := by decide +kernel
theorem dX0_onAt_14 : decode cX0_onAt 14 = .ok (.aload_n 0, 1) := by decide +kernel
theorem dX0_onAt_15 : decode cX0_onAt 15 = .ok (.getfield 9, 3) := by decide +kernel
theorem dX0_onAt_18 : decode cX0_onAt 18 = .ok (.iload_n 3, 1) := by decide +kernel
theorem dX0_onAt_19 : decode cX0_onAt 19 = .ok (.iaload, 1) := by decide +kernel
theorem dX0_onAt_20 : decode cX0_onAt 20 = .ok (.aload_n 0, 1) := by decide +kernel
theorem dX0_onAt_21 : decode cX0_onAt 21 = .ok (.getfield 15, 3) := by decide +kernel
theorem dX0_onAt_24 : decode cX0_onAt 24 = .ok (.iload_n 3, 1) := by decide +kernel
theorem dX0_onAt_25 : decode cX0_onAt 25 = .ok (.iaload, 1) := by decide +kernel
theorem dX0_onAt_26 : decode cX0_onAt 26 = .ok (.invokestatic 48, 3) := by decide +kernel
theorem dX0_onAt_29 : decode cX0_onAt 29 = .ok (.iadd, 1) := by decide +kernel
theorem dX0_onAt_30 : decode cX0_onAt 30 = .ok (.istore_n 2, 1) := by decide +kernel
theorem dX0_onAt_31 : decode cX0_onAt 31 = .ok (.iinc 3 1, 3) := by decide +kernel
theorem dX0_onAt_34 : decode cX0_onAt 34 = .ok (.goto (-30), 3) := by decide +kernel
theorem dX0_onAt_37 : decode cX0_onAt 37 = .ok (.aload_n 0, 1) := by decide +kernel
theorem dX0_onAt_38 : decode cX0_onAt 38 = .ok (.getfield 22, 3) := by decide +kernel
theorem dX0_onAt_41 : decode cX0_onAt 41 = .ok (.iload_n 2, 1) := by decide +kernel
theorem dX0_onAt_42 : decode cX0_onAt 42 = .ok (.invokestatic 38, 3) := by decide +kernel
theorem dX0_onAt_45 : decode cX0_onAt 45 = .ok (.if_icmp .eq 7, 3) := by decide +kernel
theorem dX0_onAt_48 : decode cX0_onAt 48 = .ok (.iconst 1, 1) := by decide +kernel
theorem dX0_onAt_49 : decode cX0_onAt 49 = .ok (.goto 4, 3) := by decide +kernel
theorem dX0_onAt_52 : decode cX0_onAt 52 = .ok (.iconst 0, 1) := by decide +kernel
theorem dX0_onAt_53 : decode cX0_onAt 53 = .ok (.ireturn, 1) := by decide +kernel
theorem dX0_strikesUpTo_0 : decode cX0_strikesUpTo 0 = .ok (.iload_n 1, 1) := by decide +kernel
theorem dX0_strikesUpTo_1 : decode cX0_strikesUpTo 1 = .ok (.iconst 1, 1) := by decide +kernel
theorem dX0_strikesUpTo_2 : decode cX0_strikesUpTo 2 = .ok (.if_icmp .lt 8, 3) := by decide +kernel
theorem dX0_strikesUpTo_5 : decode cX0_strikesUpTo 5 = .ok (.iload_n 0, 1) := by decide +kernel
theorem dX0_strikesUpTo_6 : decode cX0_strikesUpTo 6 = .ok (.iload_n 2, 1) := by decide +kernel
theorem dX0_strikesUpTo_7 : decode cX0_strikesUpTo 7 = .ok (.if_icmp .ge 5, 3) := by decide +kernel
theorem dX0_strikesUpTo_10 : decode cX0_strikesUpTo 10 = .ok (.iconst 0, 1) := by decide +kernel
theorem dX0_strikesUpTo_11 : decode cX0_strikesUpTo 11 = .ok (.ireturn, 1) := by decide +kernel
theorem dX0_strikesUpTo_12 : decode cX0_strikesUpTo 12 = .ok (.iload_n 0, 1) := by decide +kernel
theorem dX0_strikesUpTo_13 : decode cX0_strikesUpTo 13 = .ok (.iload_n 2, 1) := by decide +kernel
theorem dX0_strikesUpTo_14 : decode cX0_strikesUpTo 14 = .ok (.isub, 1) := by decide +kernel
theorem dX0_strikesUpTo_15 : decode cX0_strikesUpTo 15 = .ok (.iload_n 1, 1) := by decide +kernel
theorem dX0_strikesUpTo_16 : decode cX0_strikesUpTo 16 = .ok (.idiv, 1) := by decide +kernel
theorem dX0_strikesUpTo_17 : decode cX0_strikesUpTo 17 = .ok (.iconst 1, 1) := by decide +kernel
theorem dX0_strikesUpTo_18 : decode cX0_strikesUpTo 18 = .ok (.iadd, 1) := by decide +kernel
theorem dX0_strikesUpTo_19 : decode cX0_strikesUpTo 19 = .ok (.ireturn, 1) := by decide +kernel
set_option maxRecDepth 20000 in
theorem ggX0_neverChanges_X0_cycle : GoodIn wsX0_neverChanges wsX0_cycle := goodIn_r _ [5, 6, 7, 8, 9, 4, 10, 11, 12, 13, 14, 15, 16, 17, 18, 19, 20, 21, 22, 23, 24, 25, 26, 27, 28, 29, 30, 31, 32] (by decide +kernel) (by decide +kernel)
set_option maxRecDepth 20000 in
theorem gX0_neverChanges_X0_cycle : GoodIn wsX0_neverChanges (wsV RX0 52 RX0 yX0_cycle wsX0_cycle) := goodIn_app (goodIn_of _ (by decide +kernel)) ggX0_neverChanges_X0_cycle
theorem dX0_neverChanges_0 : decode cX0_neverChanges 0 = .ok (.aload_n 0, 1) := by decide +kernel
theorem dX0_neverChanges_1 : decode cX0_neverChanges 1 = .ok (.invokevirtual 52, 3) := by decide +kernel
theorem dX0_neverChanges_4 : decode cX0_neverChanges 4 = .ok (.iconst 1, 1) := by decide +kernel
theorem dX0_neverChanges_5 : decode cX0_neverChanges 5 = .ok (.if_icmp .ne 7, 3) := by decide +kernel
theorem dX0_neverChanges_8 : decode cX0_neverChanges 8 = .ok (.iconst 1, 1) := by decide +kernel
theorem dX0_neverChanges_9 : decode cX0_neverChanges 9 = .ok (.goto 4, 3) := by decide +kernel
theorem dX0_neverChanges_12 : decode cX0_neverChanges 12 = .ok (.iconst 0, 1) := by decide +kernel
theorem dX0_neverChanges_13 : decode cX0_neverChanges 13 = .ok (.ireturn, 1) := by decide +kernel
set_option maxRecDepth 20000 in
theorem ggX0_cycle_X0_changeCycle : GoodIn wsX0_cycle wsX0_changeCycle := goodIn_r _ [6, 7, 8, 9, 5, 10, 11, 12, 13, 24, 25, 26, 27, 28] (by decide +kernel) (by decide +kernel)
set_option maxRecDepth 20000 in
theorem gX0_cycle_X0_changeCycle : GoodIn wsX0_cycle (wsV RX0 56 RX0 yX0_changeCycle wsX0_changeCycle) := goodIn_app (goodIn_of _ (by decide +kernel)) ggX0_cycle_X0_changeCycle
set_option maxRecDepth 20000 in
theorem ggX0_cycle_X0_onAt : GoodIn wsX0_cycle wsX0_onAt := goodIn_r _ [17, 11, 12, 13, 1, 18, 19, 5, 20, 21, 22, 23, 24, 25, 26, 27, 28] (by decide +kernel) (by decide +kernel)
set_option maxRecDepth 20000 in
theorem gX0_cycle_X0_onAt : GoodIn wsX0_cycle (wsV RX0 45 RX0 yX0_onAt wsX0_onAt) := goodIn_app (goodIn_of _ (by decide +kernel)) ggX0_cycle_X0_onAt
theorem dX0_cycle_0 : decode cX0_cycle 0 = .ok (.aload_n 0, 1) := by decide +kernel
theorem dX0_cycle_1 : decode cX0_cycle 1 = .ok (.invokevirtual 56, 3) := by decide +kernel
theorem dX0_cycle_4 : decode cX0_cycle 4 = .ok (.istore_n 1, 1) := by decide +kernel
theorem dX0_cycle_5 : decode cX0_cycle 5 = .ok (.aload_n 0, 1) := by decide +kernel
theorem dX0_cycle_6 : decode cX0_cycle 6 = .ok (.iload_n 1, 1) := by decide +kernel
theorem dX0_cycle_7 : decode cX0_cycle 7 = .ok (.iconst 1, 1) := by decide +kernel
theorem dX0_cycle_8 : decode cX0_cycle 8 = .ok (.isub, 1) := by decide +kernel
theorem dX0_cycle_9 : decode cX0_cycle 9 = .ok (.invokevirtual 45, 3) := by decide +kernel
theorem dX0_cycle_12 : decode cX0_cycle 12 = .ok (.aload_n 0, 1) := by decide +kernel
theorem dX0_cycle_13 : decode cX0_cycle 13 = .ok (.getfield 22, 3) := by decide +kernel
theorem dX0_cycle_16 : decode cX0_cycle 16 = .ok (.if_icmp .ne 7, 3) := by decide +kernel
theorem dX0_cycle_19 : decode cX0_cycle 19 = .ok (.iconst 1, 1) := by decide +kernel
theorem dX0_cycle_20 : decode cX0_cycle 20 = .ok (.goto 4, 3) := by decide +kernel
theorem dX0_cycle_23 : decode cX0_cycle 23 = .ok (.iconst 0, 1) := by decide +kernel
theorem dX0_cycle_24 : decode cX0_cycle 24 = .ok (.istore_n 2, 1) := by decide +kernel
theorem dX0_cycle_25 : decode cX0_cycle 25 = .ok (.iload_n 2, 1) := by decide +kernel
theorem dX0_cycle_26 : decode cX0_cycle 26 = .ok (.ifCond .eq 7, 3) := by decide +kernel
theorem dX0_cycle_29 : decode cX0_cycle 29 = .ok (.iload_n 1, 1) := by decide +kernel
theorem dX0_cycle_30 : decode cX0_cycle 30 = .ok (.goto 6, 3) := by decide +kernel
theorem dX0_cycle_33 : decode cX0_cycle 33 = .ok (.iconst 2, 1) := by decide +kernel
theorem dX0_cycle_34 : decode cX0_cycle 34 = .ok (.iload_n 1, 1) := by decide +kernel
theorem dX0_cycle_35 : decode cX0_cycle 35 = .ok (.imul, 1) := by decide +kernel
theorem dX0_cycle_36 : decode cX0_cycle 36 = .ok (.ireturn, 1) := by decide +kernel
set_option maxRecDepth 20000 in
theorem ggX0_changeCycle_X0_turningRemainders : GoodIn wsX0_changeCycle wsX0_turningRemainders := goodIn_r _ [5, 6, 7, 8, 9, 10, 11, 12, 13] (by decide +kernel) (by decide +kernel)
set_option maxRecDepth 20000 in
theorem gX0_changeCycle_X0_turningRemainders : GoodIn wsX0_changeCycle (wsV RX0 62 RX0 yX0_turningRemainders wsX0_turningRemainders) := goodIn_app (goodIn_of _ (by decide +kernel)) ggX0_changeCycle_X0_turningRemainders
theorem dX0_changeCycle_0 : decode cX0_changeCycle 0 = .ok (.iconst 1, 1) := by decide +kernel
theorem dX0_changeCycle_1 : decode cX0_changeCycle 1 = .ok (.istore_n 1, 1) := by decide +kernel
theorem dX0_changeCycle_2 : decode cX0_changeCycle 2 = .ok (.getstatic 59, 3) := by decide +kernel
theorem dX0_changeCycle_5 : decode cX0_changeCycle 5 = .ok (.astore_n 2, 1) := by decide +kernel
theorem dX0_changeCycle_6 : decode cX0_changeCycle 6 = .ok (.aload_n 2, 1) := by decide +kernel
theorem dX0_changeCycle_7 : decode cX0_changeCycle 7 = .ok (.arraylength, 1) := by decide +kernel
theorem dX0_changeCycle_8 : decode cX0_changeCycle 8 = .ok (.istore_n 3, 1) := by decide +kernel
theorem dX0_changeCycle_9 : decode cX0_changeCycle 9 = .ok (.iconst 0, 1) := by decide +kernel
theorem dX0_changeCycle_10 : decode cX0_changeCycle 10 = .ok (.istore 4, 2) := by decide +kernel
theorem dX0_changeCycle_12 : decode cX0_changeCycle 12 = .ok (.iload 4, 2) := by decide +kernel
theorem dX0_changeCycle_14 : decode cX0_changeCycle 14 = .ok (.iload_n 3, 1) := by decide +kernel
theorem dX0_changeCycle_15 : decode cX0_changeCycle 15 = .ok (.if_icmp .ge 56, 3) := by decide +kernel
theorem dX0_changeCycle_18 : decode cX0_changeCycle 18 = .ok (.aload_n 2, 1) := by decide +kernel
theorem dX0_changeCycle_19 : decode cX0_changeCycle 19 = .ok (.iload 4, 2) := by decide +kernel
theorem dX0_changeCycle_21 : decode cX0_changeCycle 21 = .ok (.iaload, 1) := by decide +kernel
theorem dX0_changeCycle_22 : decode cX0_changeCycle 22 = .ok (.istore 5, 2) := by decide +kernel
theorem dX0_changeCycle_24 : decode cX0_changeCycle 24 = .ok (.aload_n 0, 1) := by decide +kernel
theorem dX0_changeCycle_25 : decode cX0_changeCycle 25 = .ok (.iload 5, 2) := by decide +kernel
theorem dX0_changeCycle_27 : decode cX0_changeCycle 27 = .ok (.invokevirtual 62, 3) := by decide +kernel
theorem dX0_changeCycle_30 : decode cX0_changeCycle 30 = .ok (.istore 6, 2) := by decide +kernel
theorem dX0_changeCycle_32 : decode cX0_changeCycle 32 = .ok (.iload 6, 2) := by decide +kernel
theorem dX0_changeCycle_34 : decode cX0_changeCycle 34 = .ok (.ifCond .eq 14, 3) := by decide +kernel
theorem dX0_changeCycle_37 : decode cX0_changeCycle 37 = .ok (.iload 6, 2) := by decide +kernel
theorem dX0_changeCycle_39 : decode cX0_changeCycle 39 = .ok (.iconst 1, 1) := by decide +kernel
theorem dX0_changeCycle_40 : decode cX0_changeCycle 40 = .ok (.iload 5, 2) := by decide +kernel
theorem dX0_changeCycle_42 : decode cX0_changeCycle 42 = .ok (.ishl, 1) := by decide +kernel
theorem dX0_changeCycle_43 : decode cX0_changeCycle 43 = .ok (.iconst 1, 1) := by decide +kernel
theorem dX0_changeCycle_44 : decode cX0_changeCycle 44 = .ok (.isub, 1) := by decide +kernel
theorem dX0_changeCycle_45 : decode cX0_changeCycle 45 = .ok (.if_icmp .ne 7, 3) := by decide +kernel
theorem dX0_changeCycle_48 : decode cX0_changeCycle 48 = .ok (.iconst 1, 1) := by decide +kernel
theorem dX0_changeCycle_49 : decode cX0_changeCycle 49 = .ok (.goto 4, 3) := by decide +kernel
theorem dX0_changeCycle_52 : decode cX0_changeCycle 52 = .ok (.iconst 0, 1) := by decide +kernel
theorem dX0_changeCycle_53 : decode cX0_changeCycle 53 = .ok (.istore 7, 2) := by decide +kernel
theorem dX0_changeCycle_55 : decode cX0_changeCycle 55 = .ok (.iload 7, 2) := by decide +kernel
theorem dX0_changeCycle_57 : decode cX0_changeCycle 57 = .ok (.ifCond .ne 8, 3) := by decide +kernel
theorem dX0_changeCycle_60 : decode cX0_changeCycle 60 = .ok (.iload_n 1, 1) := by decide +kernel
theorem dX0_changeCycle_61 : decode cX0_changeCycle 61 = .ok (.iload 5, 2) := by decide +kernel
theorem dX0_changeCycle_63 : decode cX0_changeCycle 63 = .ok (.imul, 1) := by decide +kernel
theorem dX0_changeCycle_64 : decode cX0_changeCycle 64 = .ok (.istore_n 1, 1) := by decide +kernel
theorem dX0_changeCycle_65 : decode cX0_changeCycle 65 = .ok (.iinc 4 1, 3) := by decide +kernel
theorem dX0_changeCycle_68 : decode cX0_changeCycle 68 = .ok (.goto (-56), 3) := by decide +kernel
theorem dX0_changeCycle_71 : decode cX0_changeCycle 71 = .ok (.iload_n 1, 1) := by decide +kernel
theorem dX0_changeCycle_72 : decode cX0_changeCycle 72 = .ok (.ireturn, 1) := by decide +kernel
theorem dX0_turningRemainders_0 : decode cX0_turningRemainders 0 = .ok (.iconst 0, 1) := by decide +kernel
theorem dX0_turningRemainders_1 : decode cX0_turningRemainders 1 = .ok (.istore_n 2, 1) := by decide +kernel
theorem dX0_turningRemainders_2 : decode cX0_turningRemainders 2 = .ok (.iconst 0, 1) := by decide +kernel
theorem dX0_turningRemainders_3 : decode cX0_turningRemainders 3 = .ok (.istore_n 3, 1) := by decide +kernel
theorem dX0_turningRemainders_4 : decode cX0_turningRemainders 4 = .ok (.iload_n 3, 1) := by decide +kernel
theorem dX0_turningRemainders_5 : decode cX0_turningRemainders 5 = .ok (.aload_n 0, 1) := by decide +kernel
theorem dX0_turningRemainders_6 : decode cX0_turningRemainders 6 = .ok (.getfield 18, 3) := by decide +kernel
theorem dX0_turningRemainders_9 : decode cX0_turningRemainders 9 = .ok (.if_icmp .ge 30, 3) := by decide +kernel
theorem dX0_turningRemainders_12 : decode cX0_turningRemainders 12 = .ok (.aload_n 0, 1) := by decide +kernel
theorem dX0_turningRemainders_13 : decode cX0_turningRemainders 13 = .ok (.getfield 9, 3) := by decide +kernel
theorem dX0_turningRemainders_16 : decode cX0_turningRemainders 16 = .ok (.iload_n 3, 1) := by decide +kernel
theorem dX0_turningRemainders_17 : decode cX0_turningRemainders 17 = .ok (.iaload, 1) := by decide +kernel
theorem dX0_turningRemainders_18 : decode cX0_turningRemainders 18 = .ok (.iload_n 1, 1) := by decide +kernel
theorem dX0_turningRemainders_19 : decode cX0_turningRemainders 19 = .ok (.if_icmp .ne 14, 3) := by decide +kernel
theorem dX0_turningRemainders_22 : decode cX0_turningRemainders 22 = .ok (.iload_n 2, 1) := by decide +kernel
theorem dX0_turningRemainders_23 : decode cX0_turningRemainders 23 = .ok (.iconst 1, 1) := by decide +kernel
theorem dX0_turningRemainders_24 : decode cX0_turningRemainders 24 = .ok (.aload_n 0, 1) := by decide +kernel
theorem dX0_turningRemainders_25 : decode cX0_turningRemainders 25 = .ok (.getfield 15, 3) := by decide +kernel
theorem dX0_turningRemainders_28 : decode cX0_turningRemainders 28 = .ok (.iload_n 3, 1) := by decide +kernel
theorem dX0_turningRemainders_29 : decode cX0_turningRemainders 29 = .ok (.iaload, 1) := by decide +kernel
theorem dX0_turningRemainders_30 : decode cX0_turningRemainders 30 = .ok (.ishl, 1) := by decide +kernel
theorem dX0_turningRemainders_31 : decode cX0_turningRemainders 31 = .ok (.ixor, 1) := by decide +kernel
theorem dX0_turningRemainders_32 : decode cX0_turningRemainders 32 = .ok (.istore_n 2, 1) := by decide +kernel
theorem dX0_turningRemainders_33 : decode cX0_turningRemainders 33 = .ok (.iinc 3 1, 3) := by decide +kernel
theorem dX0_turningRemainders_36 : decode cX0_turningRemainders 36 = .ok (.goto (-32), 3) := by decide +kernel
theorem dX0_turningRemainders_39 : decode cX0_turningRemainders 39 = .ok (.iload_n 2, 1) := by decide +kernel
theorem dX0_turningRemainders_40 : decode cX0_turningRemainders 40 = .ok (.ireturn, 1) := by decide +kernel
set_option maxRecDepth 20000 in
theorem ggX0_untilChange_X0_changeCycle : GoodIn wsX0_untilChange wsX0_changeCycle := goodIn_r _ [5, 6, 7, 8, 4, 9, 10, 11, 12, 24, 25, 26, 27, 28] (by decide +kernel) (by decide +kernel)
set_option maxRecDepth 20000 in
theorem gX0_untilChange_X0_changeCycle : GoodIn wsX0_untilChange (wsV RX0 56 RX0 yX0_changeCycle wsX0_changeCycle) := goodIn_app (goodIn_of _ (by decide +kernel)) ggX0_untilChange_X0_changeCycle
set_option maxRecDepth 20000 in
theorem ggX0_untilChange_X0_changesAt : GoodIn wsX0_untilChange wsX0_changesAt := goodIn_r _ [16, 17, 18, 19, 4, 20, 10, 11, 12, 21, 22, 23, 24, 25, 26, 27, 28] (by decide +kernel) (by decide +kernel)
set_option maxRecDepth 20000 in
theorem gX0_untilChange_X0_changesAt : GoodIn wsX0_untilChange (wsV RX0 65 RX0 yX0_changesAt wsX0_changesAt) := goodIn_app (goodIn_of _ (by decide +kernel)) ggX0_untilChange_X0_changesAt
theorem dX0_untilChange_0 : decode cX0_untilChange 0 = .ok (.aload_n 0, 1) := by decide +kernel
theorem dX0_untilChange_1 : decode cX0_untilChange 1 = .ok (.invokevirtual 56, 3) := by decide +kernel
theorem dX0_untilChange_4 : decode cX0_untilChange 4 = .ok (.istore_n 2, 1) := by decide +kernel
theorem dX0_untilChange_5 : decode cX0_untilChange 5 = .ok (.iconst 1, 1) := by decide +kernel
theorem dX0_untilChange_6 : decode cX0_untilChange 6 = .ok (.istore_n 3, 1) := by decide +kernel
theorem dX0_untilChange_7 : decode cX0_untilChange 7 = .ok (.iload_n 3, 1) := by decide +kernel
theorem dX0_untilChange_8 : decode cX0_untilChange 8 = .ok (.iload_n 2, 1) := by decide +kernel
theorem dX0_untilChange_9 : decode cX0_untilChange 9 = .ok (.if_icmp .gt 21, 3) := by decide +kernel
theorem dX0_untilChange_12 : decode cX0_untilChange 12 = .ok (.aload_n 0, 1) := by decide +kernel
theorem dX0_untilChange_13 : decode cX0_untilChange 13 = .ok (.iload_n 1, 1) := by decide +kernel
theorem dX0_untilChange_14 : decode cX0_untilChange 14 = .ok (.iload_n 3, 1) := by decide +kernel
theorem dX0_untilChange_15 : decode cX0_untilChange 15 = .ok (.iadd, 1) := by decide +kernel
theorem dX0_untilChange_16 : decode cX0_untilChange 16 = .ok (.invokevirtual 65, 3) := by decide +kernel
theorem dX0_untilChange_19 : decode cX0_untilChange 19 = .ok (.ifCond .eq 5, 3) := by decide +kernel
theorem dX0_untilChange_22 : decode cX0_untilChange 22 = .ok (.iload_n 3, 1) := by decide +kernel
theorem dX0_untilChange_23 : decode cX0_untilChange 23 = .ok (.ireturn, 1) := by decide +kernel
theorem dX0_untilChange_24 : decode cX0_untilChange 24 = .ok (.iinc 3 1, 3) := by decide +kernel
theorem dX0_untilChange_27 : decode cX0_untilChange 27 = .ok (.goto (-20), 3) := by decide +kernel
theorem dX0_untilChange_30 : decode cX0_untilChange 30 = .ok (.iconst (-1), 1) := by decide +kernel
theorem dX0_untilChange_31 : decode cX0_untilChange 31 = .ok (.ireturn, 1) := by decide +kernel
theorem dX0_isOdd_0 : decode cX0_isOdd 0 = .ok (.iload_n 0, 1) := by decide +kernel
theorem dX0_isOdd_1 : decode cX0_isOdd 1 = .ok (.iconst 1, 1) := by decide +kernel
theorem dX0_isOdd_2 : decode cX0_isOdd 2 = .ok (.iand, 1) := by decide +kernel
theorem dX0_isOdd_3 : decode cX0_isOdd 3 = .ok (.iconst 1, 1) := by decide +kernel
theorem dX0_isOdd_4 : decode cX0_isOdd 4 = .ok (.if_icmp .ne 7, 3) := by decide +kernel
theorem dX0_isOdd_7 : decode cX0_isOdd 7 = .ok (.iconst 1, 1) := by decide +kernel
theorem dX0_isOdd_8 : decode cX0_isOdd 8 = .ok (.goto 4, 3) := by decide +kernel
theorem dX0_isOdd_11 : decode cX0_isOdd 11 = .ok (.iconst 0, 1) := by decide +kernel
theorem dX0_isOdd_12 : decode cX0_isOdd 12 = .ok (.ireturn, 1) := by decide +kernel
