theorem dX2_init_0 : decode cX2_init 0 = .ok (.aload_n 0, 1) := by decide +kernel
theorem dX2_init_1 : decode cX2_init 1 = .ok (.invokespecial 1, 3) := by decide +kernel
theorem dX2_init_4 : decode cX2_init 4 = .ok (.aload_n 0, 1) := by decide +kernel
theorem dX2_init_5 : decode cX2_init 5 = .ok (.bipush 8, 2) := by decide +kernel
theorem dX2_init_7 : decode cX2_init 7 = .ok (.newarray .boolean, 2) := by decide +kernel
theorem dX2_init_9 : decode cX2_init 9 = .ok (.putfield 9, 3) := by decide +kernel
theorem dX2_init_12 : decode cX2_init 12 = .ok (.aload_n 0, 1) := by decide +kernel
theorem dX2_init_13 : decode cX2_init 13 = .ok (.bipush 8, 2) := by decide +kernel
theorem dX2_init_15 : decode cX2_init 15 = .ok (.newarray .boolean, 2) := by decide +kernel
theorem dX2_init_17 : decode cX2_init 17 = .ok (.putfield 13, 3) := by decide +kernel
theorem dX2_init_20 : decode cX2_init 20 = .ok (.aload_n 0, 1) := by decide +kernel
theorem dX2_init_21 : decode cX2_init 21 = .ok (.bipush 8, 2) := by decide +kernel
theorem dX2_init_23 : decode cX2_init 23 = .ok (.newarray .int, 2) := by decide +kernel
theorem dX2_init_25 : decode cX2_init 25 = .ok (.putfield 16, 3) := by decide +kernel
theorem dX2_init_28 : decode cX2_init 28 = .ok (.aload_n 0, 1) := by decide +kernel
theorem dX2_init_29 : decode cX2_init 29 = .ok (.bipush 32, 2) := by decide +kernel
theorem dX2_init_31 : decode cX2_init 31 = .ok (.newarray .int, 2) := by decide +kernel
theorem dX2_init_33 : decode cX2_init 33 = .ok (.putfield 20, 3) := by decide +kernel
theorem dX2_init_36 : decode cX2_init 36 = .ok (.aload_n 0, 1) := by decide +kernel
theorem dX2_init_37 : decode cX2_init 37 = .ok (.bipush 32, 2) := by decide +kernel
theorem dX2_init_39 : decode cX2_init 39 = .ok (.newarray .int, 2) := by decide +kernel
theorem dX2_init_41 : decode cX2_init 41 = .ok (.putfield 23, 3) := by decide +kernel
theorem dX2_init_44 : decode cX2_init 44 = .ok (.return_, 1) := by decide +kernel
theorem dX2_thrown_0 : decode cX2_thrown 0 = .ok (.aload_n 0, 1) := by decide +kernel
theorem dX2_thrown_1 : decode cX2_thrown 1 = .ok (.getfield 26, 3) := by decide +kernel
theorem dX2_thrown_4 : decode cX2_thrown 4 = .ok (.ireturn, 1) := by decide +kernel
theorem dX2_no_0 : decode cX2_no 0 = .ok (.aload_n 0, 1) := by decide +kernel
theorem dX2_no_1 : decode cX2_no 1 = .ok (.iload_n 1, 1) := by decide +kernel
theorem dX2_no_2 : decode cX2_no 2 = .ok (.putfield 26, 3) := by decide +kernel
theorem dX2_no_5 : decode cX2_no 5 = .ok (.iconst 0, 1) := by decide +kernel
theorem dX2_no_6 : decode cX2_no 6 = .ok (.ireturn, 1) := by decide +kernel
theorem dX2_isNot_0 : decode cX2_isNot 0 = .ok (.aload_n 0, 1) := by decide +kernel
theorem dX2_isNot_1 : decode cX2_isNot 1 = .ok (.iload_n 1, 1) := by decide +kernel
theorem dX2_isNot_2 : decode cX2_isNot 2 = .ok (.putfield 26, 3) := by decide +kernel
theorem dX2_isNot_5 : decode cX2_isNot 5 = .ok (.iconst 0, 1) := by decide +kernel
theorem dX2_isNot_6 : decode cX2_isNot 6 = .ok (.ireturn, 1) := by decide +kernel
theorem dX2_isIn_0 : decode cX2_isIn 0 = .ok (.iload_n 0, 1) := by decide +kernel
theorem dX2_isIn_1 : decode cX2_isIn 1 = .ok (.iload_n 1, 1) := by decide +kernel
theorem dX2_isIn_2 : decode cX2_isIn 2 = .ok (.if_icmp .lt 12, 3) := by decide +kernel
theorem dX2_isIn_5 : decode cX2_isIn 5 = .ok (.iload_n 0, 1) := by decide +kernel
theorem dX2_isIn_6 : decode cX2_isIn 6 = .ok (.iload_n 2, 1) := by decide +kernel
theorem dX2_isIn_7 : decode cX2_isIn 7 = .ok (.if_icmp .gt 7, 3) := by decide +kernel
theorem dX2_isIn_10 : decode cX2_isIn 10 = .ok (.iconst 1, 1) := by decide +kernel
theorem dX2_isIn_11 : decode cX2_isIn 11 = .ok (.goto 4, 3) := by decide +kernel
theorem dX2_isIn_14 : decode cX2_isIn 14 = .ok (.iconst 0, 1) := by decide +kernel
theorem dX2_isIn_15 : decode cX2_isIn 15 = .ok (.ireturn, 1) := by decide +kernel
set_option maxRecDepth 20000 in
theorem ggX2_isLamp_X2_isIn : GoodIn wsX2_isLamp wsX2_isIn := goodIn_r _ [5] (by decide +kernel) (by decide +kernel)
set_option maxRecDepth 20000 in
theorem gX2_isLamp_X2_isIn : GoodIn wsX2_isLamp (va_wsS RX2 33 yX2_isIn wsX2_isIn) := goodIn_app (goodIn_of _ (by decide +kernel)) ggX2_isLamp_X2_isIn
theorem dX2_isLamp_0 : decode cX2_isLamp 0 = .ok (.iload_n 1, 1) := by decide +kernel
theorem dX2_isLamp_1 : decode cX2_isLamp 1 = .ok (.iconst 0, 1) := by decide +kernel
theorem dX2_isLamp_2 : decode cX2_isLamp 2 = .ok (.aload_n 0, 1) := by decide +kernel
theorem dX2_isLamp_3 : decode cX2_isLamp 3 = .ok (.getfield 30, 3) := by decide +kernel
theorem dX2_isLamp_6 : decode cX2_isLamp 6 = .ok (.iconst 1, 1) := by decide +kernel
theorem dX2_isLamp_7 : decode cX2_isLamp 7 = .ok (.isub, 1) := by decide +kernel
theorem dX2_isLamp_8 : decode cX2_isLamp 8 = .ok (.invokestatic 33, 3) := by decide +kernel
theorem dX2_isLamp_11 : decode cX2_isLamp 11 = .ok (.ireturn, 1) := by decide +kernel
set_option maxRecDepth 20000 in
theorem ggX2_isBeat_X2_isLamp : GoodIn wsX2_isBeat wsX2_isLamp := goodIn_r _ [6, 7, 8, 9, 5, 10, 11, 12, 13, 14, 15, 16, 17, 18, 19] (by decide +kernel) (by decide +kernel)
set_option maxRecDepth 20000 in
theorem gX2_isBeat_X2_isLamp : GoodIn wsX2_isBeat (wsV RX2 37 RX2 yX2_isLamp wsX2_isLamp) := goodIn_app (goodIn_of _ (by decide +kernel)) ggX2_isBeat_X2_isLamp
set_option maxRecDepth 20000 in
theorem ggX2_isBeat_X2_isIn : GoodIn wsX2_isBeat wsX2_isIn := goodIn_r _ [10] (by decide +kernel) (by decide +kernel)
set_option maxRecDepth 20000 in
theorem gX2_isBeat_X2_isIn : GoodIn wsX2_isBeat (va_wsS RX2 33 yX2_isIn wsX2_isIn) := goodIn_app (goodIn_of _ (by decide +kernel)) ggX2_isBeat_X2_isIn
theorem dX2_isBeat_0 : decode cX2_isBeat 0 = .ok (.aload_n 0, 1) := by decide +kernel
theorem dX2_isBeat_1 : decode cX2_isBeat 1 = .ok (.iload_n 1, 1) := by decide +kernel
theorem dX2_isBeat_2 : decode cX2_isBeat 2 = .ok (.invokevirtual 37, 3) := by decide +kernel
theorem dX2_isBeat_5 : decode cX2_isBeat 5 = .ok (.ifCond .eq 23, 3) := by decide +kernel
theorem dX2_isBeat_8 : decode cX2_isBeat 8 = .ok (.iload_n 2, 1) := by decide +kernel
theorem dX2_isBeat_9 : decode cX2_isBeat 9 = .ok (.iconst 0, 1) := by decide +kernel
theorem dX2_isBeat_10 : decode cX2_isBeat 10 = .ok (.aload_n 0, 1) := by decide +kernel
theorem dX2_isBeat_11 : decode cX2_isBeat 11 = .ok (.getfield 16, 3) := by decide +kernel
theorem dX2_isBeat_14 : decode cX2_isBeat 14 = .ok (.iload_n 1, 1) := by decide +kernel
theorem dX2_isBeat_15 : decode cX2_isBeat 15 = .ok (.iaload, 1) := by decide +kernel
theorem dX2_isBeat_16 : decode cX2_isBeat 16 = .ok (.iconst 1, 1) := by decide +kernel
theorem dX2_isBeat_17 : decode cX2_isBeat 17 = .ok (.isub, 1) := by decide +kernel
theorem dX2_isBeat_18 : decode cX2_isBeat 18 = .ok (.invokestatic 33, 3) := by decide +kernel
theorem dX2_isBeat_21 : decode cX2_isBeat 21 = .ok (.ifCond .eq 7, 3) := by decide +kernel
theorem dX2_isBeat_24 : decode cX2_isBeat 24 = .ok (.iconst 1, 1) := by decide +kernel
theorem dX2_isBeat_25 : decode cX2_isBeat 25 = .ok (.goto 4, 3) := by decide +kernel
theorem dX2_isBeat_28 : decode cX2_isBeat 28 = .ok (.iconst 0, 1) := by decide +kernel
theorem dX2_isBeat_29 : decode cX2_isBeat 29 = .ok (.ireturn, 1) := by decide +kernel
theorem dX2_isPrime_0 : decode cX2_isPrime 0 = .ok (.iload_n 0, 1) := by decide +kernel
theorem dX2_isPrime_1 : decode cX2_isPrime 1 = .ok (.iconst 2, 1) := by decide +kernel
theorem dX2_isPrime_2 : decode cX2_isPrime 2 = .ok (.if_icmp .eq 31, 3) := by decide +kernel
theorem dX2_isPrime_5 : decode cX2_isPrime 5 = .ok (.iload_n 0, 1) := by decide +kernel
theorem dX2_isPrime_6 : decode cX2_isPrime 6 = .ok (.iconst 3, 1) := by decide +kernel
theorem dX2_isPrime_7 : decode cX2_isPrime 7 = .ok (.if_icmp .eq 26, 3) := by decide +kernel
theorem dX2_isPrime_10 : decode cX2_isPrime 10 = .ok (.iload_n 0, 1) := by decide +kernel
theorem dX2_isPrime_11 : decode cX2_isPrime 11 = .ok (.iconst 5, 1) := by decide +kernel
theorem dX2_isPrime_12 : decode cX2_isPrime 12 = .ok (.if_icmp .eq 21, 3) := by decide +kernel
theorem dX2_isPrime_15 : decode cX2_isPrime 15 = .ok (.iload_n 0, 1) := by decide +kernel
theorem dX2_isPrime_16 : decode cX2_isPrime 16 = .ok (.bipush 7, 2) := by decide +kernel
theorem dX2_isPrime_18 : decode cX2_isPrime 18 = .ok (.if_icmp .eq 15, 3) := by decide +kernel
theorem dX2_isPrime_21 : decode cX2_isPrime 21 = .ok (.iload_n 0, 1) := by decide +kernel
theorem dX2_isPrime_22 : decode cX2_isPrime 22 = .ok (.bipush 11, 2) := by decide +kernel
theorem dX2_isPrime_24 : decode cX2_isPrime 24 = .ok (.if_icmp .eq 9, 3) := by decide +kernel
theorem dX2_isPrime_27 : decode cX2_isPrime 27 = .ok (.iload_n 0, 1) := by decide +kernel
theorem dX2_isPrime_28 : decode cX2_isPrime 28 = .ok (.bipush 13, 2) := by decide +kernel
theorem dX2_isPrime_30 : decode cX2_isPrime 30 = .ok (.if_icmp .ne 7, 3) := by decide +kernel
theorem dX2_isPrime_33 : decode cX2_isPrime 33 = .ok (.iconst 1, 1) := by decide +kernel
theorem dX2_isPrime_34 : decode cX2_isPrime 34 = .ok (.goto 4, 3) := by decide +kernel
theorem dX2_isPrime_37 : decode cX2_isPrime 37 = .ok (.iconst 0, 1) := by decide +kernel
theorem dX2_isPrime_38 : decode cX2_isPrime 38 = .ok (.ireturn, 1) := by decide +kernel
theorem dX2_strikes_0 : decode cX2_strikes 0 = .ok (.iconst 0, 1) := by decide +kernel
theorem dX2_strikes_1 : decode cX2_strikes 1 = .ok (.istore_n 3, 1) := by decide +kernel
theorem dX2_strikes_2 : decode cX2_strikes 2 = .ok (.iconst 4, 1) := by decide +kernel
theorem dX2_strikes_3 : decode cX2_strikes 3 = .ok (.iload_n 1, 1) := by decide +kernel
theorem dX2_strikes_4 : decode cX2_strikes 4 = .ok (.imul, 1) := by decide +kernel
theorem dX2_strikes_5 : decode cX2_strikes 5 = .ok (.istore 4, 2) := by decide +kernel
theorem dX2_strikes_7 : decode cX2_strikes 7 = .ok (.iload 4, 2) := by decide +kernel
theorem dX2_strikes_9 : decode cX2_strikes 9 = .ok (.iconst 4, 1) := by decide +kernel
theorem dX2_strikes_10 : decode cX2_strikes 10 = .ok (.iload_n 1, 1) := by decide +kernel
theorem dX2_strikes_11 : decode cX2_strikes 11 = .ok (.imul, 1) := by decide +kernel
theorem dX2_strikes_12 : decode cX2_strikes 12 = .ok (.aload_n 0, 1) := by decide +kernel
theorem dX2_strikes_13 : decode cX2_strikes 13 = .ok (.getfield 16, 3) := by decide +kernel
theorem dX2_strikes_16 : decode cX2_strikes 16 = .ok (.iload_n 1, 1) := by decide +kernel
theorem dX2_strikes_17 : decode cX2_strikes 17 = .ok (.iaload, 1) := by decide +kernel
theorem dX2_strikes_18 : decode cX2_strikes 18 = .ok (.iadd, 1) := by decide +kernel
theorem dX2_strikes_19 : decode cX2_strikes 19 = .ok (.if_icmp .ge 36, 3) := by decide +kernel
theorem dX2_strikes_22 : decode cX2_strikes 22 = .ok (.iload_n 3, 1) := by decide +kernel
theorem dX2_strikes_23 : decode cX2_strikes 23 = .ok (.iload_n 2, 1) := by decide +kernel
theorem dX2_strikes_24 : decode cX2_strikes 24 = .ok (.aload_n 0, 1) := by decide +kernel
theorem dX2_strikes_25 : decode cX2_strikes 25 = .ok (.getfield 20, 3) := by decide +kernel
theorem dX2_strikes_28 : decode cX2_strikes 28 = .ok (.iload 4, 2) := by decide +kernel
theorem dX2_strikes_30 : decode cX2_strikes 30 = .ok (.iaload, 1) := by decide +kernel
theorem dX2_strikes_31 : decode cX2_strikes 31 = .ok (.irem, 1) := by decide +kernel
theorem dX2_strikes_32 : decode cX2_strikes 32 = .ok (.aload_n 0, 1) := by decide +kernel
theorem dX2_strikes_33 : decode cX2_strikes 33 = .ok (.getfield 23, 3) := by decide +kernel
theorem dX2_strikes_36 : decode cX2_strikes 36 = .ok (.iload 4, 2) := by decide +kernel
theorem dX2_strikes_38 : decode cX2_strikes 38 = .ok (.iaload, 1) := by decide +kernel
theorem dX2_strikes_39 : decode cX2_strikes 39 = .ok (.if_icmp .ne 7, 3) := by decide +kernel
theorem dX2_strikes_42 : decode cX2_strikes 42 = .ok (.iconst 1, 1) := by decide +kernel
theorem dX2_strikes_43 : decode cX2_strikes 43 = .ok (.goto 4, 3) := by decide +kernel
theorem dX2_strikes_46 : decode cX2_strikes 46 = .ok (.iconst 0, 1) := by decide +kernel
theorem dX2_strikes_47 : decode cX2_strikes 47 = .ok (.iadd, 1) := by decide +kernel
theorem dX2_strikes_48 : decode cX2_strikes 48 = .ok (.istore_n 3, 1) := by decide +kernel
theorem dX2_strikes_49 : decode cX2_strikes 49 = .ok (.iinc 4 1, 3) := by decide +kernel
theorem dX2_strikes_52 : decode cX2_strikes 52 = .ok (.goto (-45), 3) := by decide +kernel
theorem dX2_strikes_55 : decode cX2_strikes 55 = .ok (.iload_n 3, 1) := by decide +kernel
theorem dX2_strikes_56 : decode cX2_strikes 56 = .ok (.ireturn, 1) := by decide +kernel
set_option maxRecDepth 20000 in
theorem ggX2_changes_X2_strikes : GoodIn wsX2_changes wsX2_strikes := goodIn_r _ [5, 6, 7, 8, 9, 10, 11, 12, 13, 14, 15, 16, 17] (by decide +kernel) (by decide +kernel)
set_option maxRecDepth 20000 in
theorem gX2_changes_X2_strikes : GoodIn wsX2_changes (wsV RX2 41 RX2 yX2_strikes wsX2_strikes) := goodIn_app (goodIn_of _ (by decide +kernel)) ggX2_changes_X2_strikes
theorem dX2_changes_0 : decode cX2_changes 0 = .ok (.aload_n 0, 1) := by decide +kernel
theorem dX2_changes_1 : decode cX2_changes 1 = .ok (.iload_n 1, 1) := by decide +kernel
theorem dX2_changes_2 : decode cX2_changes 2 = .ok (.iload_n 2, 1) := by decide +kernel
theorem dX2_changes_3 : decode cX2_changes 3 = .ok (.invokevirtual 41, 3) := by decide +kernel
theorem dX2_changes_6 : decode cX2_changes 6 = .ok (.iconst 2, 1) := by decide +kernel
theorem dX2_changes_7 : decode cX2_changes 7 = .ok (.irem, 1) := by decide +kernel
theorem dX2_changes_8 : decode cX2_changes 8 = .ok (.iconst 1, 1) := by decide +kernel
theorem dX2_changes_9 : decode cX2_changes 9 = .ok (.if_icmp .ne 7, 3) := by decide +kernel
theorem dX2_changes_12 : decode cX2_changes 12 = .ok (.iconst 1, 1) := by decide +kernel
theorem dX2_changes_13 : decode cX2_changes 13 = .ok (.goto 4, 3) := by decide +kernel
theorem dX2_changes_16 : decode cX2_changes 16 = .ok (.iconst 0, 1) := by decide +kernel
theorem dX2_changes_17 : decode cX2_changes 17 = .ok (.ireturn, 1) := by decide +kernel
theorem dX2_onAt_0 : decode cX2_onAt 0 = .ok (.aload_n 0, 1) := by decide +kernel
theorem dX2_onAt_1 : decode cX2_onAt 1 = .ok (.getfield 9, 3) := by decide +kernel
theorem dX2_onAt_4 : decode cX2_onAt 4 = .ok (.iload_n 1, 1) := by decide +kernel
theorem dX2_onAt_5 : decode cX2_onAt 5 = .ok (.baload, 1) := by decide +kernel
theorem dX2_onAt_6 : decode cX2_onAt 6 = .ok (.ifCond .eq 7, 3) := by decide +kernel
theorem dX2_onAt_9 : decode cX2_onAt 9 = .ok (.iconst 1, 1) := by decide +kernel
theorem dX2_onAt_10 : decode cX2_onAt 10 = .ok (.goto 4, 3) := by decide +kernel
theorem dX2_onAt_13 : decode cX2_onAt 13 = .ok (.iconst 0, 1) := by decide +kernel
theorem dX2_onAt_14 : decode cX2_onAt 14 = .ok (.istore_n 3, 1) := by decide +kernel
theorem dX2_onAt_15 : decode cX2_onAt 15 = .ok (.iconst 4, 1) := by decide +kernel
theorem dX2_onAt_16 : decode cX2_onAt 16 = .ok (.iload_n 1, 1) := by decide +kernel
theorem dX2_onAt_17 : decode cX2_onAt 17 = .ok (.imul, 1) := by decide +kernel
theorem dX2_onAt_18 : decode cX2_onAt 18 = .ok (.istore 4, 2) := by decide +kernel
theorem dX2_onAt_20 : decode cX2_onAt 20 = .ok (.iload 4, 2) := by decide +kernel
theorem dX2_onAt_22 : decode cX2_onAt 22 = .ok (.iconst 4, 1) := by decide +kernel
theorem dX2_onAt_23 : decode cX2_onAt 23 = .ok (.iload_n 1, 1) := by decide +kernel
theorem dX2_onAt_24 : decode cX2_onAt 24 = .ok (.imul, 1) := by decide +kernel
theorem dX2_onAt_25 : decode cX2_onAt 25 = .ok (.aload_n 0, 1) := by decide +kernel
theorem dX2_onAt_26 : decode cX2_onAt 26 = .ok (.getfield 16, 3) := by decide +kernel
theorem dX2_onAt_29 : decode cX2_onAt 29 = .ok (.iload_n 1, 1) := by decide +kernel
theorem dX2_onAt_30 : decode cX2_onAt 30 = .ok (.iaload, 1) := by decide +kernel
theorem dX2_onAt_31 : decode cX2_onAt 31 = .ok (.iadd, 1) := by decide +kernel
theorem dX2_onAt_32 : decode cX2_onAt 32 = .ok (.if_icmp .ge 37, 3) := by decide +kernel
theorem dX2_onAt_35 : decode cX2_onAt 35 = .ok (.iload_n 3, 1) := by decide +kernel
theorem dX2_onAt_36 : decode cX2_onAt 36 = .ok (.iload_n 2, 1) := by decide +kernel
theorem dX2_onAt_37 : decode cX2_onAt 37 = .ok (.aload_n 0, 1) := by decide +kernel
theorem dX2_onAt_38 : decode cX2_onAt 38 = .ok (.getfield 20, 3) := by decide +kernel
theorem dX2_onAt_41 : decode cX2_onAt 41 = .ok (.iload 4, 2) := by decide +kernel
theorem dX2_onAt_43 : decode cX2_onAt 43 = .ok (.iaload, 1) := by decide +kernel
theorem dX2_onAt_44 : decode cX2_onAt 44 = .ok (.iadd, 1) := by decide +kernel
theorem dX2_onAt_45 : decode cX2_onAt 45 = .ok (.aload_n 0, 1) := by decide +kernel
theorem dX2_onAt_46 : decode cX2_onAt 46 = .ok (.getfield 23, 3) := by decide +kernel
theorem dX2_onAt_49 : decode cX2_onAt 49 = .ok (.iload 4, 2) := by decide +kernel
theorem dX2_onAt_51 : decode cX2_onAt 51 = .ok (.iaload, 1) := by decide +kernel
theorem dX2_onAt_52 : decode cX2_onAt 52 = .ok (.isub, 1) := by decide +kernel
theorem dX2_onAt_53 : decode cX2_onAt 53 = .ok (.aload_n 0, 1) := by decide +kernel
theorem dX2_onAt_54 : decode cX2_onAt 54 = .ok (.getfield 20, 3) := by decide +kernel
theorem dX2_onAt_57 : decode cX2_onAt 57 = .ok (.iload 4, 2) := by decide +kernel
theorem dX2_onAt_59 : decode cX2_onAt 59 = .ok (.iaload, 1) := by decide +kernel
theorem dX2_onAt_60 : decode cX2_onAt 60 = .ok (.idiv, 1) := by decide +kernel
theorem dX2_onAt_61 : decode cX2_onAt 61 = .ok (.iadd, 1) := by decide +kernel
theorem dX2_onAt_62 : decode cX2_onAt 62 = .ok (.istore_n 3, 1) := by decide +kernel
theorem dX2_onAt_63 : decode cX2_onAt 63 = .ok (.iinc 4 1, 3) := by decide +kernel
theorem dX2_onAt_66 : decode cX2_onAt 66 = .ok (.goto (-46), 3) := by decide +kernel
theorem dX2_onAt_69 : decode cX2_onAt 69 = .ok (.iload_n 3, 1) := by decide +kernel
theorem dX2_onAt_70 : decode cX2_onAt 70 = .ok (.iconst 2, 1) := by decide +kernel
theorem dX2_onAt_71 : decode cX2_onAt 71 = .ok (.irem, 1) := by decide +kernel
theorem dX2_onAt_72 : decode cX2_onAt 72 = .ok (.iconst 1, 1) := by decide +kernel
theorem dX2_onAt_73 : decode cX2_onAt 73 = .ok (.if_icmp .ne 7, 3) := by decide +kernel
theorem dX2_onAt_76 : decode cX2_onAt 76 = .ok (.iconst 1, 1) := by decide +kernel
theorem dX2_onAt_77 : decode cX2_onAt 77 = .ok (.goto 4, 3) := by decide +kernel
theorem dX2_onAt_80 : decode cX2_onAt 80 = .ok (.iconst 0, 1) := by decide +kernel
theorem dX2_onAt_81 : decode cX2_onAt 81 = .ok (.ireturn, 1) := by decide +kernel
set_option maxRecDepth 20000 in
theorem ggX2_litAt_X2_onAt : GoodIn wsX2_litAt wsX2_onAt := goodIn_r _ [7, 8, 9, 10, 11, 12, 13, 14, 15, 16, 17, 18, 19, 20] (by decide +kernel) (by decide +kernel)
set_option maxRecDepth 20000 in
theorem gX2_litAt_X2_onAt : GoodIn wsX2_litAt (wsV RX2 45 RX2 yX2_onAt wsX2_onAt) := goodIn_app (goodIn_of _ (by decide +kernel)) ggX2_litAt_X2_onAt
theorem dX2_litAt_0 : decode cX2_litAt 0 = .ok (.iconst 0, 1) := by decide +kernel
theorem dX2_litAt_1 : decode cX2_litAt 1 = .ok (.istore_n 3, 1) := by decide +kernel
theorem dX2_litAt_2 : decode cX2_litAt 2 = .ok (.iconst 0, 1) := by decide +kernel
theorem dX2_litAt_3 : decode cX2_litAt 3 = .ok (.istore 4, 2) := by decide +kernel
theorem dX2_litAt_5 : decode cX2_litAt 5 = .ok (.iload 4, 2) := by decide +kernel
theorem dX2_litAt_7 : decode cX2_litAt 7 = .ok (.aload_n 0, 1) := by decide +kernel
theorem dX2_litAt_8 : decode cX2_litAt 8 = .ok (.getfield 30, 3) := by decide +kernel
theorem dX2_litAt_11 : decode cX2_litAt 11 = .ok (.if_icmp .ge 43, 3) := by decide +kernel
theorem dX2_litAt_14 : decode cX2_litAt 14 = .ok (.iload_n 3, 1) := by decide +kernel
theorem dX2_litAt_15 : decode cX2_litAt 15 = .ok (.iload 4, 2) := by decide +kernel
theorem dX2_litAt_17 : decode cX2_litAt 17 = .ok (.iload_n 2, 1) := by decide +kernel
theorem dX2_litAt_18 : decode cX2_litAt 18 = .ok (.if_icmp .eq 27, 3) := by decide +kernel
theorem dX2_litAt_21 : decode cX2_litAt 21 = .ok (.aload_n 0, 1) := by decide +kernel
theorem dX2_litAt_22 : decode cX2_litAt 22 = .ok (.getfield 13, 3) := by decide +kernel
theorem dX2_litAt_25 : decode cX2_litAt 25 = .ok (.iload 4, 2) := by decide +kernel
theorem dX2_litAt_27 : decode cX2_litAt 27 = .ok (.baload, 1) := by decide +kernel
theorem dX2_litAt_28 : decode cX2_litAt 28 = .ok (.ifCond .ne 17, 3) := by decide +kernel
theorem dX2_litAt_31 : decode cX2_litAt 31 = .ok (.aload_n 0, 1) := by decide +kernel
theorem dX2_litAt_32 : decode cX2_litAt 32 = .ok (.iload 4, 2) := by decide +kernel
theorem dX2_litAt_34 : decode cX2_litAt 34 = .ok (.iload_n 1, 1) := by decide +kernel
theorem dX2_litAt_35 : decode cX2_litAt 35 = .ok (.invokevirtual 45, 3) := by decide +kernel
theorem dX2_litAt_38 : decode cX2_litAt 38 = .ok (.ifCond .eq 7, 3) := by decide +kernel
theorem dX2_litAt_41 : decode cX2_litAt 41 = .ok (.iconst 1, 1) := by decide +kernel
theorem dX2_litAt_42 : decode cX2_litAt 42 = .ok (.goto 4, 3) := by decide +kernel
theorem dX2_litAt_45 : decode cX2_litAt 45 = .ok (.iconst 0, 1) := by decide +kernel
theorem dX2_litAt_46 : decode cX2_litAt 46 = .ok (.iadd, 1) := by decide +kernel
theorem dX2_litAt_47 : decode cX2_litAt 47 = .ok (.istore_n 3, 1) := by decide +kernel
theorem dX2_litAt_48 : decode cX2_litAt 48 = .ok (.iinc 4 1, 3) := by decide +kernel
theorem dX2_litAt_51 : decode cX2_litAt 51 = .ok (.goto (-46), 3) := by decide +kernel
theorem dX2_litAt_54 : decode cX2_litAt 54 = .ok (.iload_n 3, 1) := by decide +kernel
theorem dX2_litAt_55 : decode cX2_litAt 55 = .ok (.ireturn, 1) := by decide +kernel
theorem dX2_product_0 : decode cX2_product 0 = .ok (.iconst 1, 1) := by decide +kernel
theorem dX2_product_1 : decode cX2_product 1 = .ok (.istore_n 2, 1) := by decide +kernel
theorem dX2_product_2 : decode cX2_product 2 = .ok (.iconst 4, 1) := by decide +kernel
theorem dX2_product_3 : decode cX2_product 3 = .ok (.iload_n 1, 1) := by decide +kernel
theorem dX2_product_4 : decode cX2_product 4 = .ok (.imul, 1) := by decide +kernel
theorem dX2_product_5 : decode cX2_product 5 = .ok (.istore_n 3, 1) := by decide +kernel
theorem dX2_product_6 : decode cX2_product 6 = .ok (.iload_n 3, 1) := by decide +kernel
theorem dX2_product_7 : decode cX2_product 7 = .ok (.iconst 4, 1) := by decide +kernel
theorem dX2_product_8 : decode cX2_product 8 = .ok (.iload_n 1, 1) := by decide +kernel
theorem dX2_product_9 : decode cX2_product 9 = .ok (.imul, 1) := by decide +kernel
theorem dX2_product_10 : decode cX2_product 10 = .ok (.aload_n 0, 1) := by decide +kernel
theorem dX2_product_11 : decode cX2_product 11 = .ok (.getfield 16, 3) := by decide +kernel
theorem dX2_product_14 : decode cX2_product 14 = .ok (.iload_n 1, 1) := by decide +kernel
theorem dX2_product_15 : decode cX2_product 15 = .ok (.iaload, 1) := by decide +kernel
theorem dX2_product_16 : decode cX2_product 16 = .ok (.iadd, 1) := by decide +kernel
theorem dX2_product_17 : decode cX2_product 17 = .ok (.if_icmp .ge 29, 3) := by decide +kernel
theorem dX2_product_20 : decode cX2_product 20 = .ok (.iload_n 2, 1) := by decide +kernel
theorem dX2_product_21 : decode cX2_product 21 = .ok (.aload_n 0, 1) := by decide +kernel
theorem dX2_product_22 : decode cX2_product 22 = .ok (.getfield 20, 3) := by decide +kernel
theorem dX2_product_25 : decode cX2_product 25 = .ok (.iload_n 3, 1) := by decide +kernel
theorem dX2_product_26 : decode cX2_product 26 = .ok (.iaload, 1) := by decide +kernel
theorem dX2_product_27 : decode cX2_product 27 = .ok (.irem, 1) := by decide +kernel
theorem dX2_product_28 : decode cX2_product 28 = .ok (.ifCond .eq 12, 3) := by decide +kernel
theorem dX2_product_31 : decode cX2_product 31 = .ok (.iload_n 2, 1) := by decide +kernel
theorem dX2_product_32 : decode cX2_product 32 = .ok (.aload_n 0, 1) := by decide +kernel
theorem dX2_product_33 : decode cX2_product 33 = .ok (.getfield 20, 3) := by decide +kernel
theorem dX2_product_36 : decode cX2_product 36 = .ok (.iload_n 3, 1) := by decide +kernel
theorem dX2_product_37 : decode cX2_product 37 = .ok (.iaload, 1) := by decide +kernel
theorem dX2_product_38 : decode cX2_product 38 = .ok (.imul, 1) := by decide +kernel
theorem dX2_product_39 : decode cX2_product 39 = .ok (.istore_n 2, 1) := by decide +kernel
theorem dX2_product_40 : decode cX2_product 40 = .ok (.iinc 3 1, 3) := by decide +kernel
theorem dX2_product_43 : decode cX2_product 43 = .ok (.goto (-37), 3) := by decide +kernel
theorem dX2_product_46 : decode cX2_product 46 = .ok (.iload_n 2, 1) := by decide +kernel
theorem dX2_product_47 : decode cX2_product 47 = .ok (.ireturn, 1) := by decide +kernel
set_option maxRecDepth 20000 in
theorem ggX2_steady_X2_product : GoodIn wsX2_steady wsX2_product := goodIn_r _ [5, 6, 7, 17, 18, 19, 20, 21, 22, 23, 24, 25] (by decide +kernel) (by decide +kernel)
set_option maxRecDepth 20000 in
theorem gX2_steady_X2_product : GoodIn wsX2_steady (wsV RX2 49 RX2 yX2_product wsX2_product) := goodIn_app (goodIn_of _ (by decide +kernel)) ggX2_steady_X2_product
set_option maxRecDepth 20000 in
theorem ggX2_steady_X2_changes : GoodIn wsX2_steady wsX2_changes := goodIn_r _ [11, 12, 13, 14, 4, 15, 6, 7, 16, 17, 18, 19, 20, 21, 22, 23, 24, 25] (by decide +kernel) (by decide +kernel)
set_option maxRecDepth 20000 in
theorem gX2_steady_X2_changes : GoodIn wsX2_steady (wsV RX2 53 RX2 yX2_changes wsX2_changes) := goodIn_app (goodIn_of _ (by decide +kernel)) ggX2_steady_X2_changes
theorem dX2_steady_0 : decode cX2_steady 0 = .ok (.iconst 0, 1) := by decide +kernel
theorem dX2_steady_1 : decode cX2_steady 1 = .ok (.istore_n 2, 1) := by decide +kernel
theorem dX2_steady_2 : decode cX2_steady 2 = .ok (.iload_n 2, 1) := by decide +kernel
theorem dX2_steady_3 : decode cX2_steady 3 = .ok (.aload_n 0, 1) := by decide +kernel
theorem dX2_steady_4 : decode cX2_steady 4 = .ok (.iload_n 1, 1) := by decide +kernel
theorem dX2_steady_5 : decode cX2_steady 5 = .ok (.invokevirtual 49, 3) := by decide +kernel
theorem dX2_steady_8 : decode cX2_steady 8 = .ok (.if_icmp .ge 20, 3) := by decide +kernel
theorem dX2_steady_11 : decode cX2_steady 11 = .ok (.aload_n 0, 1) := by decide +kernel
theorem dX2_steady_12 : decode cX2_steady 12 = .ok (.iload_n 1, 1) := by decide +kernel
theorem dX2_steady_13 : decode cX2_steady 13 = .ok (.iload_n 2, 1) := by decide +kernel
theorem dX2_steady_14 : decode cX2_steady 14 = .ok (.invokevirtual 53, 3) := by decide +kernel
theorem dX2_steady_17 : decode cX2_steady 17 = .ok (.ifCond .eq 5, 3) := by decide +kernel
theorem dX2_steady_20 : decode cX2_steady 20 = .ok (.iconst 0, 1) := by decide +kernel
theorem dX2_steady_21 : decode cX2_steady 21 = .ok (.ireturn, 1) := by decide +kernel
theorem dX2_steady_22 : decode cX2_steady 22 = .ok (.iinc 2 1, 3) := by decide +kernel
theorem dX2_steady_25 : decode cX2_steady 25 = .ok (.goto (-23), 3) := by decide +kernel
theorem dX2_steady_28 : decode cX2_steady 28 = .ok (.iconst 1, 1) := by decide +kernel
theorem dX2_steady_29 : decode cX2_steady 29 = .ok (.ireturn, 1) := by decide +kernel
set_option maxRecDepth 20000 in
theorem ggX2_isCycle_X2_onAt : GoodIn wsX2_isCycle wsX2_onAt := goodIn_r _ [5, 6, 7, 8, 9, 18, 19, 20, 21, 22, 23, 24, 25, 26] (by decide +kernel) (by decide +kernel)
set_option maxRecDepth 20000 in
theorem gX2_isCycle_X2_onAt : GoodIn wsX2_isCycle (wsV RX2 45 RX2 yX2_onAt wsX2_onAt) := goodIn_app (goodIn_of _ (by decide +kernel)) ggX2_isCycle_X2_onAt
set_option maxRecDepth 20000 in
theorem ggX2_isCycle_X2_changes : GoodIn wsX2_isCycle wsX2_changes := goodIn_r _ [13, 14, 15, 16, 4, 17, 7, 8, 9, 18, 19, 20, 21, 22, 23, 24, 25, 26] (by decide +kernel) (by decide +kernel)
set_option maxRecDepth 20000 in
theorem gX2_isCycle_X2_changes : GoodIn wsX2_isCycle (wsV RX2 53 RX2 yX2_changes wsX2_changes) := goodIn_app (goodIn_of _ (by decide +kernel)) ggX2_isCycle_X2_changes
theorem dX2_isCycle_0 : decode cX2_isCycle 0 = .ok (.aload_n 0, 1) := by decide +kernel
theorem dX2_isCycle_1 : decode cX2_isCycle 1 = .ok (.iload_n 1, 1) := by decide +kernel
theorem dX2_isCycle_2 : decode cX2_isCycle 2 = .ok (.iconst 0, 1) := by decide +kernel
theorem dX2_isCycle_3 : decode cX2_isCycle 3 = .ok (.invokevirtual 45, 3) := by decide +kernel
theorem dX2_isCycle_6 : decode cX2_isCycle 6 = .ok (.aload_n 0, 1) := by decide +kernel
theorem dX2_isCycle_7 : decode cX2_isCycle 7 = .ok (.iload_n 1, 1) := by decide +kernel
theorem dX2_isCycle_8 : decode cX2_isCycle 8 = .ok (.iload_n 2, 1) := by decide +kernel
theorem dX2_isCycle_9 : decode cX2_isCycle 9 = .ok (.invokevirtual 45, 3) := by decide +kernel
theorem dX2_isCycle_12 : decode cX2_isCycle 12 = .ok (.if_icmp .eq 5, 3) := by decide +kernel
theorem dX2_isCycle_15 : decode cX2_isCycle 15 = .ok (.iconst 0, 1) := by decide +kernel
theorem dX2_isCycle_16 : decode cX2_isCycle 16 = .ok (.ireturn, 1) := by decide +kernel
theorem dX2_isCycle_17 : decode cX2_isCycle 17 = .ok (.iconst 1, 1) := by decide +kernel
theorem dX2_isCycle_18 : decode cX2_isCycle 18 = .ok (.istore 4, 2) := by decide +kernel
theorem dX2_isCycle_20 : decode cX2_isCycle 20 = .ok (.iload 4, 2) := by decide +kernel
theorem dX2_isCycle_22 : decode cX2_isCycle 22 = .ok (.iload_n 3, 1) := by decide +kernel
theorem dX2_isCycle_23 : decode cX2_isCycle 23 = .ok (.if_icmp .gt 30, 3) := by decide +kernel
theorem dX2_isCycle_26 : decode cX2_isCycle 26 = .ok (.aload_n 0, 1) := by decide +kernel
theorem dX2_isCycle_27 : decode cX2_isCycle 27 = .ok (.iload_n 1, 1) := by decide +kernel
theorem dX2_isCycle_28 : decode cX2_isCycle 28 = .ok (.iload 4, 2) := by decide +kernel
theorem dX2_isCycle_30 : decode cX2_isCycle 30 = .ok (.invokevirtual 53, 3) := by decide +kernel
theorem dX2_isCycle_33 : decode cX2_isCycle 33 = .ok (.aload_n 0, 1) := by decide +kernel
theorem dX2_isCycle_34 : decode cX2_isCycle 34 = .ok (.iload_n 1, 1) := by decide +kernel
theorem dX2_isCycle_35 : decode cX2_isCycle 35 = .ok (.iload 4, 2) := by decide +kernel
theorem dX2_isCycle_37 : decode cX2_isCycle 37 = .ok (.iload_n 2, 1) := by decide +kernel
theorem dX2_isCycle_38 : decode cX2_isCycle 38 = .ok (.iadd, 1) := by decide +kernel
theorem dX2_isCycle_39 : decode cX2_isCycle 39 = .ok (.invokevirtual 53, 3) := by decide +kernel
theorem dX2_isCycle_42 : decode cX2_isCycle 42 = .ok (.if_icmp .eq 5, 3) := by decide +kernel
theorem dX2_isCycle_45 : decode cX2_isCycle 45 = .ok (.iconst 0, 1) := by decide +kernel
theorem dX2_isCycle_46 : decode cX2_isCycle 46 = .ok (.ireturn, 1) := by decide +kernel
theorem dX2_isCycle_47 : decode cX2_isCycle 47 = .ok (.iinc 4 1, 3) := by decide +kernel
theorem dX2_isCycle_50 : decode cX2_isCycle 50 = .ok (.goto (-30), 3) := by decide +kernel
theorem dX2_isCycle_53 : decode cX2_isCycle 53 = .ok (.iconst 1, 1) := by decide +kernel
theorem dX2_isCycle_54 : decode cX2_isCycle 54 = .ok (.ireturn, 1) := by decide +kernel
set_option maxRecDepth 20000 in
theorem ggX2_cycle_X2_product : GoodIn wsX2_cycle wsX2_product := goodIn_r _ [5, 6, 7, 26, 27, 28, 29, 30, 31, 32, 33, 34] (by decide +kernel) (by decide +kernel)
set_option maxRecDepth 20000 in
theorem gX2_cycle_X2_product : GoodIn wsX2_cycle (wsV RX2 49 RX2 yX2_product wsX2_product) := goodIn_app (goodIn_of _ (by decide +kernel)) ggX2_cycle_X2_product
set_option maxRecDepth 20000 in
theorem ggX2_cycle_X2_isCycle : GoodIn wsX2_cycle wsX2_isCycle := goodIn_r _ [11, 12, 13, 14, 4, 15, 16, 6, 7, 17, 18, 19, 20, 21, 22, 23, 24, 25, 26, 27, 28, 29, 30, 31, 32, 33, 34] (by decide +kernel) (by decide +kernel)
set_option maxRecDepth 20000 in
theorem gX2_cycle_X2_isCycle : GoodIn wsX2_cycle (wsV RX2 56 RX2 yX2_isCycle wsX2_isCycle) := goodIn_app (goodIn_of _ (by decide +kernel)) ggX2_cycle_X2_isCycle
theorem dX2_cycle_0 : decode cX2_cycle 0 = .ok (.aload_n 0, 1) := by decide +kernel
theorem dX2_cycle_1 : decode cX2_cycle 1 = .ok (.iload_n 1, 1) := by decide +kernel
theorem dX2_cycle_2 : decode cX2_cycle 2 = .ok (.invokevirtual 49, 3) := by decide +kernel
theorem dX2_cycle_5 : decode cX2_cycle 5 = .ok (.istore_n 2, 1) := by decide +kernel
theorem dX2_cycle_6 : decode cX2_cycle 6 = .ok (.iconst 1, 1) := by decide +kernel
theorem dX2_cycle_7 : decode cX2_cycle 7 = .ok (.istore_n 3, 1) := by decide +kernel
theorem dX2_cycle_8 : decode cX2_cycle 8 = .ok (.iload_n 3, 1) := by decide +kernel
theorem dX2_cycle_9 : decode cX2_cycle 9 = .ok (.iconst 2, 1) := by decide +kernel
theorem dX2_cycle_10 : decode cX2_cycle 10 = .ok (.iload_n 2, 1) := by decide +kernel
theorem dX2_cycle_11 : decode cX2_cycle 11 = .ok (.imul, 1) := by decide +kernel
theorem dX2_cycle_12 : decode cX2_cycle 12 = .ok (.if_icmp .ge 29, 3) := by decide +kernel
theorem dX2_cycle_15 : decode cX2_cycle 15 = .ok (.iconst 2, 1) := by decide +kernel
theorem dX2_cycle_16 : decode cX2_cycle 16 = .ok (.iload_n 2, 1) := by decide +kernel
theorem dX2_cycle_17 : decode cX2_cycle 17 = .ok (.imul, 1) := by decide +kernel
theorem dX2_cycle_18 : decode cX2_cycle 18 = .ok (.iload_n 3, 1) := by decide +kernel
theorem dX2_cycle_19 : decode cX2_cycle 19 = .ok (.irem, 1) := by decide +kernel
theorem dX2_cycle_20 : decode cX2_cycle 20 = .ok (.ifCond .ne 15, 3) := by decide +kernel
theorem dX2_cycle_23 : decode cX2_cycle 23 = .ok (.aload_n 0, 1) := by decide +kernel
theorem dX2_cycle_24 : decode cX2_cycle 24 = .ok (.iload_n 1, 1) := by decide +kernel
theorem dX2_cycle_25 : decode cX2_cycle 25 = .ok (.iload_n 3, 1) := by decide +kernel
theorem dX2_cycle_26 : decode cX2_cycle 26 = .ok (.iload_n 2, 1) := by decide +kernel
theorem dX2_cycle_27 : decode cX2_cycle 27 = .ok (.invokevirtual 56, 3) := by decide +kernel
theorem dX2_cycle_30 : decode cX2_cycle 30 = .ok (.ifCond .eq 5, 3) := by decide +kernel
theorem dX2_cycle_33 : decode cX2_cycle 33 = .ok (.iload_n 3, 1) := by decide +kernel
theorem dX2_cycle_34 : decode cX2_cycle 34 = .ok (.ireturn, 1) := by decide +kernel
theorem dX2_cycle_35 : decode cX2_cycle 35 = .ok (.iinc 3 1, 3) := by decide +kernel
theorem dX2_cycle_38 : decode cX2_cycle 38 = .ok (.goto (-30), 3) := by decide +kernel
theorem dX2_cycle_41 : decode cX2_cycle 41 = .ok (.iconst 2, 1) := by decide +kernel
theorem dX2_cycle_42 : decode cX2_cycle 42 = .ok (.iload_n 2, 1) := by decide +kernel
theorem dX2_cycle_43 : decode cX2_cycle 43 = .ok (.imul, 1) := by decide +kernel
theorem dX2_cycle_44 : decode cX2_cycle 44 = .ok (.ireturn, 1) := by decide +kernel
set_option maxRecDepth 20000 in
theorem ggX2_untilChange_X2_product : GoodIn wsX2_untilChange wsX2_product := goodIn_r _ [6, 7, 8, 18, 19, 20, 21, 22, 23, 24, 25, 26] (by decide +kernel) (by decide +kernel)
set_option maxRecDepth 20000 in
theorem gX2_untilChange_X2_product : GoodIn wsX2_untilChange (wsV RX2 49 RX2 yX2_product wsX2_product) := goodIn_app (goodIn_of _ (by decide +kernel)) ggX2_untilChange_X2_product
set_option maxRecDepth 20000 in
theorem ggX2_untilChange_X2_changes : GoodIn wsX2_untilChange wsX2_changes := goodIn_r _ [12, 13, 14, 15, 5, 16, 7, 8, 17, 18, 19, 20, 21, 22, 23, 24, 25, 26] (by decide +kernel) (by decide +kernel)
set_option maxRecDepth 20000 in
theorem gX2_untilChange_X2_changes : GoodIn wsX2_untilChange (wsV RX2 53 RX2 yX2_changes wsX2_changes) := goodIn_app (goodIn_of _ (by decide +kernel)) ggX2_untilChange_X2_changes
theorem dX2_untilChange_0 : decode cX2_untilChange 0 = .ok (.aload_n 0, 1) := by decide +kernel
theorem dX2_untilChange_1 : decode cX2_untilChange 1 = .ok (.iload_n 1, 1) := by decide +kernel
theorem dX2_untilChange_2 : decode cX2_untilChange 2 = .ok (.invokevirtual 49, 3) := by decide +kernel
theorem dX2_untilChange_5 : decode cX2_untilChange 5 = .ok (.istore_n 2, 1) := by decide +kernel
theorem dX2_untilChange_6 : decode cX2_untilChange 6 = .ok (.iconst 1, 1) := by decide +kernel
theorem dX2_untilChange_7 : decode cX2_untilChange 7 = .ok (.istore_n 3, 1) := by decide +kernel
theorem dX2_untilChange_8 : decode cX2_untilChange 8 = .ok (.iload_n 3, 1) := by decide +kernel
theorem dX2_untilChange_9 : decode cX2_untilChange 9 = .ok (.iload_n 2, 1) := by decide +kernel
theorem dX2_untilChange_10 : decode cX2_untilChange 10 = .ok (.if_icmp .gt 25, 3) := by decide +kernel
theorem dX2_untilChange_13 : decode cX2_untilChange 13 = .ok (.aload_n 0, 1) := by decide +kernel
theorem dX2_untilChange_14 : decode cX2_untilChange 14 = .ok (.iload_n 1, 1) := by decide +kernel
theorem dX2_untilChange_15 : decode cX2_untilChange 15 = .ok (.aload_n 0, 1) := by decide +kernel
theorem dX2_untilChange_16 : decode cX2_untilChange 16 = .ok (.getfield 59, 3) := by decide +kernel
theorem dX2_untilChange_19 : decode cX2_untilChange 19 = .ok (.iload_n 3, 1) := by decide +kernel
theorem dX2_untilChange_20 : decode cX2_untilChange 20 = .ok (.iadd, 1) := by decide +kernel
theorem dX2_untilChange_21 : decode cX2_untilChange 21 = .ok (.invokevirtual 53, 3) := by decide +kernel
theorem dX2_untilChange_24 : decode cX2_untilChange 24 = .ok (.ifCond .eq 5, 3) := by decide +kernel
theorem dX2_untilChange_27 : decode cX2_untilChange 27 = .ok (.iload_n 3, 1) := by decide +kernel
theorem dX2_untilChange_28 : decode cX2_untilChange 28 = .ok (.ireturn, 1) := by decide +kernel
theorem dX2_untilChange_29 : decode cX2_untilChange 29 = .ok (.iinc 3 1, 3) := by decide +kernel
theorem dX2_untilChange_32 : decode cX2_untilChange 32 = .ok (.goto (-24), 3) := by decide +kernel
theorem dX2_untilChange_35 : decode cX2_untilChange 35 = .ok (.iconst (-1), 1) := by decide +kernel
theorem dX2_untilChange_36 : decode cX2_untilChange 36 = .ok (.ireturn, 1) := by decide +kernel
set_option maxRecDepth 20000 in
theorem ggX2_addLamp_X2_no : GoodIn wsX2_addLamp wsX2_no := goodIn_r _ [8, 1, 9, 10, 11, 12, 13, 14, 15, 16, 17] (by decide +kernel) (by decide +kernel)
set_option maxRecDepth 20000 in
theorem gX2_addLamp_X2_no : GoodIn wsX2_addLamp (wsV RX2 62 RX2 yX2_no wsX2_no) := goodIn_app (goodIn_of _ (by decide +kernel)) ggX2_addLamp_X2_no
theorem dX2_addLamp_0 : decode cX2_addLamp 0 = .ok (.aload_n 0, 1) := by decide +kernel
theorem dX2_addLamp_1 : decode cX2_addLamp 1 = .ok (.iconst 0, 1) := by decide +kernel
theorem dX2_addLamp_2 : decode cX2_addLamp 2 = .ok (.putfield 26, 3) := by decide +kernel
theorem dX2_addLamp_5 : decode cX2_addLamp 5 = .ok (.aload_n 0, 1) := by decide +kernel
theorem dX2_addLamp_6 : decode cX2_addLamp 6 = .ok (.getfield 30, 3) := by decide +kernel
theorem dX2_addLamp_9 : decode cX2_addLamp 9 = .ok (.bipush 8, 2) := by decide +kernel
theorem dX2_addLamp_11 : decode cX2_addLamp 11 = .ok (.if_icmp .ne 9, 3) := by decide +kernel
theorem dX2_addLamp_14 : decode cX2_addLamp 14 = .ok (.aload_n 0, 1) := by decide +kernel
theorem dX2_addLamp_15 : decode cX2_addLamp 15 = .ok (.iconst 1, 1) := by decide +kernel
theorem dX2_addLamp_16 : decode cX2_addLamp 16 = .ok (.invokevirtual 62, 3) := by decide +kernel
theorem dX2_addLamp_19 : decode cX2_addLamp 19 = .ok (.ireturn, 1) := by decide +kernel
theorem dX2_addLamp_20 : decode cX2_addLamp 20 = .ok (.aload_n 0, 1) := by decide +kernel
theorem dX2_addLamp_21 : decode cX2_addLamp 21 = .ok (.getfield 9, 3) := by decide +kernel
theorem dX2_addLamp_24 : decode cX2_addLamp 24 = .ok (.aload_n 0, 1) := by decide +kernel
theorem dX2_addLamp_25 : decode cX2_addLamp 25 = .ok (.getfield 30, 3) := by decide +kernel
theorem dX2_addLamp_28 : decode cX2_addLamp 28 = .ok (.iload_n 1, 1) := by decide +kernel
theorem dX2_addLamp_29 : decode cX2_addLamp 29 = .ok (.bastore, 1) := by decide +kernel
theorem dX2_addLamp_30 : decode cX2_addLamp 30 = .ok (.aload_n 0, 1) := by decide +kernel
theorem dX2_addLamp_31 : decode cX2_addLamp 31 = .ok (.dup, 1) := by decide +kernel
theorem dX2_addLamp_32 : decode cX2_addLamp 32 = .ok (.getfield 30, 3) := by decide +kernel
theorem dX2_addLamp_35 : decode cX2_addLamp 35 = .ok (.iconst 1, 1) := by decide +kernel
theorem dX2_addLamp_36 : decode cX2_addLamp 36 = .ok (.iadd, 1) := by decide +kernel
theorem dX2_addLamp_37 : decode cX2_addLamp 37 = .ok (.putfield 30, 3) := by decide +kernel
theorem dX2_addLamp_40 : decode cX2_addLamp 40 = .ok (.aload_n 0, 1) := by decide +kernel
theorem dX2_addLamp_41 : decode cX2_addLamp 41 = .ok (.getfield 30, 3) := by decide +kernel
theorem dX2_addLamp_44 : decode cX2_addLamp 44 = .ok (.iconst 1, 1) := by decide +kernel
theorem dX2_addLamp_45 : decode cX2_addLamp 45 = .ok (.isub, 1) := by decide +kernel
theorem dX2_addLamp_46 : decode cX2_addLamp 46 = .ok (.ireturn, 1) := by decide +kernel
set_option maxRecDepth 20000 in
theorem ggX2_addBeat_X2_isLamp : GoodIn wsX2_addBeat wsX2_isLamp := goodIn_r _ [9, 10, 11, 12, 8, 13, 21, 22, 23, 24, 25, 26, 27, 28, 29] (by decide +kernel) (by decide +kernel)
set_option maxRecDepth 20000 in
theorem gX2_addBeat_X2_isLamp : GoodIn wsX2_addBeat (wsV RX2 37 RX2 yX2_isLamp wsX2_isLamp) := goodIn_app (goodIn_of _ (by decide +kernel)) ggX2_addBeat_X2_isLamp
set_option maxRecDepth 20000 in
theorem ggX2_addBeat_X2_no : GoodIn wsX2_addBeat wsX2_no := goodIn_r _ [17, 1, 21, 22, 23, 24, 25, 26, 27, 28, 29] (by decide +kernel) (by decide +kernel)
set_option maxRecDepth 20000 in
theorem gX2_addBeat_X2_no : GoodIn wsX2_addBeat (wsV RX2 62 RX2 yX2_no wsX2_no) := goodIn_app (goodIn_of _ (by decide +kernel)) ggX2_addBeat_X2_no
set_option maxRecDepth 20000 in
theorem ggX2_addBeat_X2_isPrime : GoodIn wsX2_addBeat wsX2_isPrime := goodIn_r _ [20] (by decide +kernel) (by decide +kernel)
set_option maxRecDepth 20000 in
theorem gX2_addBeat_X2_isPrime : GoodIn wsX2_addBeat (va_wsS RX2 65 yX2_isPrime wsX2_isPrime) := goodIn_app (goodIn_of _ (by decide +kernel)) ggX2_addBeat_X2_isPrime
set_option maxRecDepth 20000 in
theorem ggX2_addBeat_X2_isIn : GoodIn wsX2_addBeat wsX2_isIn := goodIn_r _ [13] (by decide +kernel) (by decide +kernel)
set_option maxRecDepth 20000 in
theorem gX2_addBeat_X2_isIn : GoodIn wsX2_addBeat (va_wsS RX2 33 yX2_isIn wsX2_isIn) := goodIn_app (goodIn_of _ (by decide +kernel)) ggX2_addBeat_X2_isIn
theorem dX2_addBeat_0 : decode cX2_addBeat 0 = .ok (.aload_n 0, 1) := by decide +kernel
theorem dX2_addBeat_1 : decode cX2_addBeat 1 = .ok (.iconst 0, 1) := by decide +kernel
theorem dX2_addBeat_2 : decode cX2_addBeat 2 = .ok (.putfield 26, 3) := by decide +kernel
theorem dX2_addBeat_5 : decode cX2_addBeat 5 = .ok (.aload_n 0, 1) := by decide +kernel
theorem dX2_addBeat_6 : decode cX2_addBeat 6 = .ok (.iload_n 1, 1) := by decide +kernel
theorem dX2_addBeat_7 : decode cX2_addBeat 7 = .ok (.invokevirtual 37, 3) := by decide +kernel
theorem dX2_addBeat_10 : decode cX2_addBeat 10 = .ok (.ifCond .ne 9, 3) := by decide +kernel
theorem dX2_addBeat_13 : decode cX2_addBeat 13 = .ok (.aload_n 0, 1) := by decide +kernel
theorem dX2_addBeat_14 : decode cX2_addBeat 14 = .ok (.iconst 1, 1) := by decide +kernel
theorem dX2_addBeat_15 : decode cX2_addBeat 15 = .ok (.invokevirtual 62, 3) := by decide +kernel
theorem dX2_addBeat_18 : decode cX2_addBeat 18 = .ok (.ireturn, 1) := by decide +kernel
theorem dX2_addBeat_19 : decode cX2_addBeat 19 = .ok (.iload_n 2, 1) := by decide +kernel
theorem dX2_addBeat_20 : decode cX2_addBeat 20 = .ok (.invokestatic 65, 3) := by decide +kernel
theorem dX2_addBeat_23 : decode cX2_addBeat 23 = .ok (.ifCond .eq 14, 3) := by decide +kernel
theorem dX2_addBeat_26 : decode cX2_addBeat 26 = .ok (.iload_n 3, 1) := by decide +kernel
theorem dX2_addBeat_27 : decode cX2_addBeat 27 = .ok (.iconst 0, 1) := by decide +kernel
theorem dX2_addBeat_28 : decode cX2_addBeat 28 = .ok (.iload_n 2, 1) := by decide +kernel
theorem dX2_addBeat_29 : decode cX2_addBeat 29 = .ok (.iconst 1, 1) := by decide +kernel
theorem dX2_addBeat_30 : decode cX2_addBeat 30 = .ok (.isub, 1) := by decide +kernel
theorem dX2_addBeat_31 : decode cX2_addBeat 31 = .ok (.invokestatic 33, 3) := by decide +kernel
theorem dX2_addBeat_34 : decode cX2_addBeat 34 = .ok (.ifCond .ne 9, 3) := by decide +kernel
theorem dX2_addBeat_37 : decode cX2_addBeat 37 = .ok (.aload_n 0, 1) := by decide +kernel
theorem dX2_addBeat_38 : decode cX2_addBeat 38 = .ok (.iconst 2, 1) := by decide +kernel
theorem dX2_addBeat_39 : decode cX2_addBeat 39 = .ok (.invokevirtual 62, 3) := by decide +kernel
theorem dX2_addBeat_42 : decode cX2_addBeat 42 = .ok (.ireturn, 1) := by decide +kernel
theorem dX2_addBeat_43 : decode cX2_addBeat 43 = .ok (.aload_n 0, 1) := by decide +kernel
theorem dX2_addBeat_44 : decode cX2_addBeat 44 = .ok (.getfield 16, 3) := by decide +kernel
theorem dX2_addBeat_47 : decode cX2_addBeat 47 = .ok (.iload_n 1, 1) := by decide +kernel
theorem dX2_addBeat_48 : decode cX2_addBeat 48 = .ok (.iaload, 1) := by decide +kernel
theorem dX2_addBeat_49 : decode cX2_addBeat 49 = .ok (.iconst 4, 1) := by decide +kernel
theorem dX2_addBeat_50 : decode cX2_addBeat 50 = .ok (.if_icmp .ne 9, 3) := by decide +kernel
theorem dX2_addBeat_53 : decode cX2_addBeat 53 = .ok (.aload_n 0, 1) := by decide +kernel
theorem dX2_addBeat_54 : decode cX2_addBeat 54 = .ok (.iconst 3, 1) := by decide +kernel
theorem dX2_addBeat_55 : decode cX2_addBeat 55 = .ok (.invokevirtual 62, 3) := by decide +kernel
theorem dX2_addBeat_58 : decode cX2_addBeat 58 = .ok (.ireturn, 1) := by decide +kernel
theorem dX2_addBeat_59 : decode cX2_addBeat 59 = .ok (.iconst 4, 1) := by decide +kernel
theorem dX2_addBeat_60 : decode cX2_addBeat 60 = .ok (.iload_n 1, 1) := by decide +kernel
theorem dX2_addBeat_61 : decode cX2_addBeat 61 = .ok (.imul, 1) := by decide +kernel
theorem dX2_addBeat_62 : decode cX2_addBeat 62 = .ok (.aload_n 0, 1) := by decide +kernel
theorem dX2_addBeat_63 : decode cX2_addBeat 63 = .ok (.getfield 16, 3) := by decide +kernel
theorem dX2_addBeat_66 : decode cX2_addBeat 66 = .ok (.iload_n 1, 1) := by decide +kernel
theorem dX2_addBeat_67 : decode cX2_addBeat 67 = .ok (.iaload, 1) := by decide +kernel
theorem dX2_addBeat_68 : decode cX2_addBeat 68 = .ok (.iadd, 1) := by decide +kernel
theorem dX2_addBeat_69 : decode cX2_addBeat 69 = .ok (.istore 4, 2) := by decide +kernel
theorem dX2_addBeat_71 : decode cX2_addBeat 71 = .ok (.aload_n 0, 1) := by decide +kernel
theorem dX2_addBeat_72 : decode cX2_addBeat 72 = .ok (.getfield 20, 3) := by decide +kernel
theorem dX2_addBeat_75 : decode cX2_addBeat 75 = .ok (.iload 4, 2) := by decide +kernel
theorem dX2_addBeat_77 : decode cX2_addBeat 77 = .ok (.iload_n 2, 1) := by decide +kernel
theorem dX2_addBeat_78 : decode cX2_addBeat 78 = .ok (.iastore, 1) := by decide +kernel
theorem dX2_addBeat_79 : decode cX2_addBeat 79 = .ok (.aload_n 0, 1) := by decide +kernel
theorem dX2_addBeat_80 : decode cX2_addBeat 80 = .ok (.getfield 23, 3) := by decide +kernel
theorem dX2_addBeat_83 : decode cX2_addBeat 83 = .ok (.iload 4, 2) := by decide +kernel
theorem dX2_addBeat_85 : decode cX2_addBeat 85 = .ok (.iload_n 3, 1) := by decide +kernel
theorem dX2_addBeat_86 : decode cX2_addBeat 86 = .ok (.iastore, 1) := by decide +kernel
theorem dX2_addBeat_87 : decode cX2_addBeat 87 = .ok (.aload_n 0, 1) := by decide +kernel
theorem dX2_addBeat_88 : decode cX2_addBeat 88 = .ok (.getfield 16, 3) := by decide +kernel
theorem dX2_addBeat_91 : decode cX2_addBeat 91 = .ok (.iload_n 1, 1) := by decide +kernel
theorem dX2_addBeat_92 : decode cX2_addBeat 92 = .ok (.dup2, 1) := by decide +kernel
theorem dX2_addBeat_93 : decode cX2_addBeat 93 = .ok (.iaload, 1) := by decide +kernel
theorem dX2_addBeat_94 : decode cX2_addBeat 94 = .ok (.iconst 1, 1) := by decide +kernel
theorem dX2_addBeat_95 : decode cX2_addBeat 95 = .ok (.iadd, 1) := by decide +kernel
theorem dX2_addBeat_96 : decode cX2_addBeat 96 = .ok (.iastore, 1) := by decide +kernel
theorem dX2_addBeat_97 : decode cX2_addBeat 97 = .ok (.aload_n 0, 1) := by decide +kernel
theorem dX2_addBeat_98 : decode cX2_addBeat 98 = .ok (.getfield 16, 3) := by decide +kernel
theorem dX2_addBeat_101 : decode cX2_addBeat 101 = .ok (.iload_n 1, 1) := by decide +kernel
theorem dX2_addBeat_102 : decode cX2_addBeat 102 = .ok (.iaload, 1) := by decide +kernel
theorem dX2_addBeat_103 : decode cX2_addBeat 103 = .ok (.iconst 1, 1) := by decide +kernel
theorem dX2_addBeat_104 : decode cX2_addBeat 104 = .ok (.isub, 1) := by decide +kernel
theorem dX2_addBeat_105 : decode cX2_addBeat 105 = .ok (.ireturn, 1) := by decide +kernel
set_option maxRecDepth 20000 in
theorem ggX2_moveBeat_X2_isBeat : GoodIn wsX2_moveBeat wsX2_isBeat := goodIn_r _ [8, 9, 10, 11, 12, 7, 13, 14, 15, 16, 17, 22, 23, 24, 25, 26, 27, 28, 29, 30] (by decide +kernel) (by decide +kernel)
set_option maxRecDepth 20000 in
theorem gX2_moveBeat_X2_isBeat : GoodIn wsX2_moveBeat (wsV RX2 68 RX2 yX2_isBeat wsX2_isBeat) := goodIn_app (goodIn_of _ (by decide +kernel)) ggX2_moveBeat_X2_isBeat
set_option maxRecDepth 20000 in
theorem ggX2_moveBeat_X2_no : GoodIn wsX2_moveBeat wsX2_no := goodIn_r _ [21, 1, 22, 23, 24, 25, 26, 27, 28, 29, 30] (by decide +kernel) (by decide +kernel)
set_option maxRecDepth 20000 in
theorem gX2_moveBeat_X2_no : GoodIn wsX2_moveBeat (wsV RX2 62 RX2 yX2_no wsX2_no) := goodIn_app (goodIn_of _ (by decide +kernel)) ggX2_moveBeat_X2_no
set_option maxRecDepth 20000 in
theorem ggX2_moveBeat_X2_isIn : GoodIn wsX2_moveBeat wsX2_isIn := goodIn_r _ [17] (by decide +kernel) (by decide +kernel)
set_option maxRecDepth 20000 in
theorem gX2_moveBeat_X2_isIn : GoodIn wsX2_moveBeat (va_wsS RX2 33 yX2_isIn wsX2_isIn) := goodIn_app (goodIn_of _ (by decide +kernel)) ggX2_moveBeat_X2_isIn
theorem dX2_moveBeat_0 : decode cX2_moveBeat 0 = .ok (.aload_n 0, 1) := by decide +kernel
theorem dX2_moveBeat_1 : decode cX2_moveBeat 1 = .ok (.iconst 0, 1) := by decide +kernel
theorem dX2_moveBeat_2 : decode cX2_moveBeat 2 = .ok (.putfield 26, 3) := by decide +kernel
theorem dX2_moveBeat_5 : decode cX2_moveBeat 5 = .ok (.aload_n 0, 1) := by decide +kernel
theorem dX2_moveBeat_6 : decode cX2_moveBeat 6 = .ok (.iload_n 1, 1) := by decide +kernel
theorem dX2_moveBeat_7 : decode cX2_moveBeat 7 = .ok (.iload_n 2, 1) := by decide +kernel
theorem dX2_moveBeat_8 : decode cX2_moveBeat 8 = .ok (.invokevirtual 68, 3) := by decide +kernel
theorem dX2_moveBeat_11 : decode cX2_moveBeat 11 = .ok (.ifCond .ne 9, 3) := by decide +kernel
theorem dX2_moveBeat_14 : decode cX2_moveBeat 14 = .ok (.aload_n 0, 1) := by decide +kernel
theorem dX2_moveBeat_15 : decode cX2_moveBeat 15 = .ok (.iconst 1, 1) := by decide +kernel
theorem dX2_moveBeat_16 : decode cX2_moveBeat 16 = .ok (.invokevirtual 62, 3) := by decide +kernel
theorem dX2_moveBeat_19 : decode cX2_moveBeat 19 = .ok (.ireturn, 1) := by decide +kernel
theorem dX2_moveBeat_20 : decode cX2_moveBeat 20 = .ok (.iconst 4, 1) := by decide +kernel
theorem dX2_moveBeat_21 : decode cX2_moveBeat 21 = .ok (.iload_n 1, 1) := by decide +kernel
theorem dX2_moveBeat_22 : decode cX2_moveBeat 22 = .ok (.imul, 1) := by decide +kernel
theorem dX2_moveBeat_23 : decode cX2_moveBeat 23 = .ok (.iload_n 2, 1) := by decide +kernel
theorem dX2_moveBeat_24 : decode cX2_moveBeat 24 = .ok (.iadd, 1) := by decide +kernel
theorem dX2_moveBeat_25 : decode cX2_moveBeat 25 = .ok (.istore 4, 2) := by decide +kernel
theorem dX2_moveBeat_27 : decode cX2_moveBeat 27 = .ok (.iload_n 3, 1) := by decide +kernel
theorem dX2_moveBeat_28 : decode cX2_moveBeat 28 = .ok (.iconst 0, 1) := by decide +kernel
theorem dX2_moveBeat_29 : decode cX2_moveBeat 29 = .ok (.aload_n 0, 1) := by decide +kernel
theorem dX2_moveBeat_30 : decode cX2_moveBeat 30 = .ok (.getfield 20, 3) := by decide +kernel
theorem dX2_moveBeat_33 : decode cX2_moveBeat 33 = .ok (.iload 4, 2) := by decide +kernel
theorem dX2_moveBeat_35 : decode cX2_moveBeat 35 = .ok (.iaload, 1) := by decide +kernel
theorem dX2_moveBeat_36 : decode cX2_moveBeat 36 = .ok (.iconst 1, 1) := by decide +kernel
theorem dX2_moveBeat_37 : decode cX2_moveBeat 37 = .ok (.isub, 1) := by decide +kernel
theorem dX2_moveBeat_38 : decode cX2_moveBeat 38 = .ok (.invokestatic 33, 3) := by decide +kernel
theorem dX2_moveBeat_41 : decode cX2_moveBeat 41 = .ok (.ifCond .ne 9, 3) := by decide +kernel
theorem dX2_moveBeat_44 : decode cX2_moveBeat 44 = .ok (.aload_n 0, 1) := by decide +kernel
theorem dX2_moveBeat_45 : decode cX2_moveBeat 45 = .ok (.iconst 2, 1) := by decide +kernel
theorem dX2_moveBeat_46 : decode cX2_moveBeat 46 = .ok (.invokevirtual 62, 3) := by decide +kernel
theorem dX2_moveBeat_49 : decode cX2_moveBeat 49 = .ok (.ireturn, 1) := by decide +kernel
theorem dX2_moveBeat_50 : decode cX2_moveBeat 50 = .ok (.aload_n 0, 1) := by decide +kernel
theorem dX2_moveBeat_51 : decode cX2_moveBeat 51 = .ok (.getfield 23, 3) := by decide +kernel
theorem dX2_moveBeat_54 : decode cX2_moveBeat 54 = .ok (.iload 4, 2) := by decide +kernel
theorem dX2_moveBeat_56 : decode cX2_moveBeat 56 = .ok (.iaload, 1) := by decide +kernel
theorem dX2_moveBeat_57 : decode cX2_moveBeat 57 = .ok (.istore 5, 2) := by decide +kernel
theorem dX2_moveBeat_59 : decode cX2_moveBeat 59 = .ok (.aload_n 0, 1) := by decide +kernel
theorem dX2_moveBeat_60 : decode cX2_moveBeat 60 = .ok (.getfield 23, 3) := by decide +kernel
theorem dX2_moveBeat_63 : decode cX2_moveBeat 63 = .ok (.iload 4, 2) := by decide +kernel
theorem dX2_moveBeat_65 : decode cX2_moveBeat 65 = .ok (.iload_n 3, 1) := by decide +kernel
theorem dX2_moveBeat_66 : decode cX2_moveBeat 66 = .ok (.iastore, 1) := by decide +kernel
theorem dX2_moveBeat_67 : decode cX2_moveBeat 67 = .ok (.iload 5, 2) := by decide +kernel
theorem dX2_moveBeat_69 : decode cX2_moveBeat 69 = .ok (.ireturn, 1) := by decide +kernel
set_option maxRecDepth 20000 in
theorem ggX2_takeBeat_X2_isBeat : GoodIn wsX2_takeBeat wsX2_isBeat := goodIn_r _ [9, 2, 10, 11, 12, 8, 13, 14, 15, 16, 17, 22, 23, 24, 25, 26, 27, 28, 29, 30] (by decide +kernel) (by decide +kernel)
set_option maxRecDepth 20000 in
theorem gX2_takeBeat_X2_isBeat : GoodIn wsX2_takeBeat (wsV RX2 68 RX2 yX2_isBeat wsX2_isBeat) := goodIn_app (goodIn_of _ (by decide +kernel)) ggX2_takeBeat_X2_isBeat
set_option maxRecDepth 20000 in
theorem ggX2_takeBeat_X2_no : GoodIn wsX2_takeBeat wsX2_no := goodIn_r _ [21, 1, 22, 23, 24, 25, 26, 27, 28, 29, 30] (by decide +kernel) (by decide +kernel)
set_option maxRecDepth 20000 in
theorem gX2_takeBeat_X2_no : GoodIn wsX2_takeBeat (wsV RX2 62 RX2 yX2_no wsX2_no) := goodIn_app (goodIn_of _ (by decide +kernel)) ggX2_takeBeat_X2_no
theorem dX2_takeBeat_0 : decode cX2_takeBeat 0 = .ok (.aload_n 0, 1) := by decide +kernel
theorem dX2_takeBeat_1 : decode cX2_takeBeat 1 = .ok (.iconst 0, 1) := by decide +kernel
theorem dX2_takeBeat_2 : decode cX2_takeBeat 2 = .ok (.putfield 26, 3) := by decide +kernel
theorem dX2_takeBeat_5 : decode cX2_takeBeat 5 = .ok (.aload_n 0, 1) := by decide +kernel
theorem dX2_takeBeat_6 : decode cX2_takeBeat 6 = .ok (.iload_n 1, 1) := by decide +kernel
theorem dX2_takeBeat_7 : decode cX2_takeBeat 7 = .ok (.iload_n 2, 1) := by decide +kernel
theorem dX2_takeBeat_8 : decode cX2_takeBeat 8 = .ok (.invokevirtual 68, 3) := by decide +kernel
theorem dX2_takeBeat_11 : decode cX2_takeBeat 11 = .ok (.ifCond .ne 9, 3) := by decide +kernel
theorem dX2_takeBeat_14 : decode cX2_takeBeat 14 = .ok (.aload_n 0, 1) := by decide +kernel
theorem dX2_takeBeat_15 : decode cX2_takeBeat 15 = .ok (.iconst 1, 1) := by decide +kernel
theorem dX2_takeBeat_16 : decode cX2_takeBeat 16 = .ok (.invokevirtual 62, 3) := by decide +kernel
theorem dX2_takeBeat_19 : decode cX2_takeBeat 19 = .ok (.ireturn, 1) := by decide +kernel
theorem dX2_takeBeat_20 : decode cX2_takeBeat 20 = .ok (.aload_n 0, 1) := by decide +kernel
theorem dX2_takeBeat_21 : decode cX2_takeBeat 21 = .ok (.getfield 16, 3) := by decide +kernel
theorem dX2_takeBeat_24 : decode cX2_takeBeat 24 = .ok (.iload_n 1, 1) := by decide +kernel
theorem dX2_takeBeat_25 : decode cX2_takeBeat 25 = .ok (.dup2, 1) := by decide +kernel
theorem dX2_takeBeat_26 : decode cX2_takeBeat 26 = .ok (.iaload, 1) := by decide +kernel
theorem dX2_takeBeat_27 : decode cX2_takeBeat 27 = .ok (.iconst 1, 1) := by decide +kernel
theorem dX2_takeBeat_28 : decode cX2_takeBeat 28 = .ok (.isub, 1) := by decide +kernel
theorem dX2_takeBeat_29 : decode cX2_takeBeat 29 = .ok (.iastore, 1) := by decide +kernel
theorem dX2_takeBeat_30 : decode cX2_takeBeat 30 = .ok (.iconst 4, 1) := by decide +kernel
theorem dX2_takeBeat_31 : decode cX2_takeBeat 31 = .ok (.iload_n 1, 1) := by decide +kernel
theorem dX2_takeBeat_32 : decode cX2_takeBeat 32 = .ok (.imul, 1) := by decide +kernel
theorem dX2_takeBeat_33 : decode cX2_takeBeat 33 = .ok (.iload_n 2, 1) := by decide +kernel
theorem dX2_takeBeat_34 : decode cX2_takeBeat 34 = .ok (.iadd, 1) := by decide +kernel
theorem dX2_takeBeat_35 : decode cX2_takeBeat 35 = .ok (.istore_n 3, 1) := by decide +kernel
theorem dX2_takeBeat_36 : decode cX2_takeBeat 36 = .ok (.iload_n 3, 1) := by decide +kernel
theorem dX2_takeBeat_37 : decode cX2_takeBeat 37 = .ok (.iconst 4, 1) := by decide +kernel
theorem dX2_takeBeat_38 : decode cX2_takeBeat 38 = .ok (.iload_n 1, 1) := by decide +kernel
theorem dX2_takeBeat_39 : decode cX2_takeBeat 39 = .ok (.imul, 1) := by decide +kernel
theorem dX2_takeBeat_40 : decode cX2_takeBeat 40 = .ok (.aload_n 0, 1) := by decide +kernel
theorem dX2_takeBeat_41 : decode cX2_takeBeat 41 = .ok (.getfield 16, 3) := by decide +kernel
theorem dX2_takeBeat_44 : decode cX2_takeBeat 44 = .ok (.iload_n 1, 1) := by decide +kernel
theorem dX2_takeBeat_45 : decode cX2_takeBeat 45 = .ok (.iaload, 1) := by decide +kernel
theorem dX2_takeBeat_46 : decode cX2_takeBeat 46 = .ok (.iadd, 1) := by decide +kernel
theorem dX2_takeBeat_47 : decode cX2_takeBeat 47 = .ok (.if_icmp .ge 37, 3) := by decide +kernel
theorem dX2_takeBeat_50 : decode cX2_takeBeat 50 = .ok (.aload_n 0, 1) := by decide +kernel
theorem dX2_takeBeat_51 : decode cX2_takeBeat 51 = .ok (.getfield 20, 3) := by decide +kernel
theorem dX2_takeBeat_54 : decode cX2_takeBeat 54 = .ok (.iload_n 3, 1) := by decide +kernel
theorem dX2_takeBeat_55 : decode cX2_takeBeat 55 = .ok (.aload_n 0, 1) := by decide +kernel
theorem dX2_takeBeat_56 : decode cX2_takeBeat 56 = .ok (.getfield 20, 3) := by decide +kernel
theorem dX2_takeBeat_59 : decode cX2_takeBeat 59 = .ok (.iload_n 3, 1) := by decide +kernel
theorem dX2_takeBeat_60 : decode cX2_takeBeat 60 = .ok (.iconst 1, 1) := by decide +kernel
theorem dX2_takeBeat_61 : decode cX2_takeBeat 61 = .ok (.iadd, 1) := by decide +kernel
theorem dX2_takeBeat_62 : decode cX2_takeBeat 62 = .ok (.iaload, 1) := by decide +kernel
theorem dX2_takeBeat_63 : decode cX2_takeBeat 63 = .ok (.iastore, 1) := by decide +kernel
theorem dX2_takeBeat_64 : decode cX2_takeBeat 64 = .ok (.aload_n 0, 1) := by decide +kernel
theorem dX2_takeBeat_65 : decode cX2_takeBeat 65 = .ok (.getfield 23, 3) := by decide +kernel
theorem dX2_takeBeat_68 : decode cX2_takeBeat 68 = .ok (.iload_n 3, 1) := by decide +kernel
theorem dX2_takeBeat_69 : decode cX2_takeBeat 69 = .ok (.aload_n 0, 1) := by decide +kernel
theorem dX2_takeBeat_70 : decode cX2_takeBeat 70 = .ok (.getfield 23, 3) := by decide +kernel
theorem dX2_takeBeat_73 : decode cX2_takeBeat 73 = .ok (.iload_n 3, 1) := by decide +kernel
theorem dX2_takeBeat_74 : decode cX2_takeBeat 74 = .ok (.iconst 1, 1) := by decide +kernel
theorem dX2_takeBeat_75 : decode cX2_takeBeat 75 = .ok (.iadd, 1) := by decide +kernel
theorem dX2_takeBeat_76 : decode cX2_takeBeat 76 = .ok (.iaload, 1) := by decide +kernel
theorem dX2_takeBeat_77 : decode cX2_takeBeat 77 = .ok (.iastore, 1) := by decide +kernel
theorem dX2_takeBeat_78 : decode cX2_takeBeat 78 = .ok (.iinc 3 1, 3) := by decide +kernel
theorem dX2_takeBeat_81 : decode cX2_takeBeat 81 = .ok (.goto (-45), 3) := by decide +kernel
theorem dX2_takeBeat_84 : decode cX2_takeBeat 84 = .ok (.aload_n 0, 1) := by decide +kernel
theorem dX2_takeBeat_85 : decode cX2_takeBeat 85 = .ok (.getfield 16, 3) := by decide +kernel
theorem dX2_takeBeat_88 : decode cX2_takeBeat 88 = .ok (.iload_n 1, 1) := by decide +kernel
theorem dX2_takeBeat_89 : decode cX2_takeBeat 89 = .ok (.iaload, 1) := by decide +kernel
theorem dX2_takeBeat_90 : decode cX2_takeBeat 90 = .ok (.ireturn, 1) := by decide +kernel
set_option maxRecDepth 20000 in
theorem ggX2_turnShutter_X2_isLamp : GoodIn wsX2_turnShutter wsX2_isLamp := goodIn_r _ [7, 8, 9, 10, 6, 11, 16, 17, 18, 19, 20, 21, 22, 23, 24] (by decide +kernel) (by decide +kernel)
set_option maxRecDepth 20000 in
theorem gX2_turnShutter_X2_isLamp : GoodIn wsX2_turnShutter (wsV RX2 37 RX2 yX2_isLamp wsX2_isLamp) := goodIn_app (goodIn_of _ (by decide +kernel)) ggX2_turnShutter_X2_isLamp
set_option maxRecDepth 20000 in
theorem ggX2_turnShutter_X2_isNot : GoodIn wsX2_turnShutter wsX2_isNot := goodIn_r _ [15, 1, 16, 17, 18, 19, 20, 21, 22, 23, 24] (by decide +kernel) (by decide +kernel)
set_option maxRecDepth 20000 in
theorem gX2_turnShutter_X2_isNot : GoodIn wsX2_turnShutter (wsV RX2 71 RX2 yX2_isNot wsX2_isNot) := goodIn_app (goodIn_of _ (by decide +kernel)) ggX2_turnShutter_X2_isNot
theorem dX2_turnShutter_0 : decode cX2_turnShutter 0 = .ok (.aload_n 0, 1) := by decide +kernel
theorem dX2_turnShutter_1 : decode cX2_turnShutter 1 = .ok (.iconst 0, 1) := by decide +kernel
theorem dX2_turnShutter_2 : decode cX2_turnShutter 2 = .ok (.putfield 26, 3) := by decide +kernel
theorem dX2_turnShutter_5 : decode cX2_turnShutter 5 = .ok (.aload_n 0, 1) := by decide +kernel
theorem dX2_turnShutter_6 : decode cX2_turnShutter 6 = .ok (.iload_n 1, 1) := by decide +kernel
theorem dX2_turnShutter_7 : decode cX2_turnShutter 7 = .ok (.invokevirtual 37, 3) := by decide +kernel
theorem dX2_turnShutter_10 : decode cX2_turnShutter 10 = .ok (.ifCond .ne 9, 3) := by decide +kernel
theorem dX2_turnShutter_13 : decode cX2_turnShutter 13 = .ok (.aload_n 0, 1) := by decide +kernel
theorem dX2_turnShutter_14 : decode cX2_turnShutter 14 = .ok (.iconst 1, 1) := by decide +kernel
theorem dX2_turnShutter_15 : decode cX2_turnShutter 15 = .ok (.invokevirtual 71, 3) := by decide +kernel
theorem dX2_turnShutter_18 : decode cX2_turnShutter 18 = .ok (.ireturn, 1) := by decide +kernel
theorem dX2_turnShutter_19 : decode cX2_turnShutter 19 = .ok (.aload_n 0, 1) := by decide +kernel
theorem dX2_turnShutter_20 : decode cX2_turnShutter 20 = .ok (.getfield 13, 3) := by decide +kernel
theorem dX2_turnShutter_23 : decode cX2_turnShutter 23 = .ok (.iload_n 1, 1) := by decide +kernel
theorem dX2_turnShutter_24 : decode cX2_turnShutter 24 = .ok (.aload_n 0, 1) := by decide +kernel
theorem dX2_turnShutter_25 : decode cX2_turnShutter 25 = .ok (.getfield 13, 3) := by decide +kernel
theorem dX2_turnShutter_28 : decode cX2_turnShutter 28 = .ok (.iload_n 1, 1) := by decide +kernel
theorem dX2_turnShutter_29 : decode cX2_turnShutter 29 = .ok (.baload, 1) := by decide +kernel
theorem dX2_turnShutter_30 : decode cX2_turnShutter 30 = .ok (.ifCond .ne 7, 3) := by decide +kernel
theorem dX2_turnShutter_33 : decode cX2_turnShutter 33 = .ok (.iconst 1, 1) := by decide +kernel
theorem dX2_turnShutter_34 : decode cX2_turnShutter 34 = .ok (.goto 4, 3) := by decide +kernel
theorem dX2_turnShutter_37 : decode cX2_turnShutter 37 = .ok (.iconst 0, 1) := by decide +kernel
theorem dX2_turnShutter_38 : decode cX2_turnShutter 38 = .ok (.bastore, 1) := by decide +kernel
theorem dX2_turnShutter_39 : decode cX2_turnShutter 39 = .ok (.aload_n 0, 1) := by decide +kernel
theorem dX2_turnShutter_40 : decode cX2_turnShutter 40 = .ok (.getfield 13, 3) := by decide +kernel
theorem dX2_turnShutter_43 : decode cX2_turnShutter 43 = .ok (.iload_n 1, 1) := by decide +kernel
theorem dX2_turnShutter_44 : decode cX2_turnShutter 44 = .ok (.baload, 1) := by decide +kernel
theorem dX2_turnShutter_45 : decode cX2_turnShutter 45 = .ok (.ireturn, 1) := by decide +kernel
set_option maxRecDepth 20000 in
theorem ggX2_pass_X2_isIn : GoodIn wsX2_pass wsX2_isIn := goodIn_r _ [8] (by decide +kernel) (by decide +kernel)
set_option maxRecDepth 20000 in
theorem gX2_pass_X2_isIn : GoodIn wsX2_pass (va_wsS RX2 33 yX2_isIn wsX2_isIn) := goodIn_app (goodIn_of _ (by decide +kernel)) ggX2_pass_X2_isIn
set_option maxRecDepth 20000 in
theorem ggX2_pass_X2_no : GoodIn wsX2_pass wsX2_no := goodIn_r _ [12, 1, 24, 25, 26, 27, 28, 29, 30, 31, 32] (by decide +kernel) (by decide +kernel)
set_option maxRecDepth 20000 in
theorem gX2_pass_X2_no : GoodIn wsX2_pass (wsV RX2 62 RX2 yX2_no wsX2_no) := goodIn_app (goodIn_of _ (by decide +kernel)) ggX2_pass_X2_no
set_option maxRecDepth 20000 in
theorem ggX2_pass_X2_changes : GoodIn wsX2_pass wsX2_changes := goodIn_r _ [16, 17, 18, 19, 7, 20, 21, 22, 23, 24, 25, 26, 27, 28, 29, 30, 31, 32] (by decide +kernel) (by decide +kernel)
set_option maxRecDepth 20000 in
theorem gX2_pass_X2_changes : GoodIn wsX2_pass (wsV RX2 53 RX2 yX2_changes wsX2_changes) := goodIn_app (goodIn_of _ (by decide +kernel)) ggX2_pass_X2_changes
theorem dX2_pass_0 : decode cX2_pass 0 = .ok (.aload_n 0, 1) := by decide +kernel
theorem dX2_pass_1 : decode cX2_pass 1 = .ok (.iconst 0, 1) := by decide +kernel
theorem dX2_pass_2 : decode cX2_pass 2 = .ok (.putfield 26, 3) := by decide +kernel
theorem dX2_pass_5 : decode cX2_pass 5 = .ok (.iload_n 1, 1) := by decide +kernel
theorem dX2_pass_6 : decode cX2_pass 6 = .ok (.iconst 1, 1) := by decide +kernel
theorem dX2_pass_7 : decode cX2_pass 7 = .ok (.sipush 500, 3) := by decide +kernel
theorem dX2_pass_10 : decode cX2_pass 10 = .ok (.invokestatic 33, 3) := by decide +kernel
theorem dX2_pass_13 : decode cX2_pass 13 = .ok (.ifCond .ne 9, 3) := by decide +kernel
theorem dX2_pass_16 : decode cX2_pass 16 = .ok (.aload_n 0, 1) := by decide +kernel
theorem dX2_pass_17 : decode cX2_pass 17 = .ok (.iconst 1, 1) := by decide +kernel
theorem dX2_pass_18 : decode cX2_pass 18 = .ok (.invokevirtual 62, 3) := by decide +kernel
theorem dX2_pass_21 : decode cX2_pass 21 = .ok (.ireturn, 1) := by decide +kernel
theorem dX2_pass_22 : decode cX2_pass 22 = .ok (.aload_n 0, 1) := by decide +kernel
theorem dX2_pass_23 : decode cX2_pass 23 = .ok (.getfield 74, 3) := by decide +kernel
theorem dX2_pass_26 : decode cX2_pass 26 = .ok (.istore_n 2, 1) := by decide +kernel
theorem dX2_pass_27 : decode cX2_pass 27 = .ok (.iconst 0, 1) := by decide +kernel
theorem dX2_pass_28 : decode cX2_pass 28 = .ok (.istore_n 3, 1) := by decide +kernel
theorem dX2_pass_29 : decode cX2_pass 29 = .ok (.iload_n 3, 1) := by decide +kernel
theorem dX2_pass_30 : decode cX2_pass 30 = .ok (.iload_n 1, 1) := by decide +kernel
theorem dX2_pass_31 : decode cX2_pass 31 = .ok (.if_icmp .ge 64, 3) := by decide +kernel
theorem dX2_pass_34 : decode cX2_pass 34 = .ok (.aload_n 0, 1) := by decide +kernel
theorem dX2_pass_35 : decode cX2_pass 35 = .ok (.dup, 1) := by decide +kernel
theorem dX2_pass_36 : decode cX2_pass 36 = .ok (.getfield 59, 3) := by decide +kernel
theorem dX2_pass_39 : decode cX2_pass 39 = .ok (.iconst 1, 1) := by decide +kernel
theorem dX2_pass_40 : decode cX2_pass 40 = .ok (.iadd, 1) := by decide +kernel
theorem dX2_pass_41 : decode cX2_pass 41 = .ok (.putfield 59, 3) := by decide +kernel
theorem dX2_pass_44 : decode cX2_pass 44 = .ok (.iconst 0, 1) := by decide +kernel
theorem dX2_pass_45 : decode cX2_pass 45 = .ok (.istore 4, 2) := by decide +kernel
theorem dX2_pass_47 : decode cX2_pass 47 = .ok (.iload 4, 2) := by decide +kernel
theorem dX2_pass_49 : decode cX2_pass 49 = .ok (.aload_n 0, 1) := by decide +kernel
theorem dX2_pass_50 : decode cX2_pass 50 = .ok (.getfield 30, 3) := by decide +kernel
theorem dX2_pass_53 : decode cX2_pass 53 = .ok (.if_icmp .ge 36, 3) := by decide +kernel
theorem dX2_pass_56 : decode cX2_pass 56 = .ok (.aload_n 0, 1) := by decide +kernel
theorem dX2_pass_57 : decode cX2_pass 57 = .ok (.dup, 1) := by decide +kernel
theorem dX2_pass_58 : decode cX2_pass 58 = .ok (.getfield 74, 3) := by decide +kernel
theorem dX2_pass_61 : decode cX2_pass 61 = .ok (.aload_n 0, 1) := by decide +kernel
theorem dX2_pass_62 : decode cX2_pass 62 = .ok (.iload 4, 2) := by decide +kernel
theorem dX2_pass_64 : decode cX2_pass 64 = .ok (.aload_n 0, 1) := by decide +kernel
theorem dX2_pass_65 : decode cX2_pass 65 = .ok (.getfield 59, 3) := by decide +kernel
theorem dX2_pass_68 : decode cX2_pass 68 = .ok (.invokevirtual 53, 3) := by decide +kernel
theorem dX2_pass_71 : decode cX2_pass 71 = .ok (.ifCond .eq 7, 3) := by decide +kernel
theorem dX2_pass_74 : decode cX2_pass 74 = .ok (.iconst 1, 1) := by decide +kernel
theorem dX2_pass_75 : decode cX2_pass 75 = .ok (.goto 4, 3) := by decide +kernel
theorem dX2_pass_78 : decode cX2_pass 78 = .ok (.iconst 0, 1) := by decide +kernel
theorem dX2_pass_79 : decode cX2_pass 79 = .ok (.iadd, 1) := by decide +kernel
theorem dX2_pass_80 : decode cX2_pass 80 = .ok (.putfield 74, 3) := by decide +kernel
theorem dX2_pass_83 : decode cX2_pass 83 = .ok (.iinc 4 1, 3) := by decide +kernel
theorem dX2_pass_86 : decode cX2_pass 86 = .ok (.goto (-39), 3) := by decide +kernel
theorem dX2_pass_89 : decode cX2_pass 89 = .ok (.iinc 3 1, 3) := by decide +kernel
theorem dX2_pass_92 : decode cX2_pass 92 = .ok (.goto (-63), 3) := by decide +kernel
theorem dX2_pass_95 : decode cX2_pass 95 = .ok (.aload_n 0, 1) := by decide +kernel
theorem dX2_pass_96 : decode cX2_pass 96 = .ok (.getfield 74, 3) := by decide +kernel
theorem dX2_pass_99 : decode cX2_pass 99 = .ok (.iload_n 2, 1) := by decide +kernel
theorem dX2_pass_100 : decode cX2_pass 100 = .ok (.isub, 1) := by decide +kernel
theorem dX2_pass_101 : decode cX2_pass 101 = .ok (.ireturn, 1) := by decide +kernel
theorem dX2_lamps_0 : decode cX2_lamps 0 = .ok (.aload_n 0, 1) := by decide +kernel
theorem dX2_lamps_1 : decode cX2_lamps 1 = .ok (.iconst 0, 1) := by decide +kernel
theorem dX2_lamps_2 : decode cX2_lamps 2 = .ok (.putfield 26, 3) := by decide +kernel
theorem dX2_lamps_5 : decode cX2_lamps 5 = .ok (.aload_n 0, 1) := by decide +kernel
theorem dX2_lamps_6 : decode cX2_lamps 6 = .ok (.getfield 30, 3) := by decide +kernel
theorem dX2_lamps_9 : decode cX2_lamps 9 = .ok (.ireturn, 1) := by decide +kernel
theorem dX2_now_0 : decode cX2_now 0 = .ok (.aload_n 0, 1) := by decide +kernel
theorem dX2_now_1 : decode cX2_now 1 = .ok (.iconst 0, 1) := by decide +kernel
theorem dX2_now_2 : decode cX2_now 2 = .ok (.putfield 26, 3) := by decide +kernel
theorem dX2_now_5 : decode cX2_now 5 = .ok (.aload_n 0, 1) := by decide +kernel
theorem dX2_now_6 : decode cX2_now 6 = .ok (.getfield 59, 3) := by decide +kernel
theorem dX2_now_9 : decode cX2_now 9 = .ok (.ireturn, 1) := by decide +kernel
theorem dX2_changesSeen_0 : decode cX2_changesSeen 0 = .ok (.aload_n 0, 1) := by decide +kernel
theorem dX2_changesSeen_1 : decode cX2_changesSeen 1 = .ok (.iconst 0, 1) := by decide +kernel
theorem dX2_changesSeen_2 : decode cX2_changesSeen 2 = .ok (.putfield 26, 3) := by decide +kernel
theorem dX2_changesSeen_5 : decode cX2_changesSeen 5 = .ok (.aload_n 0, 1) := by decide +kernel
theorem dX2_changesSeen_6 : decode cX2_changesSeen 6 = .ok (.getfield 74, 3) := by decide +kernel
theorem dX2_changesSeen_9 : decode cX2_changesSeen 9 = .ok (.ireturn, 1) := by decide +kernel
set_option maxRecDepth 20000 in
theorem ggX2_beatsOf_X2_isLamp : GoodIn wsX2_beatsOf wsX2_isLamp := goodIn_r _ [7, 8, 9, 10, 6, 11, 16, 17, 18, 19, 20, 21, 22, 23, 24] (by decide +kernel) (by decide +kernel)
set_option maxRecDepth 20000 in
theorem gX2_beatsOf_X2_isLamp : GoodIn wsX2_beatsOf (wsV RX2 37 RX2 yX2_isLamp wsX2_isLamp) := goodIn_app (goodIn_of _ (by decide +kernel)) ggX2_beatsOf_X2_isLamp
set_option maxRecDepth 20000 in
theorem ggX2_beatsOf_X2_no : GoodIn wsX2_beatsOf wsX2_no := goodIn_r _ [15, 1, 16, 17, 18, 19, 20, 21, 22, 23, 24] (by decide +kernel) (by decide +kernel)
set_option maxRecDepth 20000 in
theorem gX2_beatsOf_X2_no : GoodIn wsX2_beatsOf (wsV RX2 62 RX2 yX2_no wsX2_no) := goodIn_app (goodIn_of _ (by decide +kernel)) ggX2_beatsOf_X2_no
theorem dX2_beatsOf_0 : decode cX2_beatsOf 0 = .ok (.aload_n 0, 1) := by decide +kernel
theorem dX2_beatsOf_1 : decode cX2_beatsOf 1 = .ok (.iconst 0, 1) := by decide +kernel
theorem dX2_beatsOf_2 : decode cX2_beatsOf 2 = .ok (.putfield 26, 3) := by decide +kernel
theorem dX2_beatsOf_5 : decode cX2_beatsOf 5 = .ok (.aload_n 0, 1) := by decide +kernel
theorem dX2_beatsOf_6 : decode cX2_beatsOf 6 = .ok (.iload_n 1, 1) := by decide +kernel
theorem dX2_beatsOf_7 : decode cX2_beatsOf 7 = .ok (.invokevirtual 37, 3) := by decide +kernel
theorem dX2_beatsOf_10 : decode cX2_beatsOf 10 = .ok (.ifCond .eq 12, 3) := by decide +kernel
theorem dX2_beatsOf_13 : decode cX2_beatsOf 13 = .ok (.aload_n 0, 1) := by decide +kernel
theorem dX2_beatsOf_14 : decode cX2_beatsOf 14 = .ok (.getfield 16, 3) := by decide +kernel
theorem dX2_beatsOf_17 : decode cX2_beatsOf 17 = .ok (.iload_n 1, 1) := by decide +kernel
theorem dX2_beatsOf_18 : decode cX2_beatsOf 18 = .ok (.iaload, 1) := by decide +kernel
theorem dX2_beatsOf_19 : decode cX2_beatsOf 19 = .ok (.goto 8, 3) := by decide +kernel
theorem dX2_beatsOf_22 : decode cX2_beatsOf 22 = .ok (.aload_n 0, 1) := by decide +kernel
theorem dX2_beatsOf_23 : decode cX2_beatsOf 23 = .ok (.iconst 1, 1) := by decide +kernel
theorem dX2_beatsOf_24 : decode cX2_beatsOf 24 = .ok (.invokevirtual 62, 3) := by decide +kernel
theorem dX2_beatsOf_27 : decode cX2_beatsOf 27 = .ok (.ireturn, 1) := by decide +kernel
set_option maxRecDepth 20000 in
theorem ggX2_numberOf_X2_isBeat : GoodIn wsX2_numberOf wsX2_isBeat := goodIn_r _ [7, 8, 9, 10, 11, 6, 12, 13, 14, 15, 16, 21, 22, 23, 24, 25, 26, 27, 28, 29] (by decide +kernel) (by decide +kernel)
set_option maxRecDepth 20000 in
theorem gX2_numberOf_X2_isBeat : GoodIn wsX2_numberOf (wsV RX2 68 RX2 yX2_isBeat wsX2_isBeat) := goodIn_app (goodIn_of _ (by decide +kernel)) ggX2_numberOf_X2_isBeat
set_option maxRecDepth 20000 in
theorem ggX2_numberOf_X2_no : GoodIn wsX2_numberOf wsX2_no := goodIn_r _ [20, 1, 21, 22, 23, 24, 25, 26, 27, 28, 29] (by decide +kernel) (by decide +kernel)
set_option maxRecDepth 20000 in
theorem gX2_numberOf_X2_no : GoodIn wsX2_numberOf (wsV RX2 62 RX2 yX2_no wsX2_no) := goodIn_app (goodIn_of _ (by decide +kernel)) ggX2_numberOf_X2_no
theorem dX2_numberOf_0 : decode cX2_numberOf 0 = .ok (.aload_n 0, 1) := by decide +kernel
theorem dX2_numberOf_1 : decode cX2_numberOf 1 = .ok (.iconst 0, 1) := by decide +kernel
theorem dX2_numberOf_2 : decode cX2_numberOf 2 = .ok (.putfield 26, 3) := by decide +kernel
theorem dX2_numberOf_5 : decode cX2_numberOf 5 = .ok (.aload_n 0, 1) := by decide +kernel
theorem dX2_numberOf_6 : decode cX2_numberOf 6 = .ok (.iload_n 1, 1) := by decide +kernel
theorem dX2_numberOf_7 : decode cX2_numberOf 7 = .ok (.iload_n 2, 1) := by decide +kernel
theorem dX2_numberOf_8 : decode cX2_numberOf 8 = .ok (.invokevirtual 68, 3) := by decide +kernel
theorem dX2_numberOf_11 : decode cX2_numberOf 11 = .ok (.ifCond .eq 16, 3) := by decide +kernel
theorem dX2_numberOf_14 : decode cX2_numberOf 14 = .ok (.aload_n 0, 1) := by decide +kernel
theorem dX2_numberOf_15 : decode cX2_numberOf 15 = .ok (.getfield 20, 3) := by decide +kernel
theorem dX2_numberOf_18 : decode cX2_numberOf 18 = .ok (.iconst 4, 1) := by decide +kernel
theorem dX2_numberOf_19 : decode cX2_numberOf 19 = .ok (.iload_n 1, 1) := by decide +kernel
theorem dX2_numberOf_20 : decode cX2_numberOf 20 = .ok (.imul, 1) := by decide +kernel
theorem dX2_numberOf_21 : decode cX2_numberOf 21 = .ok (.iload_n 2, 1) := by decide +kernel
theorem dX2_numberOf_22 : decode cX2_numberOf 22 = .ok (.iadd, 1) := by decide +kernel
theorem dX2_numberOf_23 : decode cX2_numberOf 23 = .ok (.iaload, 1) := by decide +kernel
theorem dX2_numberOf_24 : decode cX2_numberOf 24 = .ok (.goto 8, 3) := by decide +kernel
theorem dX2_numberOf_27 : decode cX2_numberOf 27 = .ok (.aload_n 0, 1) := by decide +kernel
theorem dX2_numberOf_28 : decode cX2_numberOf 28 = .ok (.iconst 1, 1) := by decide +kernel
theorem dX2_numberOf_29 : decode cX2_numberOf 29 = .ok (.invokevirtual 62, 3) := by decide +kernel
theorem dX2_numberOf_32 : decode cX2_numberOf 32 = .ok (.ireturn, 1) := by decide +kernel
set_option maxRecDepth 20000 in
theorem ggX2_offsetOf_X2_isBeat : GoodIn wsX2_offsetOf wsX2_isBeat := goodIn_r _ [7, 8, 9, 10, 11, 6, 12, 13, 14, 15, 16, 21, 22, 23, 24, 25, 26, 27, 28, 29] (by decide +kernel) (by decide +kernel)
set_option maxRecDepth 20000 in
theorem gX2_offsetOf_X2_isBeat : GoodIn wsX2_offsetOf (wsV RX2 68 RX2 yX2_isBeat wsX2_isBeat) := goodIn_app (goodIn_of _ (by decide +kernel)) ggX2_offsetOf_X2_isBeat
set_option maxRecDepth 20000 in
theorem ggX2_offsetOf_X2_no : GoodIn wsX2_offsetOf wsX2_no := goodIn_r _ [20, 1, 21, 22, 23, 24, 25, 26, 27, 28, 29] (by decide +kernel) (by decide +kernel)
set_option maxRecDepth 20000 in
theorem gX2_offsetOf_X2_no : GoodIn wsX2_offsetOf (wsV RX2 62 RX2 yX2_no wsX2_no) := goodIn_app (goodIn_of _ (by decide +kernel)) ggX2_offsetOf_X2_no
theorem dX2_offsetOf_0 : decode cX2_offsetOf 0 = .ok (.aload_n 0, 1) := by decide +kernel
theorem dX2_offsetOf_1 : decode cX2_offsetOf 1 = .ok (.iconst 0, 1) := by decide +kernel
theorem dX2_offsetOf_2 : decode cX2_offsetOf 2 = .ok (.putfield 26, 3) := by decide +kernel
theorem dX2_offsetOf_5 : decode cX2_offsetOf 5 = .ok (.aload_n 0, 1) := by decide +kernel
theorem dX2_offsetOf_6 : decode cX2_offsetOf 6 = .ok (.iload_n 1, 1) := by decide +kernel
theorem dX2_offsetOf_7 : decode cX2_offsetOf 7 = .ok (.iload_n 2, 1) := by decide +kernel
theorem dX2_offsetOf_8 : decode cX2_offsetOf 8 = .ok (.invokevirtual 68, 3) := by decide +kernel
theorem dX2_offsetOf_11 : decode cX2_offsetOf 11 = .ok (.ifCond .eq 16, 3) := by decide +kernel
theorem dX2_offsetOf_14 : decode cX2_offsetOf 14 = .ok (.aload_n 0, 1) := by decide +kernel
theorem dX2_offsetOf_15 : decode cX2_offsetOf 15 = .ok (.getfield 23, 3) := by decide +kernel
theorem dX2_offsetOf_18 : decode cX2_offsetOf 18 = .ok (.iconst 4, 1) := by decide +kernel
theorem dX2_offsetOf_19 : decode cX2_offsetOf 19 = .ok (.iload_n 1, 1) := by decide +kernel
theorem dX2_offsetOf_20 : decode cX2_offsetOf 20 = .ok (.imul, 1) := by decide +kernel
theorem dX2_offsetOf_21 : decode cX2_offsetOf 21 = .ok (.iload_n 2, 1) := by decide +kernel
theorem dX2_offsetOf_22 : decode cX2_offsetOf 22 = .ok (.iadd, 1) := by decide +kernel
theorem dX2_offsetOf_23 : decode cX2_offsetOf 23 = .ok (.iaload, 1) := by decide +kernel
theorem dX2_offsetOf_24 : decode cX2_offsetOf 24 = .ok (.goto 8, 3) := by decide +kernel
theorem dX2_offsetOf_27 : decode cX2_offsetOf 27 = .ok (.aload_n 0, 1) := by decide +kernel
theorem dX2_offsetOf_28 : decode cX2_offsetOf 28 = .ok (.iconst 1, 1) := by decide +kernel
theorem dX2_offsetOf_29 : decode cX2_offsetOf 29 = .ok (.invokevirtual 62, 3) := by decide +kernel
theorem dX2_offsetOf_32 : decode cX2_offsetOf 32 = .ok (.ireturn, 1) := by decide +kernel
set_option maxRecDepth 20000 in
theorem ggX2_isCovered_X2_isLamp : GoodIn wsX2_isCovered wsX2_isLamp := goodIn_r _ [7, 8, 9, 10, 6, 11, 16, 17, 18, 19, 20, 21, 22, 23, 24] (by decide +kernel) (by decide +kernel)
set_option maxRecDepth 20000 in
theorem gX2_isCovered_X2_isLamp : GoodIn wsX2_isCovered (wsV RX2 37 RX2 yX2_isLamp wsX2_isLamp) := goodIn_app (goodIn_of _ (by decide +kernel)) ggX2_isCovered_X2_isLamp
set_option maxRecDepth 20000 in
theorem ggX2_isCovered_X2_isNot : GoodIn wsX2_isCovered wsX2_isNot := goodIn_r _ [15, 1, 16, 17, 18, 19, 20, 21, 22, 23, 24] (by decide +kernel) (by decide +kernel)
set_option maxRecDepth 20000 in
theorem gX2_isCovered_X2_isNot : GoodIn wsX2_isCovered (wsV RX2 71 RX2 yX2_isNot wsX2_isNot) := goodIn_app (goodIn_of _ (by decide +kernel)) ggX2_isCovered_X2_isNot
theorem dX2_isCovered_0 : decode cX2_isCovered 0 = .ok (.aload_n 0, 1) := by decide +kernel
theorem dX2_isCovered_1 : decode cX2_isCovered 1 = .ok (.iconst 0, 1) := by decide +kernel
theorem dX2_isCovered_2 : decode cX2_isCovered 2 = .ok (.putfield 26, 3) := by decide +kernel
theorem dX2_isCovered_5 : decode cX2_isCovered 5 = .ok (.aload_n 0, 1) := by decide +kernel
theorem dX2_isCovered_6 : decode cX2_isCovered 6 = .ok (.iload_n 1, 1) := by decide +kernel
theorem dX2_isCovered_7 : decode cX2_isCovered 7 = .ok (.invokevirtual 37, 3) := by decide +kernel
theorem dX2_isCovered_10 : decode cX2_isCovered 10 = .ok (.ifCond .eq 12, 3) := by decide +kernel
theorem dX2_isCovered_13 : decode cX2_isCovered 13 = .ok (.aload_n 0, 1) := by decide +kernel
theorem dX2_isCovered_14 : decode cX2_isCovered 14 = .ok (.getfield 13, 3) := by decide +kernel
theorem dX2_isCovered_17 : decode cX2_isCovered 17 = .ok (.iload_n 1, 1) := by decide +kernel
theorem dX2_isCovered_18 : decode cX2_isCovered 18 = .ok (.baload, 1) := by decide +kernel
theorem dX2_isCovered_19 : decode cX2_isCovered 19 = .ok (.goto 8, 3) := by decide +kernel
theorem dX2_isCovered_22 : decode cX2_isCovered 22 = .ok (.aload_n 0, 1) := by decide +kernel
theorem dX2_isCovered_23 : decode cX2_isCovered 23 = .ok (.iconst 1, 1) := by decide +kernel
theorem dX2_isCovered_24 : decode cX2_isCovered 24 = .ok (.invokevirtual 71, 3) := by decide +kernel
theorem dX2_isCovered_27 : decode cX2_isCovered 27 = .ok (.ireturn, 1) := by decide +kernel
set_option maxRecDepth 20000 in
theorem ggX2_isOn_X2_isLamp : GoodIn wsX2_isOn wsX2_isLamp := goodIn_r _ [7, 8, 9, 10, 6, 11, 24, 25, 26, 27, 28, 29, 30, 31, 32] (by decide +kernel) (by decide +kernel)
set_option maxRecDepth 20000 in
theorem gX2_isOn_X2_isLamp : GoodIn wsX2_isOn (wsV RX2 37 RX2 yX2_isLamp wsX2_isLamp) := goodIn_app (goodIn_of _ (by decide +kernel)) ggX2_isOn_X2_isLamp
set_option maxRecDepth 20000 in
theorem ggX2_isOn_X2_onAt : GoodIn wsX2_isOn wsX2_onAt := goodIn_r _ [15, 16, 17, 18, 19, 24, 25, 26, 27, 28, 29, 30, 31, 32] (by decide +kernel) (by decide +kernel)
set_option maxRecDepth 20000 in
theorem gX2_isOn_X2_onAt : GoodIn wsX2_isOn (wsV RX2 45 RX2 yX2_onAt wsX2_onAt) := goodIn_app (goodIn_of _ (by decide +kernel)) ggX2_isOn_X2_onAt
set_option maxRecDepth 20000 in
theorem ggX2_isOn_X2_isNot : GoodIn wsX2_isOn wsX2_isNot := goodIn_r _ [23, 1, 24, 25, 26, 27, 28, 29, 30, 31, 32] (by decide +kernel) (by decide +kernel)
set_option maxRecDepth 20000 in
theorem gX2_isOn_X2_isNot : GoodIn wsX2_isOn (wsV RX2 71 RX2 yX2_isNot wsX2_isNot) := goodIn_app (goodIn_of _ (by decide +kernel)) ggX2_isOn_X2_isNot
theorem dX2_isOn_0 : decode cX2_isOn 0 = .ok (.aload_n 0, 1) := by decide +kernel
theorem dX2_isOn_1 : decode cX2_isOn 1 = .ok (.iconst 0, 1) := by decide +kernel
theorem dX2_isOn_2 : decode cX2_isOn 2 = .ok (.putfield 26, 3) := by decide +kernel
theorem dX2_isOn_5 : decode cX2_isOn 5 = .ok (.aload_n 0, 1) := by decide +kernel
theorem dX2_isOn_6 : decode cX2_isOn 6 = .ok (.iload_n 1, 1) := by decide +kernel
theorem dX2_isOn_7 : decode cX2_isOn 7 = .ok (.invokevirtual 37, 3) := by decide +kernel
theorem dX2_isOn_10 : decode cX2_isOn 10 = .ok (.ifCond .eq 15, 3) := by decide +kernel
theorem dX2_isOn_13 : decode cX2_isOn 13 = .ok (.aload_n 0, 1) := by decide +kernel
theorem dX2_isOn_14 : decode cX2_isOn 14 = .ok (.iload_n 1, 1) := by decide +kernel
theorem dX2_isOn_15 : decode cX2_isOn 15 = .ok (.aload_n 0, 1) := by decide +kernel
theorem dX2_isOn_16 : decode cX2_isOn 16 = .ok (.getfield 59, 3) := by decide +kernel
theorem dX2_isOn_19 : decode cX2_isOn 19 = .ok (.invokevirtual 45, 3) := by decide +kernel
theorem dX2_isOn_22 : decode cX2_isOn 22 = .ok (.goto 8, 3) := by decide +kernel
theorem dX2_isOn_25 : decode cX2_isOn 25 = .ok (.aload_n 0, 1) := by decide +kernel
theorem dX2_isOn_26 : decode cX2_isOn 26 = .ok (.iconst 1, 1) := by decide +kernel
theorem dX2_isOn_27 : decode cX2_isOn 27 = .ok (.invokevirtual 71, 3) := by decide +kernel
theorem dX2_isOn_30 : decode cX2_isOn 30 = .ok (.ireturn, 1) := by decide +kernel
set_option maxRecDepth 20000 in
theorem ggX2_isLit_X2_isLamp : GoodIn wsX2_isLit wsX2_isLamp := goodIn_r _ [8, 9, 10, 11, 7, 12, 25, 26, 27, 28, 29, 30, 31, 32, 33] (by decide +kernel) (by decide +kernel)
set_option maxRecDepth 20000 in
theorem gX2_isLit_X2_isLamp : GoodIn wsX2_isLit (wsV RX2 37 RX2 yX2_isLamp wsX2_isLamp) := goodIn_app (goodIn_of _ (by decide +kernel)) ggX2_isLit_X2_isLamp
set_option maxRecDepth 20000 in
theorem ggX2_isLit_X2_onAt : GoodIn wsX2_isLit wsX2_onAt := goodIn_r _ [16, 17, 18, 19, 20, 25, 26, 27, 28, 29, 30, 31, 32, 33] (by decide +kernel) (by decide +kernel)
set_option maxRecDepth 20000 in
theorem gX2_isLit_X2_onAt : GoodIn wsX2_isLit (wsV RX2 45 RX2 yX2_onAt wsX2_onAt) := goodIn_app (goodIn_of _ (by decide +kernel)) ggX2_isLit_X2_onAt
set_option maxRecDepth 20000 in
theorem ggX2_isLit_X2_isNot : GoodIn wsX2_isLit wsX2_isNot := goodIn_r _ [24, 1, 25, 26, 27, 28, 29, 30, 31, 32, 33] (by decide +kernel) (by decide +kernel)
set_option maxRecDepth 20000 in
theorem gX2_isLit_X2_isNot : GoodIn wsX2_isLit (wsV RX2 71 RX2 yX2_isNot wsX2_isNot) := goodIn_app (goodIn_of _ (by decide +kernel)) ggX2_isLit_X2_isNot
theorem dX2_isLit_0 : decode cX2_isLit 0 = .ok (.aload_n 0, 1) := by decide +kernel
theorem dX2_isLit_1 : decode cX2_isLit 1 = .ok (.iconst 0, 1) := by decide +kernel
theorem dX2_isLit_2 : decode cX2_isLit 2 = .ok (.putfield 26, 3) := by decide +kernel
theorem dX2_isLit_5 : decode cX2_isLit 5 = .ok (.aload_n 0, 1) := by decide +kernel
theorem dX2_isLit_6 : decode cX2_isLit 6 = .ok (.iload_n 1, 1) := by decide +kernel
theorem dX2_isLit_7 : decode cX2_isLit 7 = .ok (.invokevirtual 37, 3) := by decide +kernel
theorem dX2_isLit_10 : decode cX2_isLit 10 = .ok (.ifCond .eq 32, 3) := by decide +kernel
theorem dX2_isLit_13 : decode cX2_isLit 13 = .ok (.aload_n 0, 1) := by decide +kernel
theorem dX2_isLit_14 : decode cX2_isLit 14 = .ok (.getfield 13, 3) := by decide +kernel
theorem dX2_isLit_17 : decode cX2_isLit 17 = .ok (.iload_n 1, 1) := by decide +kernel
theorem dX2_isLit_18 : decode cX2_isLit 18 = .ok (.baload, 1) := by decide +kernel
theorem dX2_isLit_19 : decode cX2_isLit 19 = .ok (.ifCond .ne 19, 3) := by decide +kernel
theorem dX2_isLit_22 : decode cX2_isLit 22 = .ok (.aload_n 0, 1) := by decide +kernel
theorem dX2_isLit_23 : decode cX2_isLit 23 = .ok (.iload_n 1, 1) := by decide +kernel
theorem dX2_isLit_24 : decode cX2_isLit 24 = .ok (.aload_n 0, 1) := by decide +kernel
theorem dX2_isLit_25 : decode cX2_isLit 25 = .ok (.getfield 59, 3) := by decide +kernel
theorem dX2_isLit_28 : decode cX2_isLit 28 = .ok (.invokevirtual 45, 3) := by decide +kernel
theorem dX2_isLit_31 : decode cX2_isLit 31 = .ok (.ifCond .eq 7, 3) := by decide +kernel
theorem dX2_isLit_34 : decode cX2_isLit 34 = .ok (.iconst 1, 1) := by decide +kernel
theorem dX2_isLit_35 : decode cX2_isLit 35 = .ok (.goto 12, 3) := by decide +kernel
theorem dX2_isLit_38 : decode cX2_isLit 38 = .ok (.iconst 0, 1) := by decide +kernel
theorem dX2_isLit_39 : decode cX2_isLit 39 = .ok (.goto 8, 3) := by decide +kernel
theorem dX2_isLit_42 : decode cX2_isLit 42 = .ok (.aload_n 0, 1) := by decide +kernel
theorem dX2_isLit_43 : decode cX2_isLit 43 = .ok (.iconst 1, 1) := by decide +kernel
theorem dX2_isLit_44 : decode cX2_isLit 44 = .ok (.invokevirtual 71, 3) := by decide +kernel
theorem dX2_isLit_47 : decode cX2_isLit 47 = .ok (.ireturn, 1) := by decide +kernel
set_option maxRecDepth 20000 in
theorem ggX2_litLamps_X2_litAt : GoodIn wsX2_litLamps wsX2_litAt := goodIn_r _ [7, 8, 9, 10, 11, 12, 6, 13, 14, 15, 16, 17, 18, 19, 20, 21, 22, 23, 24, 25, 26] (by decide +kernel) (by decide +kernel)
set_option maxRecDepth 20000 in
theorem gX2_litLamps_X2_litAt : GoodIn wsX2_litLamps (wsV RX2 77 RX2 yX2_litAt wsX2_litAt) := goodIn_app (goodIn_of _ (by decide +kernel)) ggX2_litLamps_X2_litAt
theorem dX2_litLamps_0 : decode cX2_litLamps 0 = .ok (.aload_n 0, 1) := by decide +kernel
theorem dX2_litLamps_1 : decode cX2_litLamps 1 = .ok (.iconst 0, 1) := by decide +kernel
theorem dX2_litLamps_2 : decode cX2_litLamps 2 = .ok (.putfield 26, 3) := by decide +kernel
theorem dX2_litLamps_5 : decode cX2_litLamps 5 = .ok (.aload_n 0, 1) := by decide +kernel
theorem dX2_litLamps_6 : decode cX2_litLamps 6 = .ok (.aload_n 0, 1) := by decide +kernel
theorem dX2_litLamps_7 : decode cX2_litLamps 7 = .ok (.getfield 59, 3) := by decide +kernel
theorem dX2_litLamps_10 : decode cX2_litLamps 10 = .ok (.iconst (-1), 1) := by decide +kernel
theorem dX2_litLamps_11 : decode cX2_litLamps 11 = .ok (.invokevirtual 77, 3) := by decide +kernel
theorem dX2_litLamps_14 : decode cX2_litLamps 14 = .ok (.ireturn, 1) := by decide +kernel
set_option maxRecDepth 20000 in
theorem ggX2_isDark_X2_litAt : GoodIn wsX2_isDark wsX2_litAt := goodIn_r _ [7, 8, 9, 10, 11, 12, 6, 13, 14, 15, 16, 17, 18, 19, 20, 21, 22, 23, 24, 25, 26] (by decide +kernel) (by decide +kernel)
set_option maxRecDepth 20000 in
theorem gX2_isDark_X2_litAt : GoodIn wsX2_isDark (wsV RX2 77 RX2 yX2_litAt wsX2_litAt) := goodIn_app (goodIn_of _ (by decide +kernel)) ggX2_isDark_X2_litAt
theorem dX2_isDark_0 : decode cX2_isDark 0 = .ok (.aload_n 0, 1) := by decide +kernel
theorem dX2_isDark_1 : decode cX2_isDark 1 = .ok (.iconst 0, 1) := by decide +kernel
theorem dX2_isDark_2 : decode cX2_isDark 2 = .ok (.putfield 26, 3) := by decide +kernel
theorem dX2_isDark_5 : decode cX2_isDark 5 = .ok (.aload_n 0, 1) := by decide +kernel
theorem dX2_isDark_6 : decode cX2_isDark 6 = .ok (.aload_n 0, 1) := by decide +kernel
theorem dX2_isDark_7 : decode cX2_isDark 7 = .ok (.getfield 59, 3) := by decide +kernel
theorem dX2_isDark_10 : decode cX2_isDark 10 = .ok (.iconst (-1), 1) := by decide +kernel
theorem dX2_isDark_11 : decode cX2_isDark 11 = .ok (.invokevirtual 77, 3) := by decide +kernel
theorem dX2_isDark_14 : decode cX2_isDark 14 = .ok (.ifCond .ne 7, 3) := by decide +kernel
theorem dX2_isDark_17 : decode cX2_isDark 17 = .ok (.iconst 1, 1) := by decide +kernel
theorem dX2_isDark_18 : decode cX2_isDark 18 = .ok (.goto 4, 3) := by decide +kernel
theorem dX2_isDark_21 : decode cX2_isDark 21 = .ok (.iconst 0, 1) := by decide +kernel
theorem dX2_isDark_22 : decode cX2_isDark 22 = .ok (.ireturn, 1) := by decide +kernel
set_option maxRecDepth 20000 in
theorem ggX2_isOnAt_X2_isLamp : GoodIn wsX2_isOnAt wsX2_isLamp := goodIn_r _ [7, 8, 9, 10, 6, 11, 24, 25, 26, 27, 28, 29, 30, 31, 32] (by decide +kernel) (by decide +kernel)
set_option maxRecDepth 20000 in
theorem gX2_isOnAt_X2_isLamp : GoodIn wsX2_isOnAt (wsV RX2 37 RX2 yX2_isLamp wsX2_isLamp) := goodIn_app (goodIn_of _ (by decide +kernel)) ggX2_isOnAt_X2_isLamp
set_option maxRecDepth 20000 in
theorem ggX2_isOnAt_X2_isNot : GoodIn wsX2_isOnAt wsX2_isNot := goodIn_r _ [15, 1, 24, 25, 26, 27, 28, 29, 30, 31, 32] (by decide +kernel) (by decide +kernel)
set_option maxRecDepth 20000 in
theorem gX2_isOnAt_X2_isNot : GoodIn wsX2_isOnAt (wsV RX2 71 RX2 yX2_isNot wsX2_isNot) := goodIn_app (goodIn_of _ (by decide +kernel)) ggX2_isOnAt_X2_isNot
set_option maxRecDepth 20000 in
theorem ggX2_isOnAt_X2_isIn : GoodIn wsX2_isOnAt wsX2_isIn := goodIn_r _ [11] (by decide +kernel) (by decide +kernel)
set_option maxRecDepth 20000 in
theorem gX2_isOnAt_X2_isIn : GoodIn wsX2_isOnAt (va_wsS RX2 33 yX2_isIn wsX2_isIn) := goodIn_app (goodIn_of _ (by decide +kernel)) ggX2_isOnAt_X2_isIn
set_option maxRecDepth 20000 in
theorem ggX2_isOnAt_X2_onAt : GoodIn wsX2_isOnAt wsX2_onAt := goodIn_r _ [19, 20, 21, 22, 23, 24, 25, 26, 27, 28, 29, 30, 31, 32] (by decide +kernel) (by decide +kernel)
set_option maxRecDepth 20000 in
theorem gX2_isOnAt_X2_onAt : GoodIn wsX2_isOnAt (wsV RX2 45 RX2 yX2_onAt wsX2_onAt) := goodIn_app (goodIn_of _ (by decide +kernel)) ggX2_isOnAt_X2_onAt
theorem dX2_isOnAt_0 : decode cX2_isOnAt 0 = .ok (.aload_n 0, 1) := by decide +kernel
theorem dX2_isOnAt_1 : decode cX2_isOnAt 1 = .ok (.iconst 0, 1) := by decide +kernel
theorem dX2_isOnAt_2 : decode cX2_isOnAt 2 = .ok (.putfield 26, 3) := by decide +kernel
theorem dX2_isOnAt_5 : decode cX2_isOnAt 5 = .ok (.aload_n 0, 1) := by decide +kernel
theorem dX2_isOnAt_6 : decode cX2_isOnAt 6 = .ok (.iload_n 1, 1) := by decide +kernel
theorem dX2_isOnAt_7 : decode cX2_isOnAt 7 = .ok (.invokevirtual 37, 3) := by decide +kernel
theorem dX2_isOnAt_10 : decode cX2_isOnAt 10 = .ok (.ifCond .ne 9, 3) := by decide +kernel
theorem dX2_isOnAt_13 : decode cX2_isOnAt 13 = .ok (.aload_n 0, 1) := by decide +kernel
theorem dX2_isOnAt_14 : decode cX2_isOnAt 14 = .ok (.iconst 1, 1) := by decide +kernel
theorem dX2_isOnAt_15 : decode cX2_isOnAt 15 = .ok (.invokevirtual 71, 3) := by decide +kernel
theorem dX2_isOnAt_18 : decode cX2_isOnAt 18 = .ok (.ireturn, 1) := by decide +kernel
theorem dX2_isOnAt_19 : decode cX2_isOnAt 19 = .ok (.iload_n 2, 1) := by decide +kernel
theorem dX2_isOnAt_20 : decode cX2_isOnAt 20 = .ok (.iconst 0, 1) := by decide +kernel
theorem dX2_isOnAt_21 : decode cX2_isOnAt 21 = .ok (.ldc 80, 2) := by decide +kernel
theorem dX2_isOnAt_23 : decode cX2_isOnAt 23 = .ok (.invokestatic 33, 3) := by decide +kernel
theorem dX2_isOnAt_26 : decode cX2_isOnAt 26 = .ok (.ifCond .eq 12, 3) := by decide +kernel
theorem dX2_isOnAt_29 : decode cX2_isOnAt 29 = .ok (.aload_n 0, 1) := by decide +kernel
theorem dX2_isOnAt_30 : decode cX2_isOnAt 30 = .ok (.iload_n 1, 1) := by decide +kernel
theorem dX2_isOnAt_31 : decode cX2_isOnAt 31 = .ok (.iload_n 2, 1) := by decide +kernel
theorem dX2_isOnAt_32 : decode cX2_isOnAt 32 = .ok (.invokevirtual 45, 3) := by decide +kernel
theorem dX2_isOnAt_35 : decode cX2_isOnAt 35 = .ok (.goto 8, 3) := by decide +kernel
theorem dX2_isOnAt_38 : decode cX2_isOnAt 38 = .ok (.aload_n 0, 1) := by decide +kernel
theorem dX2_isOnAt_39 : decode cX2_isOnAt 39 = .ok (.iconst 2, 1) := by decide +kernel
theorem dX2_isOnAt_40 : decode cX2_isOnAt 40 = .ok (.invokevirtual 71, 3) := by decide +kernel
theorem dX2_isOnAt_43 : decode cX2_isOnAt 43 = .ok (.ireturn, 1) := by decide +kernel
set_option maxRecDepth 20000 in
theorem ggX2_strikesAt_X2_isLamp : GoodIn wsX2_strikesAt wsX2_isLamp := goodIn_r _ [7, 8, 9, 10, 6, 11, 23, 24, 25, 26, 27, 28, 29, 30, 31] (by decide +kernel) (by decide +kernel)
set_option maxRecDepth 20000 in
theorem gX2_strikesAt_X2_isLamp : GoodIn wsX2_strikesAt (wsV RX2 37 RX2 yX2_isLamp wsX2_isLamp) := goodIn_app (goodIn_of _ (by decide +kernel)) ggX2_strikesAt_X2_isLamp
set_option maxRecDepth 20000 in
theorem ggX2_strikesAt_X2_no : GoodIn wsX2_strikesAt wsX2_no := goodIn_r _ [15, 1, 23, 24, 25, 26, 27, 28, 29, 30, 31] (by decide +kernel) (by decide +kernel)
set_option maxRecDepth 20000 in
theorem gX2_strikesAt_X2_no : GoodIn wsX2_strikesAt (wsV RX2 62 RX2 yX2_no wsX2_no) := goodIn_app (goodIn_of _ (by decide +kernel)) ggX2_strikesAt_X2_no
set_option maxRecDepth 20000 in
theorem ggX2_strikesAt_X2_isIn : GoodIn wsX2_strikesAt wsX2_isIn := goodIn_r _ [11] (by decide +kernel) (by decide +kernel)
set_option maxRecDepth 20000 in
theorem gX2_strikesAt_X2_isIn : GoodIn wsX2_strikesAt (va_wsS RX2 33 yX2_isIn wsX2_isIn) := goodIn_app (goodIn_of _ (by decide +kernel)) ggX2_strikesAt_X2_isIn
set_option maxRecDepth 20000 in
theorem ggX2_strikesAt_X2_strikes : GoodIn wsX2_strikesAt wsX2_strikes := goodIn_r _ [19, 20, 21, 22, 23, 24, 25, 26, 27, 28, 29, 30, 31] (by decide +kernel) (by decide +kernel)
set_option maxRecDepth 20000 in
theorem gX2_strikesAt_X2_strikes : GoodIn wsX2_strikesAt (wsV RX2 41 RX2 yX2_strikes wsX2_strikes) := goodIn_app (goodIn_of _ (by decide +kernel)) ggX2_strikesAt_X2_strikes
theorem dX2_strikesAt_0 : decode cX2_strikesAt 0 = .ok (.aload_n 0, 1) := by decide +kernel
theorem dX2_strikesAt_1 : decode cX2_strikesAt 1 = .ok (.iconst 0, 1) := by decide +kernel
theorem dX2_strikesAt_2 : decode cX2_strikesAt 2 = .ok (.putfield 26, 3) := by decide +kernel
theorem dX2_strikesAt_5 : decode cX2_strikesAt 5 = .ok (.aload_n 0, 1) := by decide +kernel
theorem dX2_strikesAt_6 : decode cX2_strikesAt 6 = .ok (.iload_n 1, 1) := by decide +kernel
theorem dX2_strikesAt_7 : decode cX2_strikesAt 7 = .ok (.invokevirtual 37, 3) := by decide +kernel
theorem dX2_strikesAt_10 : decode cX2_strikesAt 10 = .ok (.ifCond .ne 9, 3) := by decide +kernel
theorem dX2_strikesAt_13 : decode cX2_strikesAt 13 = .ok (.aload_n 0, 1) := by decide +kernel
theorem dX2_strikesAt_14 : decode cX2_strikesAt 14 = .ok (.iconst 1, 1) := by decide +kernel
theorem dX2_strikesAt_15 : decode cX2_strikesAt 15 = .ok (.invokevirtual 62, 3) := by decide +kernel
theorem dX2_strikesAt_18 : decode cX2_strikesAt 18 = .ok (.ireturn, 1) := by decide +kernel
theorem dX2_strikesAt_19 : decode cX2_strikesAt 19 = .ok (.iload_n 2, 1) := by decide +kernel
theorem dX2_strikesAt_20 : decode cX2_strikesAt 20 = .ok (.iconst 0, 1) := by decide +kernel
theorem dX2_strikesAt_21 : decode cX2_strikesAt 21 = .ok (.ldc 80, 2) := by decide +kernel
theorem dX2_strikesAt_23 : decode cX2_strikesAt 23 = .ok (.invokestatic 33, 3) := by decide +kernel
theorem dX2_strikesAt_26 : decode cX2_strikesAt 26 = .ok (.ifCond .eq 12, 3) := by decide +kernel
theorem dX2_strikesAt_29 : decode cX2_strikesAt 29 = .ok (.aload_n 0, 1) := by decide +kernel
theorem dX2_strikesAt_30 : decode cX2_strikesAt 30 = .ok (.iload_n 1, 1) := by decide +kernel
theorem dX2_strikesAt_31 : decode cX2_strikesAt 31 = .ok (.iload_n 2, 1) := by decide +kernel
theorem dX2_strikesAt_32 : decode cX2_strikesAt 32 = .ok (.invokevirtual 41, 3) := by decide +kernel
theorem dX2_strikesAt_35 : decode cX2_strikesAt 35 = .ok (.goto 8, 3) := by decide +kernel
theorem dX2_strikesAt_38 : decode cX2_strikesAt 38 = .ok (.aload_n 0, 1) := by decide +kernel
theorem dX2_strikesAt_39 : decode cX2_strikesAt 39 = .ok (.iconst 2, 1) := by decide +kernel
theorem dX2_strikesAt_40 : decode cX2_strikesAt 40 = .ok (.invokevirtual 62, 3) := by decide +kernel
theorem dX2_strikesAt_43 : decode cX2_strikesAt 43 = .ok (.ireturn, 1) := by decide +kernel
set_option maxRecDepth 20000 in
theorem ggX2_isSteady_X2_isLamp : GoodIn wsX2_isSteady wsX2_isLamp := goodIn_r _ [6, 7, 8, 9, 5, 10, 34, 35, 36, 37, 38, 39, 40, 41, 42] (by decide +kernel) (by decide +kernel)
set_option maxRecDepth 20000 in
theorem gX2_isSteady_X2_isLamp : GoodIn wsX2_isSteady (wsV RX2 37 RX2 yX2_isLamp wsX2_isLamp) := goodIn_app (goodIn_of _ (by decide +kernel)) ggX2_isSteady_X2_isLamp
set_option maxRecDepth 20000 in
theorem ggX2_isSteady_X2_steady : GoodIn wsX2_isSteady wsX2_steady := goodIn_r _ [14, 15, 16, 17, 5, 18, 19, 20, 21, 22, 23, 24, 25, 26, 27, 28, 29, 34, 35, 36, 37, 38, 39, 40, 41, 42] (by decide +kernel) (by decide +kernel)
set_option maxRecDepth 20000 in
theorem gX2_isSteady_X2_steady : GoodIn wsX2_isSteady (wsV RX2 81 RX2 yX2_steady wsX2_steady) := goodIn_app (goodIn_of _ (by decide +kernel)) ggX2_isSteady_X2_steady
set_option maxRecDepth 20000 in
theorem ggX2_isSteady_X2_isNot : GoodIn wsX2_isSteady wsX2_isNot := goodIn_r _ [33, 1, 34, 35, 36, 37, 38, 39, 40, 41, 42] (by decide +kernel) (by decide +kernel)
set_option maxRecDepth 20000 in
theorem gX2_isSteady_X2_isNot : GoodIn wsX2_isSteady (wsV RX2 71 RX2 yX2_isNot wsX2_isNot) := goodIn_app (goodIn_of _ (by decide +kernel)) ggX2_isSteady_X2_isNot
theorem dX2_isSteady_0 : decode cX2_isSteady 0 = .ok (.aload_n 0, 1) := by decide +kernel
theorem dX2_isSteady_1 : decode cX2_isSteady 1 = .ok (.iconst 0, 1) := by decide +kernel
theorem dX2_isSteady_2 : decode cX2_isSteady 2 = .ok (.putfield 26, 3) := by decide +kernel
theorem dX2_isSteady_5 : decode cX2_isSteady 5 = .ok (.aload_n 0, 1) := by decide +kernel
theorem dX2_isSteady_6 : decode cX2_isSteady 6 = .ok (.iload_n 1, 1) := by decide +kernel
theorem dX2_isSteady_7 : decode cX2_isSteady 7 = .ok (.invokevirtual 37, 3) := by decide +kernel
theorem dX2_isSteady_10 : decode cX2_isSteady 10 = .ok (.ifCond .eq 11, 3) := by decide +kernel
theorem dX2_isSteady_13 : decode cX2_isSteady 13 = .ok (.aload_n 0, 1) := by decide +kernel
theorem dX2_isSteady_14 : decode cX2_isSteady 14 = .ok (.iload_n 1, 1) := by decide +kernel
theorem dX2_isSteady_15 : decode cX2_isSteady 15 = .ok (.invokevirtual 81, 3) := by decide +kernel
theorem dX2_isSteady_18 : decode cX2_isSteady 18 = .ok (.goto 8, 3) := by decide +kernel
theorem dX2_isSteady_21 : decode cX2_isSteady 21 = .ok (.aload_n 0, 1) := by decide +kernel
theorem dX2_isSteady_22 : decode cX2_isSteady 22 = .ok (.iconst 1, 1) := by decide +kernel
theorem dX2_isSteady_23 : decode cX2_isSteady 23 = .ok (.invokevirtual 71, 3) := by decide +kernel
theorem dX2_isSteady_26 : decode cX2_isSteady 26 = .ok (.ireturn, 1) := by decide +kernel
set_option maxRecDepth 20000 in
theorem ggX2_cycleOf_X2_isLamp : GoodIn wsX2_cycleOf wsX2_isLamp := goodIn_r _ [6, 7, 8, 9, 5, 10, 43, 44, 45, 46, 47, 48, 49, 50, 51] (by decide +kernel) (by decide +kernel)
set_option maxRecDepth 20000 in
theorem gX2_cycleOf_X2_isLamp : GoodIn wsX2_cycleOf (wsV RX2 37 RX2 yX2_isLamp wsX2_isLamp) := goodIn_app (goodIn_of _ (by decide +kernel)) ggX2_cycleOf_X2_isLamp
set_option maxRecDepth 20000 in
theorem ggX2_cycleOf_X2_cycle : GoodIn wsX2_cycleOf wsX2_cycle := goodIn_r _ [14, 15, 16, 17, 5, 18, 19, 20, 21, 22, 23, 24, 25, 26, 27, 28, 29, 30, 31, 32, 33, 34, 35, 36, 37, 38, 43, 44, 45, 46, 47, 48, 49, 50, 51] (by decide +kernel) (by decide +kernel)
set_option maxRecDepth 20000 in
theorem gX2_cycleOf_X2_cycle : GoodIn wsX2_cycleOf (wsV RX2 84 RX2 yX2_cycle wsX2_cycle) := goodIn_app (goodIn_of _ (by decide +kernel)) ggX2_cycleOf_X2_cycle
set_option maxRecDepth 20000 in
theorem ggX2_cycleOf_X2_no : GoodIn wsX2_cycleOf wsX2_no := goodIn_r _ [42, 1, 43, 44, 45, 46, 47, 48, 49, 50, 51] (by decide +kernel) (by decide +kernel)
set_option maxRecDepth 20000 in
theorem gX2_cycleOf_X2_no : GoodIn wsX2_cycleOf (wsV RX2 62 RX2 yX2_no wsX2_no) := goodIn_app (goodIn_of _ (by decide +kernel)) ggX2_cycleOf_X2_no
theorem dX2_cycleOf_0 : decode cX2_cycleOf 0 = .ok (.aload_n 0, 1) := by decide +kernel
theorem dX2_cycleOf_1 : decode cX2_cycleOf 1 = .ok (.iconst 0, 1) := by decide +kernel
theorem dX2_cycleOf_2 : decode cX2_cycleOf 2 = .ok (.putfield 26, 3) := by decide +kernel
theorem dX2_cycleOf_5 : decode cX2_cycleOf 5 = .ok (.aload_n 0, 1) := by decide +kernel
theorem dX2_cycleOf_6 : decode cX2_cycleOf 6 = .ok (.iload_n 1, 1) := by decide +kernel
theorem dX2_cycleOf_7 : decode cX2_cycleOf 7 = .ok (.invokevirtual 37, 3) := by decide +kernel
theorem dX2_cycleOf_10 : decode cX2_cycleOf 10 = .ok (.ifCond .eq 11, 3) := by decide +kernel
theorem dX2_cycleOf_13 : decode cX2_cycleOf 13 = .ok (.aload_n 0, 1) := by decide +kernel
theorem dX2_cycleOf_14 : decode cX2_cycleOf 14 = .ok (.iload_n 1, 1) := by decide +kernel
theorem dX2_cycleOf_15 : decode cX2_cycleOf 15 = .ok (.invokevirtual 84, 3) := by decide +kernel
theorem dX2_cycleOf_18 : decode cX2_cycleOf 18 = .ok (.goto 8, 3) := by decide +kernel
theorem dX2_cycleOf_21 : decode cX2_cycleOf 21 = .ok (.aload_n 0, 1) := by decide +kernel
theorem dX2_cycleOf_22 : decode cX2_cycleOf 22 = .ok (.iconst 1, 1) := by decide +kernel
theorem dX2_cycleOf_23 : decode cX2_cycleOf 23 = .ok (.invokevirtual 62, 3) := by decide +kernel
theorem dX2_cycleOf_26 : decode cX2_cycleOf 26 = .ok (.ireturn, 1) := by decide +kernel
set_option maxRecDepth 20000 in
theorem ggX2_momentsUntilChange_X2_isLamp : GoodIn wsX2_momentsUntilChange wsX2_isLamp := goodIn_r _ [6, 7, 8, 9, 5, 10, 35, 36, 37, 38, 39, 40, 41, 42, 43] (by decide +kernel) (by decide +kernel)
set_option maxRecDepth 20000 in
theorem gX2_momentsUntilChange_X2_isLamp : GoodIn wsX2_momentsUntilChange (wsV RX2 37 RX2 yX2_isLamp wsX2_isLamp) := goodIn_app (goodIn_of _ (by decide +kernel)) ggX2_momentsUntilChange_X2_isLamp
set_option maxRecDepth 20000 in
theorem ggX2_momentsUntilChange_X2_untilChange : GoodIn wsX2_momentsUntilChange wsX2_untilChange := goodIn_r _ [14, 15, 16, 17, 18, 5, 19, 20, 21, 22, 23, 24, 25, 26, 27, 28, 29, 30, 35, 36, 37, 38, 39, 40, 41, 42, 43] (by decide +kernel) (by decide +kernel)
set_option maxRecDepth 20000 in
theorem gX2_momentsUntilChange_X2_untilChange : GoodIn wsX2_momentsUntilChange (wsV RX2 87 RX2 yX2_untilChange wsX2_untilChange) := goodIn_app (goodIn_of _ (by decide +kernel)) ggX2_momentsUntilChange_X2_untilChange
set_option maxRecDepth 20000 in
theorem ggX2_momentsUntilChange_X2_no : GoodIn wsX2_momentsUntilChange wsX2_no := goodIn_r _ [34, 1, 35, 36, 37, 38, 39, 40, 41, 42, 43] (by decide +kernel) (by decide +kernel)
set_option maxRecDepth 20000 in
theorem gX2_momentsUntilChange_X2_no : GoodIn wsX2_momentsUntilChange (wsV RX2 62 RX2 yX2_no wsX2_no) := goodIn_app (goodIn_of _ (by decide +kernel)) ggX2_momentsUntilChange_X2_no
theorem dX2_momentsUntilChange_0 : decode cX2_momentsUntilChange 0 = .ok (.aload_n 0, 1) := by decide +kernel
theorem dX2_momentsUntilChange_1 : decode cX2_momentsUntilChange 1 = .ok (.iconst 0, 1) := by decide +kernel
theorem dX2_momentsUntilChange_2 : decode cX2_momentsUntilChange 2 = .ok (.putfield 26, 3) := by decide +kernel
theorem dX2_momentsUntilChange_5 : decode cX2_momentsUntilChange 5 = .ok (.aload_n 0, 1) := by decide +kernel
theorem dX2_momentsUntilChange_6 : decode cX2_momentsUntilChange 6 = .ok (.iload_n 1, 1) := by decide +kernel
theorem dX2_momentsUntilChange_7 : decode cX2_momentsUntilChange 7 = .ok (.invokevirtual 37, 3) := by decide +kernel
theorem dX2_momentsUntilChange_10 : decode cX2_momentsUntilChange 10 = .ok (.ifCond .eq 11, 3) := by decide +kernel
theorem dX2_momentsUntilChange_13 : decode cX2_momentsUntilChange 13 = .ok (.aload_n 0, 1) := by decide +kernel
theorem dX2_momentsUntilChange_14 : decode cX2_momentsUntilChange 14 = .ok (.iload_n 1, 1) := by decide +kernel
theorem dX2_momentsUntilChange_15 : decode cX2_momentsUntilChange 15 = .ok (.invokevirtual 87, 3) := by decide +kernel
theorem dX2_momentsUntilChange_18 : decode cX2_momentsUntilChange 18 = .ok (.goto 8, 3) := by decide +kernel
theorem dX2_momentsUntilChange_21 : decode cX2_momentsUntilChange 21 = .ok (.aload_n 0, 1) := by decide +kernel
theorem dX2_momentsUntilChange_22 : decode cX2_momentsUntilChange 22 = .ok (.iconst 1, 1) := by decide +kernel
theorem dX2_momentsUntilChange_23 : decode cX2_momentsUntilChange 23 = .ok (.invokevirtual 62, 3) := by decide +kernel
theorem dX2_momentsUntilChange_26 : decode cX2_momentsUntilChange 26 = .ok (.ireturn, 1) := by decide +kernel
set_option maxRecDepth 20000 in
theorem ggX2_shows_X2_isLamp : GoodIn wsX2_shows wsX2_isLamp := goodIn_r _ [7, 8, 9, 10, 6, 11, 24, 25, 26, 27, 28, 29, 30, 31, 32] (by decide +kernel) (by decide +kernel)
set_option maxRecDepth 20000 in
theorem gX2_shows_X2_isLamp : GoodIn wsX2_shows (wsV RX2 37 RX2 yX2_isLamp wsX2_isLamp) := goodIn_app (goodIn_of _ (by decide +kernel)) ggX2_shows_X2_isLamp
set_option maxRecDepth 20000 in
theorem ggX2_shows_X2_no : GoodIn wsX2_shows wsX2_no := goodIn_r _ [15, 1, 24, 25, 26, 27, 28, 29, 30, 31, 32] (by decide +kernel) (by decide +kernel)
set_option maxRecDepth 20000 in
theorem gX2_shows_X2_no : GoodIn wsX2_shows (wsV RX2 62 RX2 yX2_no wsX2_no) := goodIn_app (goodIn_of _ (by decide +kernel)) ggX2_shows_X2_no
set_option maxRecDepth 20000 in
theorem ggX2_shows_X2_isIn : GoodIn wsX2_shows wsX2_isIn := goodIn_r _ [11] (by decide +kernel) (by decide +kernel)
set_option maxRecDepth 20000 in
theorem gX2_shows_X2_isIn : GoodIn wsX2_shows (va_wsS RX2 33 yX2_isIn wsX2_isIn) := goodIn_app (goodIn_of _ (by decide +kernel)) ggX2_shows_X2_isIn
set_option maxRecDepth 20000 in
theorem ggX2_shows_X2_onAt : GoodIn wsX2_shows wsX2_onAt := goodIn_r _ [19, 20, 21, 22, 23, 24, 25, 26, 27, 28, 29, 30, 31, 32] (by decide +kernel) (by decide +kernel)
set_option maxRecDepth 20000 in
theorem gX2_shows_X2_onAt : GoodIn wsX2_shows (wsV RX2 45 RX2 yX2_onAt wsX2_onAt) := goodIn_app (goodIn_of _ (by decide +kernel)) ggX2_shows_X2_onAt
theorem dX2_shows_0 : decode cX2_shows 0 = .ok (.aload_n 0, 1) := by decide +kernel
theorem dX2_shows_1 : decode cX2_shows 1 = .ok (.iconst 0, 1) := by decide +kernel
theorem dX2_shows_2 : decode cX2_shows 2 = .ok (.putfield 26, 3) := by decide +kernel
theorem dX2_shows_5 : decode cX2_shows 5 = .ok (.aload_n 0, 1) := by decide +kernel
theorem dX2_shows_6 : decode cX2_shows 6 = .ok (.iload_n 1, 1) := by decide +kernel
theorem dX2_shows_7 : decode cX2_shows 7 = .ok (.invokevirtual 37, 3) := by decide +kernel
theorem dX2_shows_10 : decode cX2_shows 10 = .ok (.ifCond .ne 9, 3) := by decide +kernel
theorem dX2_shows_13 : decode cX2_shows 13 = .ok (.aload_n 0, 1) := by decide +kernel
theorem dX2_shows_14 : decode cX2_shows 14 = .ok (.iconst 1, 1) := by decide +kernel
theorem dX2_shows_15 : decode cX2_shows 15 = .ok (.invokevirtual 62, 3) := by decide +kernel
theorem dX2_shows_18 : decode cX2_shows 18 = .ok (.ireturn, 1) := by decide +kernel
theorem dX2_shows_19 : decode cX2_shows 19 = .ok (.iload_n 2, 1) := by decide +kernel
theorem dX2_shows_20 : decode cX2_shows 20 = .ok (.iconst 1, 1) := by decide +kernel
theorem dX2_shows_21 : decode cX2_shows 21 = .ok (.bipush 30, 2) := by decide +kernel
theorem dX2_shows_23 : decode cX2_shows 23 = .ok (.invokestatic 33, 3) := by decide +kernel
theorem dX2_shows_26 : decode cX2_shows 26 = .ok (.ifCond .ne 9, 3) := by decide +kernel
theorem dX2_shows_29 : decode cX2_shows 29 = .ok (.aload_n 0, 1) := by decide +kernel
theorem dX2_shows_30 : decode cX2_shows 30 = .ok (.iconst 2, 1) := by decide +kernel
theorem dX2_shows_31 : decode cX2_shows 31 = .ok (.invokevirtual 62, 3) := by decide +kernel
theorem dX2_shows_34 : decode cX2_shows 34 = .ok (.ireturn, 1) := by decide +kernel
theorem dX2_shows_35 : decode cX2_shows 35 = .ok (.iconst 0, 1) := by decide +kernel
theorem dX2_shows_36 : decode cX2_shows 36 = .ok (.istore_n 3, 1) := by decide +kernel
theorem dX2_shows_37 : decode cX2_shows 37 = .ok (.iconst 0, 1) := by decide +kernel
theorem dX2_shows_38 : decode cX2_shows 38 = .ok (.istore 4, 2) := by decide +kernel
theorem dX2_shows_40 : decode cX2_shows 40 = .ok (.iload 4, 2) := by decide +kernel
theorem dX2_shows_42 : decode cX2_shows 42 = .ok (.iload_n 2, 1) := by decide +kernel
theorem dX2_shows_43 : decode cX2_shows 43 = .ok (.if_icmp .ge 34, 3) := by decide +kernel
theorem dX2_shows_46 : decode cX2_shows 46 = .ok (.iconst 2, 1) := by decide +kernel
theorem dX2_shows_47 : decode cX2_shows 47 = .ok (.iload_n 3, 1) := by decide +kernel
theorem dX2_shows_48 : decode cX2_shows 48 = .ok (.imul, 1) := by decide +kernel
theorem dX2_shows_49 : decode cX2_shows 49 = .ok (.aload_n 0, 1) := by decide +kernel
theorem dX2_shows_50 : decode cX2_shows 50 = .ok (.iload_n 1, 1) := by decide +kernel
theorem dX2_shows_51 : decode cX2_shows 51 = .ok (.aload_n 0, 1) := by decide +kernel
theorem dX2_shows_52 : decode cX2_shows 52 = .ok (.getfield 59, 3) := by decide +kernel
theorem dX2_shows_55 : decode cX2_shows 55 = .ok (.iload 4, 2) := by decide +kernel
theorem dX2_shows_57 : decode cX2_shows 57 = .ok (.iadd, 1) := by decide +kernel
theorem dX2_shows_58 : decode cX2_shows 58 = .ok (.invokevirtual 45, 3) := by decide +kernel
theorem dX2_shows_61 : decode cX2_shows 61 = .ok (.ifCond .eq 7, 3) := by decide +kernel
theorem dX2_shows_64 : decode cX2_shows 64 = .ok (.iconst 1, 1) := by decide +kernel
theorem dX2_shows_65 : decode cX2_shows 65 = .ok (.goto 4, 3) := by decide +kernel
theorem dX2_shows_68 : decode cX2_shows 68 = .ok (.iconst 0, 1) := by decide +kernel
theorem dX2_shows_69 : decode cX2_shows 69 = .ok (.iadd, 1) := by decide +kernel
theorem dX2_shows_70 : decode cX2_shows 70 = .ok (.istore_n 3, 1) := by decide +kernel
theorem dX2_shows_71 : decode cX2_shows 71 = .ok (.iinc 4 1, 3) := by decide +kernel
theorem dX2_shows_74 : decode cX2_shows 74 = .ok (.goto (-34), 3) := by decide +kernel
theorem dX2_shows_77 : decode cX2_shows 77 = .ok (.iload_n 3, 1) := by decide +kernel
theorem dX2_shows_78 : decode cX2_shows 78 = .ok (.ireturn, 1) := by decide +kernel
set_option maxRecDepth 20000 in
theorem ggX2_wrongPair_X2_isLamp : GoodIn wsX2_wrongPair wsX2_isLamp := goodIn_r _ [5, 6, 7, 8, 4, 9, 10, 11, 12, 13, 14, 15, 16, 17, 18] (by decide +kernel) (by decide +kernel)
set_option maxRecDepth 20000 in
theorem gX2_wrongPair_X2_isLamp : GoodIn wsX2_wrongPair (wsV RX2 37 RX2 yX2_isLamp wsX2_isLamp) := goodIn_app (goodIn_of _ (by decide +kernel)) ggX2_wrongPair_X2_isLamp
theorem dX2_wrongPair_0 : decode cX2_wrongPair 0 = .ok (.aload_n 0, 1) := by decide +kernel
theorem dX2_wrongPair_1 : decode cX2_wrongPair 1 = .ok (.iload_n 1, 1) := by decide +kernel
theorem dX2_wrongPair_2 : decode cX2_wrongPair 2 = .ok (.invokevirtual 37, 3) := by decide +kernel
theorem dX2_wrongPair_5 : decode cX2_wrongPair 5 = .ok (.ifCond .eq 11, 3) := by decide +kernel
theorem dX2_wrongPair_8 : decode cX2_wrongPair 8 = .ok (.aload_n 0, 1) := by decide +kernel
theorem dX2_wrongPair_9 : decode cX2_wrongPair 9 = .ok (.iload_n 2, 1) := by decide +kernel
theorem dX2_wrongPair_10 : decode cX2_wrongPair 10 = .ok (.invokevirtual 37, 3) := by decide +kernel
theorem dX2_wrongPair_13 : decode cX2_wrongPair 13 = .ok (.ifCond .ne 7, 3) := by decide +kernel
theorem dX2_wrongPair_16 : decode cX2_wrongPair 16 = .ok (.iconst 1, 1) := by decide +kernel
theorem dX2_wrongPair_17 : decode cX2_wrongPair 17 = .ok (.goto 13, 3) := by decide +kernel
theorem dX2_wrongPair_20 : decode cX2_wrongPair 20 = .ok (.iload_n 1, 1) := by decide +kernel
theorem dX2_wrongPair_21 : decode cX2_wrongPair 21 = .ok (.iload_n 2, 1) := by decide +kernel
theorem dX2_wrongPair_22 : decode cX2_wrongPair 22 = .ok (.if_icmp .ne 7, 3) := by decide +kernel
theorem dX2_wrongPair_25 : decode cX2_wrongPair 25 = .ok (.iconst 2, 1) := by decide +kernel
theorem dX2_wrongPair_26 : decode cX2_wrongPair 26 = .ok (.goto 4, 3) := by decide +kernel
theorem dX2_wrongPair_29 : decode cX2_wrongPair 29 = .ok (.iconst 0, 1) := by decide +kernel
theorem dX2_wrongPair_30 : decode cX2_wrongPair 30 = .ok (.ireturn, 1) := by decide +kernel
set_option maxRecDepth 20000 in
theorem ggX2_collide_X2_changes : GoodIn wsX2_collide wsX2_changes := goodIn_r _ [5, 6, 7, 8, 4, 9, 10, 11, 12, 13, 14, 15, 16, 17, 18, 19, 20, 21] (by decide +kernel) (by decide +kernel)
set_option maxRecDepth 20000 in
theorem gX2_collide_X2_changes : GoodIn wsX2_collide (wsV RX2 53 RX2 yX2_changes wsX2_changes) := goodIn_app (goodIn_of _ (by decide +kernel)) ggX2_collide_X2_changes
theorem dX2_collide_0 : decode cX2_collide 0 = .ok (.aload_n 0, 1) := by decide +kernel
theorem dX2_collide_1 : decode cX2_collide 1 = .ok (.iload_n 1, 1) := by decide +kernel
theorem dX2_collide_2 : decode cX2_collide 2 = .ok (.iload_n 3, 1) := by decide +kernel
theorem dX2_collide_3 : decode cX2_collide 3 = .ok (.invokevirtual 53, 3) := by decide +kernel
theorem dX2_collide_6 : decode cX2_collide 6 = .ok (.ifCond .eq 16, 3) := by decide +kernel
theorem dX2_collide_9 : decode cX2_collide 9 = .ok (.aload_n 0, 1) := by decide +kernel
theorem dX2_collide_10 : decode cX2_collide 10 = .ok (.iload_n 2, 1) := by decide +kernel
theorem dX2_collide_11 : decode cX2_collide 11 = .ok (.iload_n 3, 1) := by decide +kernel
theorem dX2_collide_12 : decode cX2_collide 12 = .ok (.invokevirtual 53, 3) := by decide +kernel
theorem dX2_collide_15 : decode cX2_collide 15 = .ok (.ifCond .eq 7, 3) := by decide +kernel
theorem dX2_collide_18 : decode cX2_collide 18 = .ok (.iconst 1, 1) := by decide +kernel
theorem dX2_collide_19 : decode cX2_collide 19 = .ok (.goto 4, 3) := by decide +kernel
theorem dX2_collide_22 : decode cX2_collide 22 = .ok (.iconst 0, 1) := by decide +kernel
theorem dX2_collide_23 : decode cX2_collide 23 = .ok (.ireturn, 1) := by decide +kernel
set_option maxRecDepth 20000 in
theorem ggX2_momentsUntilCollision_X2_wrongPair : GoodIn wsX2_momentsUntilCollision wsX2_wrongPair := goodIn_r _ [7, 8, 9, 10, 6, 11, 12, 13, 14, 15, 31, 32, 33, 34, 35, 36, 37, 38, 39] (by decide +kernel) (by decide +kernel)
set_option maxRecDepth 20000 in
theorem gX2_momentsUntilCollision_X2_wrongPair : GoodIn wsX2_momentsUntilCollision (wsV RX2 90 RX2 yX2_wrongPair wsX2_wrongPair) := goodIn_app (goodIn_of _ (by decide +kernel)) ggX2_momentsUntilCollision_X2_wrongPair
set_option maxRecDepth 20000 in
theorem ggX2_momentsUntilCollision_X2_collide : GoodIn wsX2_momentsUntilCollision wsX2_collide := goodIn_r _ [19, 20, 21, 22, 6, 23, 24, 25, 26, 27, 28, 29, 30, 31, 32, 33, 34, 35, 36, 37, 38, 39] (by decide +kernel) (by decide +kernel)
set_option maxRecDepth 20000 in
theorem gX2_momentsUntilCollision_X2_collide : GoodIn wsX2_momentsUntilCollision (wsV RX2 93 RX2 yX2_collide wsX2_collide) := goodIn_app (goodIn_of _ (by decide +kernel)) ggX2_momentsUntilCollision_X2_collide
theorem dX2_momentsUntilCollision_0 : decode cX2_momentsUntilCollision 0 = .ok (.aload_n 0, 1) := by decide +kernel
theorem dX2_momentsUntilCollision_1 : decode cX2_momentsUntilCollision 1 = .ok (.aload_n 0, 1) := by decide +kernel
theorem dX2_momentsUntilCollision_2 : decode cX2_momentsUntilCollision 2 = .ok (.iload_n 1, 1) := by decide +kernel
theorem dX2_momentsUntilCollision_3 : decode cX2_momentsUntilCollision 3 = .ok (.iload_n 2, 1) := by decide +kernel
theorem dX2_momentsUntilCollision_4 : decode cX2_momentsUntilCollision 4 = .ok (.invokevirtual 90, 3) := by decide +kernel
theorem dX2_momentsUntilCollision_7 : decode cX2_momentsUntilCollision 7 = .ok (.putfield 26, 3) := by decide +kernel
theorem dX2_momentsUntilCollision_10 : decode cX2_momentsUntilCollision 10 = .ok (.aload_n 0, 1) := by decide +kernel
theorem dX2_momentsUntilCollision_11 : decode cX2_momentsUntilCollision 11 = .ok (.getfield 26, 3) := by decide +kernel
theorem dX2_momentsUntilCollision_14 : decode cX2_momentsUntilCollision 14 = .ok (.ifCond .le 5, 3) := by decide +kernel
theorem dX2_momentsUntilCollision_17 : decode cX2_momentsUntilCollision 17 = .ok (.iconst 0, 1) := by decide +kernel
theorem dX2_momentsUntilCollision_18 : decode cX2_momentsUntilCollision 18 = .ok (.ireturn, 1) := by decide +kernel
theorem dX2_momentsUntilCollision_19 : decode cX2_momentsUntilCollision 19 = .ok (.iconst 1, 1) := by decide +kernel
theorem dX2_momentsUntilCollision_20 : decode cX2_momentsUntilCollision 20 = .ok (.istore_n 3, 1) := by decide +kernel
theorem dX2_momentsUntilCollision_21 : decode cX2_momentsUntilCollision 21 = .ok (.iload_n 3, 1) := by decide +kernel
theorem dX2_momentsUntilCollision_22 : decode cX2_momentsUntilCollision 22 = .ok (.sipush 1000, 3) := by decide +kernel
theorem dX2_momentsUntilCollision_25 : decode cX2_momentsUntilCollision 25 = .ok (.if_icmp .gt 26, 3) := by decide +kernel
theorem dX2_momentsUntilCollision_28 : decode cX2_momentsUntilCollision 28 = .ok (.aload_n 0, 1) := by decide +kernel
theorem dX2_momentsUntilCollision_29 : decode cX2_momentsUntilCollision 29 = .ok (.iload_n 1, 1) := by decide +kernel
theorem dX2_momentsUntilCollision_30 : decode cX2_momentsUntilCollision 30 = .ok (.iload_n 2, 1) := by decide +kernel
theorem dX2_momentsUntilCollision_31 : decode cX2_momentsUntilCollision 31 = .ok (.aload_n 0, 1) := by decide +kernel
theorem dX2_momentsUntilCollision_32 : decode cX2_momentsUntilCollision 32 = .ok (.getfield 59, 3) := by decide +kernel
theorem dX2_momentsUntilCollision_35 : decode cX2_momentsUntilCollision 35 = .ok (.iload_n 3, 1) := by decide +kernel
theorem dX2_momentsUntilCollision_36 : decode cX2_momentsUntilCollision 36 = .ok (.iadd, 1) := by decide +kernel
theorem dX2_momentsUntilCollision_37 : decode cX2_momentsUntilCollision 37 = .ok (.invokevirtual 93, 3) := by decide +kernel
theorem dX2_momentsUntilCollision_40 : decode cX2_momentsUntilCollision 40 = .ok (.ifCond .eq 5, 3) := by decide +kernel
theorem dX2_momentsUntilCollision_43 : decode cX2_momentsUntilCollision 43 = .ok (.iload_n 3, 1) := by decide +kernel
theorem dX2_momentsUntilCollision_44 : decode cX2_momentsUntilCollision 44 = .ok (.ireturn, 1) := by decide +kernel
theorem dX2_momentsUntilCollision_45 : decode cX2_momentsUntilCollision 45 = .ok (.iinc 3 1, 3) := by decide +kernel
theorem dX2_momentsUntilCollision_48 : decode cX2_momentsUntilCollision 48 = .ok (.goto (-27), 3) := by decide +kernel
theorem dX2_momentsUntilCollision_51 : decode cX2_momentsUntilCollision 51 = .ok (.iconst (-1), 1) := by decide +kernel
theorem dX2_momentsUntilCollision_52 : decode cX2_momentsUntilCollision 52 = .ok (.ireturn, 1) := by decide +kernel
set_option maxRecDepth 20000 in
theorem ggX2_collisionsWithin_X2_wrongPair : GoodIn wsX2_collisionsWithin wsX2_wrongPair := goodIn_r _ [7, 8, 9, 10, 6, 11, 12, 13, 14, 15, 35, 36, 37, 38, 39, 40, 41, 42, 43] (by decide +kernel) (by decide +kernel)
set_option maxRecDepth 20000 in
theorem gX2_collisionsWithin_X2_wrongPair : GoodIn wsX2_collisionsWithin (wsV RX2 90 RX2 yX2_wrongPair wsX2_wrongPair) := goodIn_app (goodIn_of _ (by decide +kernel)) ggX2_collisionsWithin_X2_wrongPair
set_option maxRecDepth 20000 in
theorem ggX2_collisionsWithin_X2_isIn : GoodIn wsX2_collisionsWithin wsX2_isIn := goodIn_r _ [15] (by decide +kernel) (by decide +kernel)
set_option maxRecDepth 20000 in
theorem gX2_collisionsWithin_X2_isIn : GoodIn wsX2_collisionsWithin (va_wsS RX2 33 yX2_isIn wsX2_isIn) := goodIn_app (goodIn_of _ (by decide +kernel)) ggX2_collisionsWithin_X2_isIn
set_option maxRecDepth 20000 in
theorem ggX2_collisionsWithin_X2_no : GoodIn wsX2_collisionsWithin wsX2_no := goodIn_r _ [19, 1, 35, 36, 37, 38, 39, 40, 41, 42, 43] (by decide +kernel) (by decide +kernel)
set_option maxRecDepth 20000 in
theorem gX2_collisionsWithin_X2_no : GoodIn wsX2_collisionsWithin (wsV RX2 62 RX2 yX2_no wsX2_no) := goodIn_app (goodIn_of _ (by decide +kernel)) ggX2_collisionsWithin_X2_no
set_option maxRecDepth 20000 in
theorem ggX2_collisionsWithin_X2_collide : GoodIn wsX2_collisionsWithin wsX2_collide := goodIn_r _ [23, 24, 25, 26, 6, 27, 28, 29, 30, 31, 32, 33, 34, 35, 36, 37, 38, 39, 40, 41, 42, 43] (by decide +kernel) (by decide +kernel)
set_option maxRecDepth 20000 in
theorem gX2_collisionsWithin_X2_collide : GoodIn wsX2_collisionsWithin (wsV RX2 93 RX2 yX2_collide wsX2_collide) := goodIn_app (goodIn_of _ (by decide +kernel)) ggX2_collisionsWithin_X2_collide
theorem dX2_collisionsWithin_0 : decode cX2_collisionsWithin 0 = .ok (.aload_n 0, 1) := by decide +kernel
theorem dX2_collisionsWithin_1 : decode cX2_collisionsWithin 1 = .ok (.aload_n 0, 1) := by decide +kernel
theorem dX2_collisionsWithin_2 : decode cX2_collisionsWithin 2 = .ok (.iload_n 1, 1) := by decide +kernel
theorem dX2_collisionsWithin_3 : decode cX2_collisionsWithin 3 = .ok (.iload_n 2, 1) := by decide +kernel
theorem dX2_collisionsWithin_4 : decode cX2_collisionsWithin 4 = .ok (.invokevirtual 90, 3) := by decide +kernel
theorem dX2_collisionsWithin_7 : decode cX2_collisionsWithin 7 = .ok (.putfield 26, 3) := by decide +kernel
theorem dX2_collisionsWithin_10 : decode cX2_collisionsWithin 10 = .ok (.aload_n 0, 1) := by decide +kernel
theorem dX2_collisionsWithin_11 : decode cX2_collisionsWithin 11 = .ok (.getfield 26, 3) := by decide +kernel
theorem dX2_collisionsWithin_14 : decode cX2_collisionsWithin 14 = .ok (.ifCond .le 5, 3) := by decide +kernel
theorem dX2_collisionsWithin_17 : decode cX2_collisionsWithin 17 = .ok (.iconst 0, 1) := by decide +kernel
theorem dX2_collisionsWithin_18 : decode cX2_collisionsWithin 18 = .ok (.ireturn, 1) := by decide +kernel
theorem dX2_collisionsWithin_19 : decode cX2_collisionsWithin 19 = .ok (.iload_n 3, 1) := by decide +kernel
theorem dX2_collisionsWithin_20 : decode cX2_collisionsWithin 20 = .ok (.iconst 1, 1) := by decide +kernel
theorem dX2_collisionsWithin_21 : decode cX2_collisionsWithin 21 = .ok (.sipush 500, 3) := by decide +kernel
theorem dX2_collisionsWithin_24 : decode cX2_collisionsWithin 24 = .ok (.invokestatic 33, 3) := by decide +kernel
theorem dX2_collisionsWithin_27 : decode cX2_collisionsWithin 27 = .ok (.ifCond .ne 9, 3) := by decide +kernel
theorem dX2_collisionsWithin_30 : decode cX2_collisionsWithin 30 = .ok (.aload_n 0, 1) := by decide +kernel
theorem dX2_collisionsWithin_31 : decode cX2_collisionsWithin 31 = .ok (.iconst 2, 1) := by decide +kernel
theorem dX2_collisionsWithin_32 : decode cX2_collisionsWithin 32 = .ok (.invokevirtual 62, 3) := by decide +kernel
theorem dX2_collisionsWithin_35 : decode cX2_collisionsWithin 35 = .ok (.ireturn, 1) := by decide +kernel
theorem dX2_collisionsWithin_36 : decode cX2_collisionsWithin 36 = .ok (.iconst 0, 1) := by decide +kernel
theorem dX2_collisionsWithin_37 : decode cX2_collisionsWithin 37 = .ok (.istore 4, 2) := by decide +kernel
theorem dX2_collisionsWithin_39 : decode cX2_collisionsWithin 39 = .ok (.iconst 1, 1) := by decide +kernel
theorem dX2_collisionsWithin_40 : decode cX2_collisionsWithin 40 = .ok (.istore 5, 2) := by decide +kernel
theorem dX2_collisionsWithin_42 : decode cX2_collisionsWithin 42 = .ok (.iload 5, 2) := by decide +kernel
theorem dX2_collisionsWithin_44 : decode cX2_collisionsWithin 44 = .ok (.iload_n 3, 1) := by decide +kernel
theorem dX2_collisionsWithin_45 : decode cX2_collisionsWithin 45 = .ok (.if_icmp .gt 35, 3) := by decide +kernel
theorem dX2_collisionsWithin_48 : decode cX2_collisionsWithin 48 = .ok (.iload 4, 2) := by decide +kernel
theorem dX2_collisionsWithin_50 : decode cX2_collisionsWithin 50 = .ok (.aload_n 0, 1) := by decide +kernel
theorem dX2_collisionsWithin_51 : decode cX2_collisionsWithin 51 = .ok (.iload_n 1, 1) := by decide +kernel
theorem dX2_collisionsWithin_52 : decode cX2_collisionsWithin 52 = .ok (.iload_n 2, 1) := by decide +kernel
theorem dX2_collisionsWithin_53 : decode cX2_collisionsWithin 53 = .ok (.aload_n 0, 1) := by decide +kernel
theorem dX2_collisionsWithin_54 : decode cX2_collisionsWithin 54 = .ok (.getfield 59, 3) := by decide +kernel
theorem dX2_collisionsWithin_57 : decode cX2_collisionsWithin 57 = .ok (.iload 5, 2) := by decide +kernel
theorem dX2_collisionsWithin_59 : decode cX2_collisionsWithin 59 = .ok (.iadd, 1) := by decide +kernel
theorem dX2_collisionsWithin_60 : decode cX2_collisionsWithin 60 = .ok (.invokevirtual 93, 3) := by decide +kernel
theorem dX2_collisionsWithin_63 : decode cX2_collisionsWithin 63 = .ok (.ifCond .eq 7, 3) := by decide +kernel
theorem dX2_collisionsWithin_66 : decode cX2_collisionsWithin 66 = .ok (.iconst 1, 1) := by decide +kernel
theorem dX2_collisionsWithin_67 : decode cX2_collisionsWithin 67 = .ok (.goto 4, 3) := by decide +kernel
theorem dX2_collisionsWithin_70 : decode cX2_collisionsWithin 70 = .ok (.iconst 0, 1) := by decide +kernel
theorem dX2_collisionsWithin_71 : decode cX2_collisionsWithin 71 = .ok (.iadd, 1) := by decide +kernel
theorem dX2_collisionsWithin_72 : decode cX2_collisionsWithin 72 = .ok (.istore 4, 2) := by decide +kernel
theorem dX2_collisionsWithin_74 : decode cX2_collisionsWithin 74 = .ok (.iinc 5 1, 3) := by decide +kernel
theorem dX2_collisionsWithin_77 : decode cX2_collisionsWithin 77 = .ok (.goto (-35), 3) := by decide +kernel
theorem dX2_collisionsWithin_80 : decode cX2_collisionsWithin 80 = .ok (.iload 4, 2) := by decide +kernel
theorem dX2_collisionsWithin_82 : decode cX2_collisionsWithin 82 = .ok (.ireturn, 1) := by decide +kernel
set_option maxRecDepth 20000 in
theorem ggX2_momentsUntilToldApart_X2_wrongPair : GoodIn wsX2_momentsUntilToldApart wsX2_wrongPair := goodIn_r _ [8, 9, 10, 11, 7, 12, 13, 14, 15, 16, 25, 26, 27, 28, 29, 30, 31, 32, 33] (by decide +kernel) (by decide +kernel)
set_option maxRecDepth 20000 in
theorem gX2_momentsUntilToldApart_X2_wrongPair : GoodIn wsX2_momentsUntilToldApart (wsV RX2 90 RX2 yX2_wrongPair wsX2_wrongPair) := goodIn_app (goodIn_of _ (by decide +kernel)) ggX2_momentsUntilToldApart_X2_wrongPair
set_option maxRecDepth 20000 in
theorem ggX2_momentsUntilToldApart_X2_onAt : GoodIn wsX2_momentsUntilToldApart wsX2_onAt := goodIn_r _ [20, 21, 22, 23, 24, 25, 26, 27, 28, 29, 30, 31, 32, 33] (by decide +kernel) (by decide +kernel)
set_option maxRecDepth 20000 in
theorem gX2_momentsUntilToldApart_X2_onAt : GoodIn wsX2_momentsUntilToldApart (wsV RX2 45 RX2 yX2_onAt wsX2_onAt) := goodIn_app (goodIn_of _ (by decide +kernel)) ggX2_momentsUntilToldApart_X2_onAt
theorem dX2_momentsUntilToldApart_0 : decode cX2_momentsUntilToldApart 0 = .ok (.aload_n 0, 1) := by decide +kernel
theorem dX2_momentsUntilToldApart_1 : decode cX2_momentsUntilToldApart 1 = .ok (.aload_n 0, 1) := by decide +kernel
theorem dX2_momentsUntilToldApart_2 : decode cX2_momentsUntilToldApart 2 = .ok (.iload_n 1, 1) := by decide +kernel
theorem dX2_momentsUntilToldApart_3 : decode cX2_momentsUntilToldApart 3 = .ok (.iload_n 2, 1) := by decide +kernel
theorem dX2_momentsUntilToldApart_4 : decode cX2_momentsUntilToldApart 4 = .ok (.invokevirtual 90, 3) := by decide +kernel
theorem dX2_momentsUntilToldApart_7 : decode cX2_momentsUntilToldApart 7 = .ok (.putfield 26, 3) := by decide +kernel
theorem dX2_momentsUntilToldApart_10 : decode cX2_momentsUntilToldApart 10 = .ok (.aload_n 0, 1) := by decide +kernel
theorem dX2_momentsUntilToldApart_11 : decode cX2_momentsUntilToldApart 11 = .ok (.getfield 26, 3) := by decide +kernel
theorem dX2_momentsUntilToldApart_14 : decode cX2_momentsUntilToldApart 14 = .ok (.ifCond .le 5, 3) := by decide +kernel
theorem dX2_momentsUntilToldApart_17 : decode cX2_momentsUntilToldApart 17 = .ok (.iconst 0, 1) := by decide +kernel
theorem dX2_momentsUntilToldApart_18 : decode cX2_momentsUntilToldApart 18 = .ok (.ireturn, 1) := by decide +kernel
theorem dX2_momentsUntilToldApart_19 : decode cX2_momentsUntilToldApart 19 = .ok (.iconst 0, 1) := by decide +kernel
theorem dX2_momentsUntilToldApart_20 : decode cX2_momentsUntilToldApart 20 = .ok (.istore_n 3, 1) := by decide +kernel
theorem dX2_momentsUntilToldApart_21 : decode cX2_momentsUntilToldApart 21 = .ok (.iload_n 3, 1) := by decide +kernel
theorem dX2_momentsUntilToldApart_22 : decode cX2_momentsUntilToldApart 22 = .ok (.ldc 96, 2) := by decide +kernel
theorem dX2_momentsUntilToldApart_24 : decode cX2_momentsUntilToldApart 24 = .ok (.if_icmp .gt 36, 3) := by decide +kernel
theorem dX2_momentsUntilToldApart_27 : decode cX2_momentsUntilToldApart 27 = .ok (.aload_n 0, 1) := by decide +kernel
theorem dX2_momentsUntilToldApart_28 : decode cX2_momentsUntilToldApart 28 = .ok (.iload_n 1, 1) := by decide +kernel
theorem dX2_momentsUntilToldApart_29 : decode cX2_momentsUntilToldApart 29 = .ok (.aload_n 0, 1) := by decide +kernel
theorem dX2_momentsUntilToldApart_30 : decode cX2_momentsUntilToldApart 30 = .ok (.getfield 59, 3) := by decide +kernel
theorem dX2_momentsUntilToldApart_33 : decode cX2_momentsUntilToldApart 33 = .ok (.iload_n 3, 1) := by decide +kernel
theorem dX2_momentsUntilToldApart_34 : decode cX2_momentsUntilToldApart 34 = .ok (.iadd, 1) := by decide +kernel
theorem dX2_momentsUntilToldApart_35 : decode cX2_momentsUntilToldApart 35 = .ok (.invokevirtual 45, 3) := by decide +kernel
theorem dX2_momentsUntilToldApart_38 : decode cX2_momentsUntilToldApart 38 = .ok (.aload_n 0, 1) := by decide +kernel
theorem dX2_momentsUntilToldApart_39 : decode cX2_momentsUntilToldApart 39 = .ok (.iload_n 2, 1) := by decide +kernel
theorem dX2_momentsUntilToldApart_40 : decode cX2_momentsUntilToldApart 40 = .ok (.aload_n 0, 1) := by decide +kernel
theorem dX2_momentsUntilToldApart_41 : decode cX2_momentsUntilToldApart 41 = .ok (.getfield 59, 3) := by decide +kernel
theorem dX2_momentsUntilToldApart_44 : decode cX2_momentsUntilToldApart 44 = .ok (.iload_n 3, 1) := by decide +kernel
theorem dX2_momentsUntilToldApart_45 : decode cX2_momentsUntilToldApart 45 = .ok (.iadd, 1) := by decide +kernel
theorem dX2_momentsUntilToldApart_46 : decode cX2_momentsUntilToldApart 46 = .ok (.invokevirtual 45, 3) := by decide +kernel
theorem dX2_momentsUntilToldApart_49 : decode cX2_momentsUntilToldApart 49 = .ok (.if_icmp .eq 5, 3) := by decide +kernel
theorem dX2_momentsUntilToldApart_52 : decode cX2_momentsUntilToldApart 52 = .ok (.iload_n 3, 1) := by decide +kernel
theorem dX2_momentsUntilToldApart_53 : decode cX2_momentsUntilToldApart 53 = .ok (.ireturn, 1) := by decide +kernel
theorem dX2_momentsUntilToldApart_54 : decode cX2_momentsUntilToldApart 54 = .ok (.iinc 3 1, 3) := by decide +kernel
theorem dX2_momentsUntilToldApart_57 : decode cX2_momentsUntilToldApart 57 = .ok (.goto (-36), 3) := by decide +kernel
theorem dX2_momentsUntilToldApart_60 : decode cX2_momentsUntilToldApart 60 = .ok (.iconst (-1), 1) := by decide +kernel
theorem dX2_momentsUntilToldApart_61 : decode cX2_momentsUntilToldApart 61 = .ok (.ireturn, 1) := by decide +kernel
set_option maxRecDepth 20000 in
theorem ggX2_momentsUntilDark_X2_litAt : GoodIn wsX2_momentsUntilDark wsX2_litAt := goodIn_r _ [7, 8, 9, 10, 11, 12, 6, 13, 14, 15, 16, 17, 18, 19, 20, 21, 22, 23, 24, 25, 26] (by decide +kernel) (by decide +kernel)
set_option maxRecDepth 20000 in
theorem gX2_momentsUntilDark_X2_litAt : GoodIn wsX2_momentsUntilDark (wsV RX2 77 RX2 yX2_litAt wsX2_litAt) := goodIn_app (goodIn_of _ (by decide +kernel)) ggX2_momentsUntilDark_X2_litAt
theorem dX2_momentsUntilDark_0 : decode cX2_momentsUntilDark 0 = .ok (.aload_n 0, 1) := by decide +kernel
theorem dX2_momentsUntilDark_1 : decode cX2_momentsUntilDark 1 = .ok (.iconst 0, 1) := by decide +kernel
theorem dX2_momentsUntilDark_2 : decode cX2_momentsUntilDark 2 = .ok (.putfield 26, 3) := by decide +kernel
theorem dX2_momentsUntilDark_5 : decode cX2_momentsUntilDark 5 = .ok (.iconst 0, 1) := by decide +kernel
theorem dX2_momentsUntilDark_6 : decode cX2_momentsUntilDark 6 = .ok (.istore_n 1, 1) := by decide +kernel
theorem dX2_momentsUntilDark_7 : decode cX2_momentsUntilDark 7 = .ok (.iload_n 1, 1) := by decide +kernel
theorem dX2_momentsUntilDark_8 : decode cX2_momentsUntilDark 8 = .ok (.sipush 2000, 3) := by decide +kernel
theorem dX2_momentsUntilDark_11 : decode cX2_momentsUntilDark 11 = .ok (.if_icmp .gt 25, 3) := by decide +kernel
theorem dX2_momentsUntilDark_14 : decode cX2_momentsUntilDark 14 = .ok (.aload_n 0, 1) := by decide +kernel
theorem dX2_momentsUntilDark_15 : decode cX2_momentsUntilDark 15 = .ok (.aload_n 0, 1) := by decide +kernel
theorem dX2_momentsUntilDark_16 : decode cX2_momentsUntilDark 16 = .ok (.getfield 59, 3) := by decide +kernel
theorem dX2_momentsUntilDark_19 : decode cX2_momentsUntilDark 19 = .ok (.iload_n 1, 1) := by decide +kernel
theorem dX2_momentsUntilDark_20 : decode cX2_momentsUntilDark 20 = .ok (.iadd, 1) := by decide +kernel
theorem dX2_momentsUntilDark_21 : decode cX2_momentsUntilDark 21 = .ok (.iconst (-1), 1) := by decide +kernel
theorem dX2_momentsUntilDark_22 : decode cX2_momentsUntilDark 22 = .ok (.invokevirtual 77, 3) := by decide +kernel
theorem dX2_momentsUntilDark_25 : decode cX2_momentsUntilDark 25 = .ok (.ifCond .ne 5, 3) := by decide +kernel
theorem dX2_momentsUntilDark_28 : decode cX2_momentsUntilDark 28 = .ok (.iload_n 1, 1) := by decide +kernel
theorem dX2_momentsUntilDark_29 : decode cX2_momentsUntilDark 29 = .ok (.ireturn, 1) := by decide +kernel
theorem dX2_momentsUntilDark_30 : decode cX2_momentsUntilDark 30 = .ok (.iinc 1 1, 3) := by decide +kernel
theorem dX2_momentsUntilDark_33 : decode cX2_momentsUntilDark 33 = .ok (.goto (-26), 3) := by decide +kernel
theorem dX2_momentsUntilDark_36 : decode cX2_momentsUntilDark 36 = .ok (.iconst (-1), 1) := by decide +kernel
theorem dX2_momentsUntilDark_37 : decode cX2_momentsUntilDark 37 = .ok (.ireturn, 1) := by decide +kernel
set_option maxRecDepth 20000 in
theorem ggX2_darkWith_X2_litAt : GoodIn wsX2_darkWith wsX2_litAt := goodIn_r _ [6, 7, 8, 9, 10, 11, 5, 12, 13, 14, 15, 16, 17, 18, 19, 20, 21, 22, 23, 24, 25] (by decide +kernel) (by decide +kernel)
set_option maxRecDepth 20000 in
theorem gX2_darkWith_X2_litAt : GoodIn wsX2_darkWith (wsV RX2 77 RX2 yX2_litAt wsX2_litAt) := goodIn_app (goodIn_of _ (by decide +kernel)) ggX2_darkWith_X2_litAt
theorem dX2_darkWith_0 : decode cX2_darkWith 0 = .ok (.iconst 0, 1) := by decide +kernel
theorem dX2_darkWith_1 : decode cX2_darkWith 1 = .ok (.istore_n 3, 1) := by decide +kernel
theorem dX2_darkWith_2 : decode cX2_darkWith 2 = .ok (.iconst 1, 1) := by decide +kernel
theorem dX2_darkWith_3 : decode cX2_darkWith 3 = .ok (.istore 4, 2) := by decide +kernel
theorem dX2_darkWith_5 : decode cX2_darkWith 5 = .ok (.iload 4, 2) := by decide +kernel
theorem dX2_darkWith_7 : decode cX2_darkWith 7 = .ok (.iload_n 1, 1) := by decide +kernel
theorem dX2_darkWith_8 : decode cX2_darkWith 8 = .ok (.if_icmp .gt 32, 3) := by decide +kernel
theorem dX2_darkWith_11 : decode cX2_darkWith 11 = .ok (.iload_n 3, 1) := by decide +kernel
theorem dX2_darkWith_12 : decode cX2_darkWith 12 = .ok (.aload_n 0, 1) := by decide +kernel
theorem dX2_darkWith_13 : decode cX2_darkWith 13 = .ok (.aload_n 0, 1) := by decide +kernel
theorem dX2_darkWith_14 : decode cX2_darkWith 14 = .ok (.getfield 59, 3) := by decide +kernel
theorem dX2_darkWith_17 : decode cX2_darkWith 17 = .ok (.iload 4, 2) := by decide +kernel
theorem dX2_darkWith_19 : decode cX2_darkWith 19 = .ok (.iadd, 1) := by decide +kernel
theorem dX2_darkWith_20 : decode cX2_darkWith 20 = .ok (.iload_n 2, 1) := by decide +kernel
theorem dX2_darkWith_21 : decode cX2_darkWith 21 = .ok (.invokevirtual 77, 3) := by decide +kernel
theorem dX2_darkWith_24 : decode cX2_darkWith 24 = .ok (.ifCond .ne 7, 3) := by decide +kernel
theorem dX2_darkWith_27 : decode cX2_darkWith 27 = .ok (.iconst 1, 1) := by decide +kernel
theorem dX2_darkWith_28 : decode cX2_darkWith 28 = .ok (.goto 4, 3) := by decide +kernel
theorem dX2_darkWith_31 : decode cX2_darkWith 31 = .ok (.iconst 0, 1) := by decide +kernel
theorem dX2_darkWith_32 : decode cX2_darkWith 32 = .ok (.iadd, 1) := by decide +kernel
theorem dX2_darkWith_33 : decode cX2_darkWith 33 = .ok (.istore_n 3, 1) := by decide +kernel
theorem dX2_darkWith_34 : decode cX2_darkWith 34 = .ok (.iinc 4 1, 3) := by decide +kernel
theorem dX2_darkWith_37 : decode cX2_darkWith 37 = .ok (.goto (-32), 3) := by decide +kernel
theorem dX2_darkWith_40 : decode cX2_darkWith 40 = .ok (.iload_n 3, 1) := by decide +kernel
theorem dX2_darkWith_41 : decode cX2_darkWith 41 = .ok (.ireturn, 1) := by decide +kernel
set_option maxRecDepth 20000 in
theorem ggX2_darkWithin_X2_isIn : GoodIn wsX2_darkWithin wsX2_isIn := goodIn_r _ [5] (by decide +kernel) (by decide +kernel)
set_option maxRecDepth 20000 in
theorem gX2_darkWithin_X2_isIn : GoodIn wsX2_darkWithin (va_wsS RX2 33 yX2_isIn wsX2_isIn) := goodIn_app (goodIn_of _ (by decide +kernel)) ggX2_darkWithin_X2_isIn
set_option maxRecDepth 20000 in
theorem ggX2_darkWithin_X2_darkWith : GoodIn wsX2_darkWithin wsX2_darkWith := goodIn_r _ [9, 10, 11, 12, 13, 4, 14, 15, 16, 17, 18, 19, 20, 21, 22, 23, 24, 29, 30, 31, 32, 33, 34, 35, 36, 37] (by decide +kernel) (by decide +kernel)
set_option maxRecDepth 20000 in
theorem gX2_darkWithin_X2_darkWith : GoodIn wsX2_darkWithin (wsV RX2 97 RX2 yX2_darkWith wsX2_darkWith) := goodIn_app (goodIn_of _ (by decide +kernel)) ggX2_darkWithin_X2_darkWith
set_option maxRecDepth 20000 in
theorem ggX2_darkWithin_X2_no : GoodIn wsX2_darkWithin wsX2_no := goodIn_r _ [28, 1, 29, 30, 31, 32, 33, 34, 35, 36, 37] (by decide +kernel) (by decide +kernel)
set_option maxRecDepth 20000 in
theorem gX2_darkWithin_X2_no : GoodIn wsX2_darkWithin (wsV RX2 62 RX2 yX2_no wsX2_no) := goodIn_app (goodIn_of _ (by decide +kernel)) ggX2_darkWithin_X2_no
theorem dX2_darkWithin_0 : decode cX2_darkWithin 0 = .ok (.aload_n 0, 1) := by decide +kernel
theorem dX2_darkWithin_1 : decode cX2_darkWithin 1 = .ok (.iconst 0, 1) := by decide +kernel
theorem dX2_darkWithin_2 : decode cX2_darkWithin 2 = .ok (.putfield 26, 3) := by decide +kernel
theorem dX2_darkWithin_5 : decode cX2_darkWithin 5 = .ok (.iload_n 1, 1) := by decide +kernel
theorem dX2_darkWithin_6 : decode cX2_darkWithin 6 = .ok (.iconst 1, 1) := by decide +kernel
theorem dX2_darkWithin_7 : decode cX2_darkWithin 7 = .ok (.sipush 500, 3) := by decide +kernel
theorem dX2_darkWithin_10 : decode cX2_darkWithin 10 = .ok (.invokestatic 33, 3) := by decide +kernel
theorem dX2_darkWithin_13 : decode cX2_darkWithin 13 = .ok (.ifCond .eq 12, 3) := by decide +kernel
theorem dX2_darkWithin_16 : decode cX2_darkWithin 16 = .ok (.aload_n 0, 1) := by decide +kernel
theorem dX2_darkWithin_17 : decode cX2_darkWithin 17 = .ok (.iload_n 1, 1) := by decide +kernel
theorem dX2_darkWithin_18 : decode cX2_darkWithin 18 = .ok (.iconst (-1), 1) := by decide +kernel
theorem dX2_darkWithin_19 : decode cX2_darkWithin 19 = .ok (.invokevirtual 97, 3) := by decide +kernel
theorem dX2_darkWithin_22 : decode cX2_darkWithin 22 = .ok (.goto 8, 3) := by decide +kernel
theorem dX2_darkWithin_25 : decode cX2_darkWithin 25 = .ok (.aload_n 0, 1) := by decide +kernel
theorem dX2_darkWithin_26 : decode cX2_darkWithin 26 = .ok (.iconst 1, 1) := by decide +kernel
theorem dX2_darkWithin_27 : decode cX2_darkWithin 27 = .ok (.invokevirtual 62, 3) := by decide +kernel
theorem dX2_darkWithin_30 : decode cX2_darkWithin 30 = .ok (.ireturn, 1) := by decide +kernel
set_option maxRecDepth 20000 in
theorem ggX2_brightestWithin_X2_isIn : GoodIn wsX2_brightestWithin wsX2_isIn := goodIn_r _ [6] (by decide +kernel) (by decide +kernel)
set_option maxRecDepth 20000 in
theorem gX2_brightestWithin_X2_isIn : GoodIn wsX2_brightestWithin (va_wsS RX2 33 yX2_isIn wsX2_isIn) := goodIn_app (goodIn_of _ (by decide +kernel)) ggX2_brightestWithin_X2_isIn
set_option maxRecDepth 20000 in
theorem ggX2_brightestWithin_X2_no : GoodIn wsX2_brightestWithin wsX2_no := goodIn_r _ [10, 1, 25, 26, 27, 28, 29, 30, 31, 32, 33] (by decide +kernel) (by decide +kernel)
set_option maxRecDepth 20000 in
theorem gX2_brightestWithin_X2_no : GoodIn wsX2_brightestWithin (wsV RX2 62 RX2 yX2_no wsX2_no) := goodIn_app (goodIn_of _ (by decide +kernel)) ggX2_brightestWithin_X2_no
set_option maxRecDepth 20000 in
theorem ggX2_brightestWithin_X2_litAt : GoodIn wsX2_brightestWithin wsX2_litAt := goodIn_r _ [14, 15, 16, 17, 18, 19, 5, 20, 21, 22, 23, 24, 25, 26, 27, 28, 29, 30, 31, 32, 33] (by decide +kernel) (by decide +kernel)
set_option maxRecDepth 20000 in
theorem gX2_brightestWithin_X2_litAt : GoodIn wsX2_brightestWithin (wsV RX2 77 RX2 yX2_litAt wsX2_litAt) := goodIn_app (goodIn_of _ (by decide +kernel)) ggX2_brightestWithin_X2_litAt
theorem dX2_brightestWithin_0 : decode cX2_brightestWithin 0 = .ok (.aload_n 0, 1) := by decide +kernel
theorem dX2_brightestWithin_1 : decode cX2_brightestWithin 1 = .ok (.iconst 0, 1) := by decide +kernel
theorem dX2_brightestWithin_2 : decode cX2_brightestWithin 2 = .ok (.putfield 26, 3) := by decide +kernel
theorem dX2_brightestWithin_5 : decode cX2_brightestWithin 5 = .ok (.iload_n 1, 1) := by decide +kernel
theorem dX2_brightestWithin_6 : decode cX2_brightestWithin 6 = .ok (.iconst 1, 1) := by decide +kernel
theorem dX2_brightestWithin_7 : decode cX2_brightestWithin 7 = .ok (.sipush 500, 3) := by decide +kernel
theorem dX2_brightestWithin_10 : decode cX2_brightestWithin 10 = .ok (.invokestatic 33, 3) := by decide +kernel
theorem dX2_brightestWithin_13 : decode cX2_brightestWithin 13 = .ok (.ifCond .ne 9, 3) := by decide +kernel
theorem dX2_brightestWithin_16 : decode cX2_brightestWithin 16 = .ok (.aload_n 0, 1) := by decide +kernel
theorem dX2_brightestWithin_17 : decode cX2_brightestWithin 17 = .ok (.iconst 1, 1) := by decide +kernel
theorem dX2_brightestWithin_18 : decode cX2_brightestWithin 18 = .ok (.invokevirtual 62, 3) := by decide +kernel
theorem dX2_brightestWithin_21 : decode cX2_brightestWithin 21 = .ok (.ireturn, 1) := by decide +kernel
theorem dX2_brightestWithin_22 : decode cX2_brightestWithin 22 = .ok (.iconst 1, 1) := by decide +kernel
theorem dX2_brightestWithin_23 : decode cX2_brightestWithin 23 = .ok (.istore_n 2, 1) := by decide +kernel
theorem dX2_brightestWithin_24 : decode cX2_brightestWithin 24 = .ok (.iconst 2, 1) := by decide +kernel
theorem dX2_brightestWithin_25 : decode cX2_brightestWithin 25 = .ok (.istore_n 3, 1) := by decide +kernel
theorem dX2_brightestWithin_26 : decode cX2_brightestWithin 26 = .ok (.iload_n 3, 1) := by decide +kernel
theorem dX2_brightestWithin_27 : decode cX2_brightestWithin 27 = .ok (.iload_n 1, 1) := by decide +kernel
theorem dX2_brightestWithin_28 : decode cX2_brightestWithin 28 = .ok (.if_icmp .gt 36, 3) := by decide +kernel
theorem dX2_brightestWithin_31 : decode cX2_brightestWithin 31 = .ok (.aload_n 0, 1) := by decide +kernel
theorem dX2_brightestWithin_32 : decode cX2_brightestWithin 32 = .ok (.aload_n 0, 1) := by decide +kernel
theorem dX2_brightestWithin_33 : decode cX2_brightestWithin 33 = .ok (.getfield 59, 3) := by decide +kernel
theorem dX2_brightestWithin_36 : decode cX2_brightestWithin 36 = .ok (.iload_n 3, 1) := by decide +kernel
theorem dX2_brightestWithin_37 : decode cX2_brightestWithin 37 = .ok (.iadd, 1) := by decide +kernel
theorem dX2_brightestWithin_38 : decode cX2_brightestWithin 38 = .ok (.iconst (-1), 1) := by decide +kernel
theorem dX2_brightestWithin_39 : decode cX2_brightestWithin 39 = .ok (.invokevirtual 77, 3) := by decide +kernel
theorem dX2_brightestWithin_42 : decode cX2_brightestWithin 42 = .ok (.aload_n 0, 1) := by decide +kernel
theorem dX2_brightestWithin_43 : decode cX2_brightestWithin 43 = .ok (.aload_n 0, 1) := by decide +kernel
theorem dX2_brightestWithin_44 : decode cX2_brightestWithin 44 = .ok (.getfield 59, 3) := by decide +kernel
theorem dX2_brightestWithin_47 : decode cX2_brightestWithin 47 = .ok (.iload_n 2, 1) := by decide +kernel
theorem dX2_brightestWithin_48 : decode cX2_brightestWithin 48 = .ok (.iadd, 1) := by decide +kernel
theorem dX2_brightestWithin_49 : decode cX2_brightestWithin 49 = .ok (.iconst (-1), 1) := by decide +kernel
theorem dX2_brightestWithin_50 : decode cX2_brightestWithin 50 = .ok (.invokevirtual 77, 3) := by decide +kernel
theorem dX2_brightestWithin_53 : decode cX2_brightestWithin 53 = .ok (.if_icmp .le 5, 3) := by decide +kernel
theorem dX2_brightestWithin_56 : decode cX2_brightestWithin 56 = .ok (.iload_n 3, 1) := by decide +kernel
theorem dX2_brightestWithin_57 : decode cX2_brightestWithin 57 = .ok (.istore_n 2, 1) := by decide +kernel
theorem dX2_brightestWithin_58 : decode cX2_brightestWithin 58 = .ok (.iinc 3 1, 3) := by decide +kernel
theorem dX2_brightestWithin_61 : decode cX2_brightestWithin 61 = .ok (.goto (-35), 3) := by decide +kernel
theorem dX2_brightestWithin_64 : decode cX2_brightestWithin 64 = .ok (.iload_n 2, 1) := by decide +kernel
theorem dX2_brightestWithin_65 : decode cX2_brightestWithin 65 = .ok (.ireturn, 1) := by decide +kernel
set_option maxRecDepth 20000 in
theorem ggX2_bestCover_X2_isIn : GoodIn wsX2_bestCover wsX2_isIn := goodIn_r _ [7] (by decide +kernel) (by decide +kernel)
set_option maxRecDepth 20000 in
theorem gX2_bestCover_X2_isIn : GoodIn wsX2_bestCover (va_wsS RX2 33 yX2_isIn wsX2_isIn) := goodIn_app (goodIn_of _ (by decide +kernel)) ggX2_bestCover_X2_isIn
set_option maxRecDepth 20000 in
theorem ggX2_bestCover_X2_no : GoodIn wsX2_bestCover wsX2_no := goodIn_r _ [11, 1, 29, 30, 31, 32, 33, 34, 35, 36, 37] (by decide +kernel) (by decide +kernel)
set_option maxRecDepth 20000 in
theorem gX2_bestCover_X2_no : GoodIn wsX2_bestCover (wsV RX2 62 RX2 yX2_no wsX2_no) := goodIn_app (goodIn_of _ (by decide +kernel)) ggX2_bestCover_X2_no
set_option maxRecDepth 20000 in
theorem ggX2_bestCover_X2_darkWith : GoodIn wsX2_bestCover wsX2_darkWith := goodIn_r _ [15, 16, 17, 18, 19, 6, 20, 2, 3, 21, 22, 23, 24, 25, 26, 27, 28, 29, 30, 31, 32, 33, 34, 35, 36, 37] (by decide +kernel) (by decide +kernel)
set_option maxRecDepth 20000 in
theorem gX2_bestCover_X2_darkWith : GoodIn wsX2_bestCover (wsV RX2 97 RX2 yX2_darkWith wsX2_darkWith) := goodIn_app (goodIn_of _ (by decide +kernel)) ggX2_bestCover_X2_darkWith
theorem dX2_bestCover_0 : decode cX2_bestCover 0 = .ok (.aload_n 0, 1) := by decide +kernel
theorem dX2_bestCover_1 : decode cX2_bestCover 1 = .ok (.iconst 0, 1) := by decide +kernel
theorem dX2_bestCover_2 : decode cX2_bestCover 2 = .ok (.putfield 26, 3) := by decide +kernel
theorem dX2_bestCover_5 : decode cX2_bestCover 5 = .ok (.iload_n 1, 1) := by decide +kernel
theorem dX2_bestCover_6 : decode cX2_bestCover 6 = .ok (.iconst 1, 1) := by decide +kernel
theorem dX2_bestCover_7 : decode cX2_bestCover 7 = .ok (.sipush 200, 3) := by decide +kernel
theorem dX2_bestCover_10 : decode cX2_bestCover 10 = .ok (.invokestatic 33, 3) := by decide +kernel
theorem dX2_bestCover_13 : decode cX2_bestCover 13 = .ok (.ifCond .ne 9, 3) := by decide +kernel
theorem dX2_bestCover_16 : decode cX2_bestCover 16 = .ok (.aload_n 0, 1) := by decide +kernel
theorem dX2_bestCover_17 : decode cX2_bestCover 17 = .ok (.iconst 1, 1) := by decide +kernel
theorem dX2_bestCover_18 : decode cX2_bestCover 18 = .ok (.invokevirtual 62, 3) := by decide +kernel
theorem dX2_bestCover_21 : decode cX2_bestCover 21 = .ok (.ireturn, 1) := by decide +kernel
theorem dX2_bestCover_22 : decode cX2_bestCover 22 = .ok (.iconst (-1), 1) := by decide +kernel
theorem dX2_bestCover_23 : decode cX2_bestCover 23 = .ok (.istore_n 2, 1) := by decide +kernel
theorem dX2_bestCover_24 : decode cX2_bestCover 24 = .ok (.iconst (-1), 1) := by decide +kernel
theorem dX2_bestCover_25 : decode cX2_bestCover 25 = .ok (.istore_n 3, 1) := by decide +kernel
theorem dX2_bestCover_26 : decode cX2_bestCover 26 = .ok (.iconst 0, 1) := by decide +kernel
theorem dX2_bestCover_27 : decode cX2_bestCover 27 = .ok (.istore 4, 2) := by decide +kernel
theorem dX2_bestCover_29 : decode cX2_bestCover 29 = .ok (.iload 4, 2) := by decide +kernel
theorem dX2_bestCover_31 : decode cX2_bestCover 31 = .ok (.aload_n 0, 1) := by decide +kernel
theorem dX2_bestCover_32 : decode cX2_bestCover 32 = .ok (.getfield 30, 3) := by decide +kernel
theorem dX2_bestCover_35 : decode cX2_bestCover 35 = .ok (.if_icmp .ge 46, 3) := by decide +kernel
theorem dX2_bestCover_38 : decode cX2_bestCover 38 = .ok (.aload_n 0, 1) := by decide +kernel
theorem dX2_bestCover_39 : decode cX2_bestCover 39 = .ok (.getfield 13, 3) := by decide +kernel
theorem dX2_bestCover_42 : decode cX2_bestCover 42 = .ok (.iload 4, 2) := by decide +kernel
theorem dX2_bestCover_44 : decode cX2_bestCover 44 = .ok (.baload, 1) := by decide +kernel
theorem dX2_bestCover_45 : decode cX2_bestCover 45 = .ok (.ifCond .eq 6, 3) := by decide +kernel
theorem dX2_bestCover_48 : decode cX2_bestCover 48 = .ok (.goto 27, 3) := by decide +kernel
theorem dX2_bestCover_51 : decode cX2_bestCover 51 = .ok (.aload_n 0, 1) := by decide +kernel
theorem dX2_bestCover_52 : decode cX2_bestCover 52 = .ok (.iload_n 1, 1) := by decide +kernel
theorem dX2_bestCover_53 : decode cX2_bestCover 53 = .ok (.iload 4, 2) := by decide +kernel
theorem dX2_bestCover_55 : decode cX2_bestCover 55 = .ok (.invokevirtual 97, 3) := by decide +kernel
theorem dX2_bestCover_58 : decode cX2_bestCover 58 = .ok (.istore 5, 2) := by decide +kernel
theorem dX2_bestCover_60 : decode cX2_bestCover 60 = .ok (.iload 5, 2) := by decide +kernel
theorem dX2_bestCover_62 : decode cX2_bestCover 62 = .ok (.iload_n 3, 1) := by decide +kernel
theorem dX2_bestCover_63 : decode cX2_bestCover 63 = .ok (.if_icmp .gt 6, 3) := by decide +kernel
theorem dX2_bestCover_66 : decode cX2_bestCover 66 = .ok (.goto 9, 3) := by decide +kernel
theorem dX2_bestCover_69 : decode cX2_bestCover 69 = .ok (.iload 4, 2) := by decide +kernel
theorem dX2_bestCover_71 : decode cX2_bestCover 71 = .ok (.istore_n 2, 1) := by decide +kernel
theorem dX2_bestCover_72 : decode cX2_bestCover 72 = .ok (.iload 5, 2) := by decide +kernel
theorem dX2_bestCover_74 : decode cX2_bestCover 74 = .ok (.istore_n 3, 1) := by decide +kernel
theorem dX2_bestCover_75 : decode cX2_bestCover 75 = .ok (.iinc 4 1, 3) := by decide +kernel
theorem dX2_bestCover_78 : decode cX2_bestCover 78 = .ok (.goto (-49), 3) := by decide +kernel
theorem dX2_bestCover_81 : decode cX2_bestCover 81 = .ok (.iload_n 2, 1) := by decide +kernel
theorem dX2_bestCover_82 : decode cX2_bestCover 82 = .ok (.ireturn, 1) := by decide +kernel
theorem dX2_meanBeats_0 : decode cX2_meanBeats 0 = .ok (.aload_n 0, 1) := by decide +kernel
theorem dX2_meanBeats_1 : decode cX2_meanBeats 1 = .ok (.iconst 0, 1) := by decide +kernel
theorem dX2_meanBeats_2 : decode cX2_meanBeats 2 = .ok (.putfield 26, 3) := by decide +kernel
theorem dX2_meanBeats_5 : decode cX2_meanBeats 5 = .ok (.iconst 0, 1) := by decide +kernel
theorem dX2_meanBeats_6 : decode cX2_meanBeats 6 = .ok (.istore_n 1, 1) := by decide +kernel
theorem dX2_meanBeats_7 : decode cX2_meanBeats 7 = .ok (.iconst 0, 1) := by decide +kernel
theorem dX2_meanBeats_8 : decode cX2_meanBeats 8 = .ok (.istore_n 2, 1) := by decide +kernel
theorem dX2_meanBeats_9 : decode cX2_meanBeats 9 = .ok (.iload_n 2, 1) := by decide +kernel
theorem dX2_meanBeats_10 : decode cX2_meanBeats 10 = .ok (.aload_n 0, 1) := by decide +kernel
theorem dX2_meanBeats_11 : decode cX2_meanBeats 11 = .ok (.getfield 30, 3) := by decide +kernel
theorem dX2_meanBeats_14 : decode cX2_meanBeats 14 = .ok (.if_icmp .ge 18, 3) := by decide +kernel
theorem dX2_meanBeats_17 : decode cX2_meanBeats 17 = .ok (.iload_n 1, 1) := by decide +kernel
theorem dX2_meanBeats_18 : decode cX2_meanBeats 18 = .ok (.aload_n 0, 1) := by decide +kernel
theorem dX2_meanBeats_19 : decode cX2_meanBeats 19 = .ok (.getfield 16, 3) := by decide +kernel
theorem dX2_meanBeats_22 : decode cX2_meanBeats 22 = .ok (.iload_n 2, 1) := by decide +kernel
theorem dX2_meanBeats_23 : decode cX2_meanBeats 23 = .ok (.iaload, 1) := by decide +kernel
theorem dX2_meanBeats_24 : decode cX2_meanBeats 24 = .ok (.iadd, 1) := by decide +kernel
theorem dX2_meanBeats_25 : decode cX2_meanBeats 25 = .ok (.istore_n 1, 1) := by decide +kernel
theorem dX2_meanBeats_26 : decode cX2_meanBeats 26 = .ok (.iinc 2 1, 3) := by decide +kernel
theorem dX2_meanBeats_29 : decode cX2_meanBeats 29 = .ok (.goto (-20), 3) := by decide +kernel
theorem dX2_meanBeats_32 : decode cX2_meanBeats 32 = .ok (.aload_n 0, 1) := by decide +kernel
theorem dX2_meanBeats_33 : decode cX2_meanBeats 33 = .ok (.getfield 30, 3) := by decide +kernel
theorem dX2_meanBeats_36 : decode cX2_meanBeats 36 = .ok (.ifCond .ne 7, 3) := by decide +kernel
theorem dX2_meanBeats_39 : decode cX2_meanBeats 39 = .ok (.dconst 0, 1) := by decide +kernel
theorem dX2_meanBeats_40 : decode cX2_meanBeats 40 = .ok (.goto 11, 3) := by decide +kernel
theorem dX2_meanBeats_43 : decode cX2_meanBeats 43 = .ok (.iload_n 1, 1) := by decide +kernel
theorem dX2_meanBeats_44 : decode cX2_meanBeats 44 = .ok (.i2d, 1) := by decide +kernel
theorem dX2_meanBeats_45 : decode cX2_meanBeats 45 = .ok (.aload_n 0, 1) := by decide +kernel
theorem dX2_meanBeats_46 : decode cX2_meanBeats 46 = .ok (.getfield 30, 3) := by decide +kernel
theorem dX2_meanBeats_49 : decode cX2_meanBeats 49 = .ok (.i2d, 1) := by decide +kernel
theorem dX2_meanBeats_50 : decode cX2_meanBeats 50 = .ok (.ddiv, 1) := by decide +kernel
theorem dX2_meanBeats_51 : decode cX2_meanBeats 51 = .ok (.dreturn, 1) := by decide +kernel
set_option maxRecDepth 20000 in
theorem ggX2_digest_X2_litAt : GoodIn wsX2_digest wsX2_litAt := goodIn_r _ [15, 3, 8, 16, 17, 18, 14, 19, 20, 7, 9, 10, 49, 50, 51, 52, 53, 54, 55, 56, 57] (by decide +kernel) (by decide +kernel)
set_option maxRecDepth 20000 in
theorem gX2_digest_X2_litAt : GoodIn wsX2_digest (wsV RX2 77 RX2 yX2_litAt wsX2_litAt) := goodIn_app (goodIn_of _ (by decide +kernel)) ggX2_digest_X2_litAt
set_option maxRecDepth 20000 in
theorem ggX2_digest_X2_onAt : GoodIn wsX2_digest wsX2_onAt := goodIn_r _ [19, 20, 7, 9, 10, 49, 50, 51, 52, 53, 54, 55, 56, 57] (by decide +kernel) (by decide +kernel)
set_option maxRecDepth 20000 in
theorem gX2_digest_X2_onAt : GoodIn wsX2_digest (wsV RX2 45 RX2 yX2_onAt wsX2_onAt) := goodIn_app (goodIn_of _ (by decide +kernel)) ggX2_digest_X2_onAt
set_option maxRecDepth 20000 in
theorem ggX2_digest_X2_steady : GoodIn wsX2_digest wsX2_steady := goodIn_r _ [24, 25, 26, 27, 14, 28, 7, 9, 29, 30, 31, 32, 33, 34, 35, 36, 10, 49, 50, 51, 52, 53, 54, 55, 56, 57] (by decide +kernel) (by decide +kernel)
set_option maxRecDepth 20000 in
theorem gX2_digest_X2_steady : GoodIn wsX2_digest (wsV RX2 81 RX2 yX2_steady wsX2_steady) := goodIn_app (goodIn_of _ (by decide +kernel)) ggX2_digest_X2_steady
set_option maxRecDepth 20000 in
theorem ggX2_digest_X2_cycle : GoodIn wsX2_digest wsX2_cycle := goodIn_r _ [40, 25, 26, 27, 14, 28, 7, 9, 41, 42, 43, 44, 16, 17, 18, 19, 20, 10, 29, 30, 31, 32, 33, 34, 35, 36, 49, 50, 51, 52, 53, 54, 55, 56, 57] (by decide +kernel) (by decide +kernel)
set_option maxRecDepth 20000 in
theorem gX2_digest_X2_cycle : GoodIn wsX2_digest (wsV RX2 84 RX2 yX2_cycle wsX2_cycle) := goodIn_app (goodIn_of _ (by decide +kernel)) ggX2_digest_X2_cycle
set_option maxRecDepth 20000 in
theorem ggX2_digest_X2_untilChange : GoodIn wsX2_digest wsX2_untilChange := goodIn_r _ [48, 5, 25, 26, 27, 14, 28, 7, 9, 29, 30, 31, 32, 33, 34, 35, 36, 10, 49, 50, 51, 52, 53, 54, 55, 56, 57] (by decide +kernel) (by decide +kernel)
set_option maxRecDepth 20000 in
theorem gX2_digest_X2_untilChange : GoodIn wsX2_digest (wsV RX2 87 RX2 yX2_untilChange wsX2_untilChange) := goodIn_app (goodIn_of _ (by decide +kernel)) ggX2_digest_X2_untilChange
theorem dX2_digest_0 : decode cX2_digest 0 = .ok (.aload_n 0, 1) := by decide +kernel
theorem dX2_digest_1 : decode cX2_digest 1 = .ok (.iconst 0, 1) := by decide +kernel
theorem dX2_digest_2 : decode cX2_digest 2 = .ok (.putfield 26, 3) := by decide +kernel
theorem dX2_digest_5 : decode cX2_digest 5 = .ok (.ldc2_w 100, 3) := by decide +kernel
theorem dX2_digest_8 : decode cX2_digest 8 = .ok (.aload_n 0, 1) := by decide +kernel
theorem dX2_digest_9 : decode cX2_digest 9 = .ok (.getfield 30, 3) := by decide +kernel
theorem dX2_digest_12 : decode cX2_digest 12 = .ok (.i2l, 1) := by decide +kernel
theorem dX2_digest_13 : decode cX2_digest 13 = .ok (.ladd, 1) := by decide +kernel
theorem dX2_digest_14 : decode cX2_digest 14 = .ok (.ldc2_w 102, 3) := by decide +kernel
theorem dX2_digest_17 : decode cX2_digest 17 = .ok (.lmul, 1) := by decide +kernel
theorem dX2_digest_18 : decode cX2_digest 18 = .ok (.aload_n 0, 1) := by decide +kernel
theorem dX2_digest_19 : decode cX2_digest 19 = .ok (.getfield 59, 3) := by decide +kernel
theorem dX2_digest_22 : decode cX2_digest 22 = .ok (.i2l, 1) := by decide +kernel
theorem dX2_digest_23 : decode cX2_digest 23 = .ok (.ladd, 1) := by decide +kernel
theorem dX2_digest_24 : decode cX2_digest 24 = .ok (.lstore_n 1, 1) := by decide +kernel
theorem dX2_digest_25 : decode cX2_digest 25 = .ok (.lload_n 1, 1) := by decide +kernel
theorem dX2_digest_26 : decode cX2_digest 26 = .ok (.ldc2_w 102, 3) := by decide +kernel
theorem dX2_digest_29 : decode cX2_digest 29 = .ok (.lmul, 1) := by decide +kernel
theorem dX2_digest_30 : decode cX2_digest 30 = .ok (.aload_n 0, 1) := by decide +kernel
theorem dX2_digest_31 : decode cX2_digest 31 = .ok (.getfield 74, 3) := by decide +kernel
theorem dX2_digest_34 : decode cX2_digest 34 = .ok (.i2l, 1) := by decide +kernel
theorem dX2_digest_35 : decode cX2_digest 35 = .ok (.ladd, 1) := by decide +kernel
theorem dX2_digest_36 : decode cX2_digest 36 = .ok (.ldc2_w 102, 3) := by decide +kernel
theorem dX2_digest_39 : decode cX2_digest 39 = .ok (.lmul, 1) := by decide +kernel
theorem dX2_digest_40 : decode cX2_digest 40 = .ok (.aload_n 0, 1) := by decide +kernel
theorem dX2_digest_41 : decode cX2_digest 41 = .ok (.aload_n 0, 1) := by decide +kernel
theorem dX2_digest_42 : decode cX2_digest 42 = .ok (.getfield 59, 3) := by decide +kernel
theorem dX2_digest_45 : decode cX2_digest 45 = .ok (.iconst (-1), 1) := by decide +kernel
theorem dX2_digest_46 : decode cX2_digest 46 = .ok (.invokevirtual 77, 3) := by decide +kernel
theorem dX2_digest_49 : decode cX2_digest 49 = .ok (.i2l, 1) := by decide +kernel
theorem dX2_digest_50 : decode cX2_digest 50 = .ok (.ladd, 1) := by decide +kernel
theorem dX2_digest_51 : decode cX2_digest 51 = .ok (.lstore_n 1, 1) := by decide +kernel
theorem dX2_digest_52 : decode cX2_digest 52 = .ok (.iconst 0, 1) := by decide +kernel
theorem dX2_digest_53 : decode cX2_digest 53 = .ok (.istore_n 3, 1) := by decide +kernel
theorem dX2_digest_54 : decode cX2_digest 54 = .ok (.iload_n 3, 1) := by decide +kernel
theorem dX2_digest_55 : decode cX2_digest 55 = .ok (.aload_n 0, 1) := by decide +kernel
theorem dX2_digest_56 : decode cX2_digest 56 = .ok (.getfield 30, 3) := by decide +kernel
theorem dX2_digest_59 : decode cX2_digest 59 = .ok (.if_icmp .ge 165, 3) := by decide +kernel
theorem dX2_digest_62 : decode cX2_digest 62 = .ok (.lload_n 1, 1) := by decide +kernel
theorem dX2_digest_63 : decode cX2_digest 63 = .ok (.ldc2_w 102, 3) := by decide +kernel
theorem dX2_digest_66 : decode cX2_digest 66 = .ok (.lmul, 1) := by decide +kernel
theorem dX2_digest_67 : decode cX2_digest 67 = .ok (.aload_n 0, 1) := by decide +kernel
theorem dX2_digest_68 : decode cX2_digest 68 = .ok (.getfield 16, 3) := by decide +kernel
theorem dX2_digest_71 : decode cX2_digest 71 = .ok (.iload_n 3, 1) := by decide +kernel
theorem dX2_digest_72 : decode cX2_digest 72 = .ok (.iaload, 1) := by decide +kernel
theorem dX2_digest_73 : decode cX2_digest 73 = .ok (.i2l, 1) := by decide +kernel
theorem dX2_digest_74 : decode cX2_digest 74 = .ok (.ladd, 1) := by decide +kernel
theorem dX2_digest_75 : decode cX2_digest 75 = .ok (.ldc2_w 102, 3) := by decide +kernel
theorem dX2_digest_78 : decode cX2_digest 78 = .ok (.lmul, 1) := by decide +kernel
theorem dX2_digest_79 : decode cX2_digest 79 = .ok (.aload_n 0, 1) := by decide +kernel
theorem dX2_digest_80 : decode cX2_digest 80 = .ok (.getfield 13, 3) := by decide +kernel
theorem dX2_digest_83 : decode cX2_digest 83 = .ok (.iload_n 3, 1) := by decide +kernel
theorem dX2_digest_84 : decode cX2_digest 84 = .ok (.baload, 1) := by decide +kernel
theorem dX2_digest_85 : decode cX2_digest 85 = .ok (.ifCond .eq 7, 3) := by decide +kernel
theorem dX2_digest_88 : decode cX2_digest 88 = .ok (.iconst 1, 1) := by decide +kernel
theorem dX2_digest_89 : decode cX2_digest 89 = .ok (.goto 4, 3) := by decide +kernel
theorem dX2_digest_92 : decode cX2_digest 92 = .ok (.iconst 0, 1) := by decide +kernel
theorem dX2_digest_93 : decode cX2_digest 93 = .ok (.i2l, 1) := by decide +kernel
theorem dX2_digest_94 : decode cX2_digest 94 = .ok (.ladd, 1) := by decide +kernel
theorem dX2_digest_95 : decode cX2_digest 95 = .ok (.lstore_n 1, 1) := by decide +kernel
theorem dX2_digest_96 : decode cX2_digest 96 = .ok (.lload_n 1, 1) := by decide +kernel
theorem dX2_digest_97 : decode cX2_digest 97 = .ok (.ldc2_w 102, 3) := by decide +kernel
theorem dX2_digest_100 : decode cX2_digest 100 = .ok (.lmul, 1) := by decide +kernel
theorem dX2_digest_101 : decode cX2_digest 101 = .ok (.aload_n 0, 1) := by decide +kernel
theorem dX2_digest_102 : decode cX2_digest 102 = .ok (.iload_n 3, 1) := by decide +kernel
theorem dX2_digest_103 : decode cX2_digest 103 = .ok (.aload_n 0, 1) := by decide +kernel
theorem dX2_digest_104 : decode cX2_digest 104 = .ok (.getfield 59, 3) := by decide +kernel
theorem dX2_digest_107 : decode cX2_digest 107 = .ok (.invokevirtual 45, 3) := by decide +kernel
theorem dX2_digest_110 : decode cX2_digest 110 = .ok (.ifCond .eq 7, 3) := by decide +kernel
theorem dX2_digest_113 : decode cX2_digest 113 = .ok (.iconst 1, 1) := by decide +kernel
theorem dX2_digest_114 : decode cX2_digest 114 = .ok (.goto 4, 3) := by decide +kernel
theorem dX2_digest_117 : decode cX2_digest 117 = .ok (.iconst 0, 1) := by decide +kernel
theorem dX2_digest_118 : decode cX2_digest 118 = .ok (.i2l, 1) := by decide +kernel
theorem dX2_digest_119 : decode cX2_digest 119 = .ok (.ladd, 1) := by decide +kernel
theorem dX2_digest_120 : decode cX2_digest 120 = .ok (.ldc2_w 102, 3) := by decide +kernel
theorem dX2_digest_123 : decode cX2_digest 123 = .ok (.lmul, 1) := by decide +kernel
theorem dX2_digest_124 : decode cX2_digest 124 = .ok (.aload_n 0, 1) := by decide +kernel
theorem dX2_digest_125 : decode cX2_digest 125 = .ok (.iload_n 3, 1) := by decide +kernel
theorem dX2_digest_126 : decode cX2_digest 126 = .ok (.invokevirtual 81, 3) := by decide +kernel
theorem dX2_digest_129 : decode cX2_digest 129 = .ok (.ifCond .eq 7, 3) := by decide +kernel
theorem dX2_digest_132 : decode cX2_digest 132 = .ok (.iconst 1, 1) := by decide +kernel
theorem dX2_digest_133 : decode cX2_digest 133 = .ok (.goto 4, 3) := by decide +kernel
theorem dX2_digest_136 : decode cX2_digest 136 = .ok (.iconst 0, 1) := by decide +kernel
theorem dX2_digest_137 : decode cX2_digest 137 = .ok (.i2l, 1) := by decide +kernel
theorem dX2_digest_138 : decode cX2_digest 138 = .ok (.ladd, 1) := by decide +kernel
theorem dX2_digest_139 : decode cX2_digest 139 = .ok (.lstore_n 1, 1) := by decide +kernel
theorem dX2_digest_140 : decode cX2_digest 140 = .ok (.lload_n 1, 1) := by decide +kernel
theorem dX2_digest_141 : decode cX2_digest 141 = .ok (.ldc2_w 102, 3) := by decide +kernel
theorem dX2_digest_144 : decode cX2_digest 144 = .ok (.lmul, 1) := by decide +kernel
theorem dX2_digest_145 : decode cX2_digest 145 = .ok (.aload_n 0, 1) := by decide +kernel
theorem dX2_digest_146 : decode cX2_digest 146 = .ok (.iload_n 3, 1) := by decide +kernel
theorem dX2_digest_147 : decode cX2_digest 147 = .ok (.invokevirtual 84, 3) := by decide +kernel
theorem dX2_digest_150 : decode cX2_digest 150 = .ok (.i2l, 1) := by decide +kernel
theorem dX2_digest_151 : decode cX2_digest 151 = .ok (.ladd, 1) := by decide +kernel
theorem dX2_digest_152 : decode cX2_digest 152 = .ok (.ldc2_w 102, 3) := by decide +kernel
theorem dX2_digest_155 : decode cX2_digest 155 = .ok (.lmul, 1) := by decide +kernel
theorem dX2_digest_156 : decode cX2_digest 156 = .ok (.aload_n 0, 1) := by decide +kernel
theorem dX2_digest_157 : decode cX2_digest 157 = .ok (.iload_n 3, 1) := by decide +kernel
theorem dX2_digest_158 : decode cX2_digest 158 = .ok (.invokevirtual 87, 3) := by decide +kernel
theorem dX2_digest_161 : decode cX2_digest 161 = .ok (.i2l, 1) := by decide +kernel
theorem dX2_digest_162 : decode cX2_digest 162 = .ok (.ladd, 1) := by decide +kernel
theorem dX2_digest_163 : decode cX2_digest 163 = .ok (.lstore_n 1, 1) := by decide +kernel
theorem dX2_digest_164 : decode cX2_digest 164 = .ok (.iconst 4, 1) := by decide +kernel
theorem dX2_digest_165 : decode cX2_digest 165 = .ok (.iload_n 3, 1) := by decide +kernel
theorem dX2_digest_166 : decode cX2_digest 166 = .ok (.imul, 1) := by decide +kernel
theorem dX2_digest_167 : decode cX2_digest 167 = .ok (.istore 4, 2) := by decide +kernel
theorem dX2_digest_169 : decode cX2_digest 169 = .ok (.iload 4, 2) := by decide +kernel
theorem dX2_digest_171 : decode cX2_digest 171 = .ok (.iconst 4, 1) := by decide +kernel
theorem dX2_digest_172 : decode cX2_digest 172 = .ok (.iload_n 3, 1) := by decide +kernel
theorem dX2_digest_173 : decode cX2_digest 173 = .ok (.imul, 1) := by decide +kernel
theorem dX2_digest_174 : decode cX2_digest 174 = .ok (.aload_n 0, 1) := by decide +kernel
theorem dX2_digest_175 : decode cX2_digest 175 = .ok (.getfield 16, 3) := by decide +kernel
theorem dX2_digest_178 : decode cX2_digest 178 = .ok (.iload_n 3, 1) := by decide +kernel
theorem dX2_digest_179 : decode cX2_digest 179 = .ok (.iaload, 1) := by decide +kernel
theorem dX2_digest_180 : decode cX2_digest 180 = .ok (.iadd, 1) := by decide +kernel
theorem dX2_digest_181 : decode cX2_digest 181 = .ok (.if_icmp .ge 37, 3) := by decide +kernel
theorem dX2_digest_184 : decode cX2_digest 184 = .ok (.lload_n 1, 1) := by decide +kernel
theorem dX2_digest_185 : decode cX2_digest 185 = .ok (.ldc2_w 102, 3) := by decide +kernel
theorem dX2_digest_188 : decode cX2_digest 188 = .ok (.lmul, 1) := by decide +kernel
theorem dX2_digest_189 : decode cX2_digest 189 = .ok (.aload_n 0, 1) := by decide +kernel
theorem dX2_digest_190 : decode cX2_digest 190 = .ok (.getfield 20, 3) := by decide +kernel
theorem dX2_digest_193 : decode cX2_digest 193 = .ok (.iload 4, 2) := by decide +kernel
theorem dX2_digest_195 : decode cX2_digest 195 = .ok (.iaload, 1) := by decide +kernel
theorem dX2_digest_196 : decode cX2_digest 196 = .ok (.i2l, 1) := by decide +kernel
theorem dX2_digest_197 : decode cX2_digest 197 = .ok (.ladd, 1) := by decide +kernel
theorem dX2_digest_198 : decode cX2_digest 198 = .ok (.ldc2_w 102, 3) := by decide +kernel
theorem dX2_digest_201 : decode cX2_digest 201 = .ok (.lmul, 1) := by decide +kernel
theorem dX2_digest_202 : decode cX2_digest 202 = .ok (.aload_n 0, 1) := by decide +kernel
theorem dX2_digest_203 : decode cX2_digest 203 = .ok (.getfield 23, 3) := by decide +kernel
theorem dX2_digest_206 : decode cX2_digest 206 = .ok (.iload 4, 2) := by decide +kernel
theorem dX2_digest_208 : decode cX2_digest 208 = .ok (.iaload, 1) := by decide +kernel
theorem dX2_digest_209 : decode cX2_digest 209 = .ok (.i2l, 1) := by decide +kernel
theorem dX2_digest_210 : decode cX2_digest 210 = .ok (.ladd, 1) := by decide +kernel
theorem dX2_digest_211 : decode cX2_digest 211 = .ok (.lstore_n 1, 1) := by decide +kernel
theorem dX2_digest_212 : decode cX2_digest 212 = .ok (.iinc 4 1, 3) := by decide +kernel
theorem dX2_digest_215 : decode cX2_digest 215 = .ok (.goto (-46), 3) := by decide +kernel
theorem dX2_digest_218 : decode cX2_digest 218 = .ok (.iinc 3 1, 3) := by decide +kernel
theorem dX2_digest_221 : decode cX2_digest 221 = .ok (.goto (-167), 3) := by decide +kernel
theorem dX2_digest_224 : decode cX2_digest 224 = .ok (.lload_n 1, 1) := by decide +kernel
theorem dX2_digest_225 : decode cX2_digest 225 = .ok (.lreturn, 1) := by decide +kernel
