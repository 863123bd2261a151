theorem dX2_init_0 : decode cX2_init 0 = .ok (.aload_n 0, 1) := by decide +kernel
theorem dX2_init_1 : decode cX2_init 1 = .ok (.invokespecial 1, 3) := by decide +kernel
theorem dX2_init_4 : decode cX2_init 4 = .ok (.aload_n 0, 1) := by decide +kernel
theorem dX2_init_5 : decode cX2_init 5 = .ok (.bipush 8, 2) := by decide +kernel
theorem dX2_init_7 : decode cX2_init 7 = .ok (.newarray .boolean, 2) := by decide +kernel
theorem dX2_init_9 : decode cX2_init 9 = .ok (.putfield 7, 3) := by decide +kernel
theorem dX2_init_12 : decode cX2_init 12 = .ok (.aload_n 0, 1) := by decide +kernel
theorem dX2_init_13 : decode cX2_init 13 = .ok (.bipush 8, 2) := by decide +kernel
theorem dX2_init_15 : decode cX2_init 15 = .ok (.newarray .boolean, 2) := by decide +kernel
theorem dX2_init_17 : decode cX2_init 17 = .ok (.putfield 13, 3) := by decide +kernel
theorem dX2_init_20 : decode cX2_init 20 = .ok (.aload_n 0, 1) := by decide +kernel
theorem dX2_init_21 : decode cX2_init 21 = .ok (.bipush 8, 2) := by decide +kernel
theorem dX2_init_23 : decode cX2_init 23 = .ok (.iconst 0, 1) := by decide +kernel
theorem dX2_init_24 : decode cX2_init 24 = .ok (.multianewarray 16 2, 4) := by decide +kernel
theorem dX2_init_28 : decode cX2_init 28 = .ok (.putfield 18, 3) := by decide +kernel
theorem dX2_init_31 : decode cX2_init 31 = .ok (.return_, 1) := by decide +kernel
theorem dX2_addBeat_0 : decode cX2_addBeat 0 = .ok (.aload_n 0, 1) := by decide +kernel
theorem dX2_addBeat_1 : decode cX2_addBeat 1 = .ok (.getfield 18, 3) := by decide +kernel
theorem dX2_addBeat_4 : decode cX2_addBeat 4 = .ok (.iload_n 1, 1) := by decide +kernel
theorem dX2_addBeat_5 : decode cX2_addBeat 5 = .ok (.aaload, 1) := by decide +kernel
theorem dX2_addBeat_6 : decode cX2_addBeat 6 = .ok (.arraylength, 1) := by decide +kernel
theorem dX2_addBeat_7 : decode cX2_addBeat 7 = .ok (.iconst 1, 1) := by decide +kernel
theorem dX2_addBeat_8 : decode cX2_addBeat 8 = .ok (.iadd, 1) := by decide +kernel
theorem dX2_addBeat_9 : decode cX2_addBeat 9 = .ok (.anewarray 21, 3) := by decide +kernel
theorem dX2_addBeat_12 : decode cX2_addBeat 12 = .ok (.astore 4, 2) := by decide +kernel
theorem dX2_addBeat_14 : decode cX2_addBeat 14 = .ok (.iconst 0, 1) := by decide +kernel
theorem dX2_addBeat_15 : decode cX2_addBeat 15 = .ok (.istore 5, 2) := by decide +kernel
theorem dX2_addBeat_17 : decode cX2_addBeat 17 = .ok (.iload 5, 2) := by decide +kernel
theorem dX2_addBeat_19 : decode cX2_addBeat 19 = .ok (.aload_n 0, 1) := by decide +kernel
theorem dX2_addBeat_20 : decode cX2_addBeat 20 = .ok (.getfield 18, 3) := by decide +kernel
theorem dX2_addBeat_23 : decode cX2_addBeat 23 = .ok (.iload_n 1, 1) := by decide +kernel
theorem dX2_addBeat_24 : decode cX2_addBeat 24 = .ok (.aaload, 1) := by decide +kernel
theorem dX2_addBeat_25 : decode cX2_addBeat 25 = .ok (.arraylength, 1) := by decide +kernel
theorem dX2_addBeat_26 : decode cX2_addBeat 26 = .ok (.if_icmp .ge 23, 3) := by decide +kernel
theorem dX2_addBeat_29 : decode cX2_addBeat 29 = .ok (.aload 4, 2) := by decide +kernel
theorem dX2_addBeat_31 : decode cX2_addBeat 31 = .ok (.iload 5, 2) := by decide +kernel
theorem dX2_addBeat_33 : decode cX2_addBeat 33 = .ok (.aload_n 0, 1) := by decide +kernel
theorem dX2_addBeat_34 : decode cX2_addBeat 34 = .ok (.getfield 18, 3) := by decide +kernel
theorem dX2_addBeat_37 : decode cX2_addBeat 37 = .ok (.iload_n 1, 1) := by decide +kernel
theorem dX2_addBeat_38 : decode cX2_addBeat 38 = .ok (.aaload, 1) := by decide +kernel
theorem dX2_addBeat_39 : decode cX2_addBeat 39 = .ok (.iload 5, 2) := by decide +kernel
theorem dX2_addBeat_41 : decode cX2_addBeat 41 = .ok (.aaload, 1) := by decide +kernel
theorem dX2_addBeat_42 : decode cX2_addBeat 42 = .ok (.aastore, 1) := by decide +kernel
theorem dX2_addBeat_43 : decode cX2_addBeat 43 = .ok (.iinc 5 1, 3) := by decide +kernel
theorem dX2_addBeat_46 : decode cX2_addBeat 46 = .ok (.goto (-29), 3) := by decide +kernel
theorem dX2_addBeat_49 : decode cX2_addBeat 49 = .ok (.aload 4, 2) := by decide +kernel
theorem dX2_addBeat_51 : decode cX2_addBeat 51 = .ok (.aload_n 0, 1) := by decide +kernel
theorem dX2_addBeat_52 : decode cX2_addBeat 52 = .ok (.getfield 18, 3) := by decide +kernel
theorem dX2_addBeat_55 : decode cX2_addBeat 55 = .ok (.iload_n 1, 1) := by decide +kernel
theorem dX2_addBeat_56 : decode cX2_addBeat 56 = .ok (.aaload, 1) := by decide +kernel
theorem dX2_addBeat_57 : decode cX2_addBeat 57 = .ok (.arraylength, 1) := by decide +kernel
theorem dX2_addBeat_58 : decode cX2_addBeat 58 = .ok (.iconst 2, 1) := by decide +kernel
theorem dX2_addBeat_59 : decode cX2_addBeat 59 = .ok (.newarray .int, 2) := by decide +kernel
theorem dX2_addBeat_61 : decode cX2_addBeat 61 = .ok (.dup, 1) := by decide +kernel
theorem dX2_addBeat_62 : decode cX2_addBeat 62 = .ok (.iconst 0, 1) := by decide +kernel
theorem dX2_addBeat_63 : decode cX2_addBeat 63 = .ok (.iload_n 2, 1) := by decide +kernel
theorem dX2_addBeat_64 : decode cX2_addBeat 64 = .ok (.iastore, 1) := by decide +kernel
theorem dX2_addBeat_65 : decode cX2_addBeat 65 = .ok (.dup, 1) := by decide +kernel
theorem dX2_addBeat_66 : decode cX2_addBeat 66 = .ok (.iconst 1, 1) := by decide +kernel
theorem dX2_addBeat_67 : decode cX2_addBeat 67 = .ok (.iload_n 3, 1) := by decide +kernel
theorem dX2_addBeat_68 : decode cX2_addBeat 68 = .ok (.iastore, 1) := by decide +kernel
theorem dX2_addBeat_69 : decode cX2_addBeat 69 = .ok (.aastore, 1) := by decide +kernel
theorem dX2_addBeat_70 : decode cX2_addBeat 70 = .ok (.aload_n 0, 1) := by decide +kernel
theorem dX2_addBeat_71 : decode cX2_addBeat 71 = .ok (.getfield 18, 3) := by decide +kernel
theorem dX2_addBeat_74 : decode cX2_addBeat 74 = .ok (.iload_n 1, 1) := by decide +kernel
theorem dX2_addBeat_75 : decode cX2_addBeat 75 = .ok (.aload 4, 2) := by decide +kernel
theorem dX2_addBeat_77 : decode cX2_addBeat 77 = .ok (.aastore, 1) := by decide +kernel
theorem dX2_addBeat_78 : decode cX2_addBeat 78 = .ok (.return_, 1) := by decide +kernel
theorem dX2_takeBeat_0 : decode cX2_takeBeat 0 = .ok (.aload_n 0, 1) := by decide +kernel
theorem dX2_takeBeat_1 : decode cX2_takeBeat 1 = .ok (.getfield 18, 3) := by decide +kernel
theorem dX2_takeBeat_4 : decode cX2_takeBeat 4 = .ok (.iload_n 1, 1) := by decide +kernel
theorem dX2_takeBeat_5 : decode cX2_takeBeat 5 = .ok (.aaload, 1) := by decide +kernel
theorem dX2_takeBeat_6 : decode cX2_takeBeat 6 = .ok (.arraylength, 1) := by decide +kernel
theorem dX2_takeBeat_7 : decode cX2_takeBeat 7 = .ok (.iconst 1, 1) := by decide +kernel
theorem dX2_takeBeat_8 : decode cX2_takeBeat 8 = .ok (.isub, 1) := by decide +kernel
theorem dX2_takeBeat_9 : decode cX2_takeBeat 9 = .ok (.anewarray 21, 3) := by decide +kernel
theorem dX2_takeBeat_12 : decode cX2_takeBeat 12 = .ok (.astore_n 3, 1) := by decide +kernel
theorem dX2_takeBeat_13 : decode cX2_takeBeat 13 = .ok (.iconst 0, 1) := by decide +kernel
theorem dX2_takeBeat_14 : decode cX2_takeBeat 14 = .ok (.istore 4, 2) := by decide +kernel
theorem dX2_takeBeat_16 : decode cX2_takeBeat 16 = .ok (.iload 4, 2) := by decide +kernel
theorem dX2_takeBeat_18 : decode cX2_takeBeat 18 = .ok (.aload_n 3, 1) := by decide +kernel
theorem dX2_takeBeat_19 : decode cX2_takeBeat 19 = .ok (.arraylength, 1) := by decide +kernel
theorem dX2_takeBeat_20 : decode cX2_takeBeat 20 = .ok (.if_icmp .ge 35, 3) := by decide +kernel
theorem dX2_takeBeat_23 : decode cX2_takeBeat 23 = .ok (.aload_n 3, 1) := by decide +kernel
theorem dX2_takeBeat_24 : decode cX2_takeBeat 24 = .ok (.iload 4, 2) := by decide +kernel
theorem dX2_takeBeat_26 : decode cX2_takeBeat 26 = .ok (.aload_n 0, 1) := by decide +kernel
theorem dX2_takeBeat_27 : decode cX2_takeBeat 27 = .ok (.getfield 18, 3) := by decide +kernel
theorem dX2_takeBeat_30 : decode cX2_takeBeat 30 = .ok (.iload_n 1, 1) := by decide +kernel
theorem dX2_takeBeat_31 : decode cX2_takeBeat 31 = .ok (.aaload, 1) := by decide +kernel
theorem dX2_takeBeat_32 : decode cX2_takeBeat 32 = .ok (.iload 4, 2) := by decide +kernel
theorem dX2_takeBeat_34 : decode cX2_takeBeat 34 = .ok (.iload_n 2, 1) := by decide +kernel
theorem dX2_takeBeat_35 : decode cX2_takeBeat 35 = .ok (.if_icmp .ge 8, 3) := by decide +kernel
theorem dX2_takeBeat_38 : decode cX2_takeBeat 38 = .ok (.iload 4, 2) := by decide +kernel
theorem dX2_takeBeat_40 : decode cX2_takeBeat 40 = .ok (.goto 7, 3) := by decide +kernel
theorem dX2_takeBeat_43 : decode cX2_takeBeat 43 = .ok (.iload 4, 2) := by decide +kernel
theorem dX2_takeBeat_45 : decode cX2_takeBeat 45 = .ok (.iconst 1, 1) := by decide +kernel
theorem dX2_takeBeat_46 : decode cX2_takeBeat 46 = .ok (.iadd, 1) := by decide +kernel
theorem dX2_takeBeat_47 : decode cX2_takeBeat 47 = .ok (.aaload, 1) := by decide +kernel
theorem dX2_takeBeat_48 : decode cX2_takeBeat 48 = .ok (.aastore, 1) := by decide +kernel
theorem dX2_takeBeat_49 : decode cX2_takeBeat 49 = .ok (.iinc 4 1, 3) := by decide +kernel
theorem dX2_takeBeat_52 : decode cX2_takeBeat 52 = .ok (.goto (-36), 3) := by decide +kernel
theorem dX2_takeBeat_55 : decode cX2_takeBeat 55 = .ok (.aload_n 0, 1) := by decide +kernel
theorem dX2_takeBeat_56 : decode cX2_takeBeat 56 = .ok (.getfield 18, 3) := by decide +kernel
theorem dX2_takeBeat_59 : decode cX2_takeBeat 59 = .ok (.iload_n 1, 1) := by decide +kernel
theorem dX2_takeBeat_60 : decode cX2_takeBeat 60 = .ok (.aload_n 3, 1) := by decide +kernel
theorem dX2_takeBeat_61 : decode cX2_takeBeat 61 = .ok (.aastore, 1) := by decide +kernel
theorem dX2_takeBeat_62 : decode cX2_takeBeat 62 = .ok (.return_, 1) := by decide +kernel
theorem dX2_strikes_0 : decode cX2_strikes 0 = .ok (.iconst 0, 1) := by decide +kernel
theorem dX2_strikes_1 : decode cX2_strikes 1 = .ok (.istore_n 3, 1) := by decide +kernel
theorem dX2_strikes_2 : decode cX2_strikes 2 = .ok (.aload_n 0, 1) := by decide +kernel
theorem dX2_strikes_3 : decode cX2_strikes 3 = .ok (.getfield 18, 3) := by decide +kernel
theorem dX2_strikes_6 : decode cX2_strikes 6 = .ok (.iload_n 1, 1) := by decide +kernel
theorem dX2_strikes_7 : decode cX2_strikes 7 = .ok (.aaload, 1) := by decide +kernel
theorem dX2_strikes_8 : decode cX2_strikes 8 = .ok (.astore 4, 2) := by decide +kernel
theorem dX2_strikes_10 : decode cX2_strikes 10 = .ok (.aload 4, 2) := by decide +kernel
theorem dX2_strikes_12 : decode cX2_strikes 12 = .ok (.arraylength, 1) := by decide +kernel
theorem dX2_strikes_13 : decode cX2_strikes 13 = .ok (.istore 5, 2) := by decide +kernel
theorem dX2_strikes_15 : decode cX2_strikes 15 = .ok (.iconst 0, 1) := by decide +kernel
theorem dX2_strikes_16 : decode cX2_strikes 16 = .ok (.istore 6, 2) := by decide +kernel
theorem dX2_strikes_18 : decode cX2_strikes 18 = .ok (.iload 6, 2) := by decide +kernel
theorem dX2_strikes_20 : decode cX2_strikes 20 = .ok (.iload 5, 2) := by decide +kernel
theorem dX2_strikes_22 : decode cX2_strikes 22 = .ok (.if_icmp .ge 33, 3) := by decide +kernel
theorem dX2_strikes_25 : decode cX2_strikes 25 = .ok (.aload 4, 2) := by decide +kernel
theorem dX2_strikes_27 : decode cX2_strikes 27 = .ok (.iload 6, 2) := by decide +kernel
theorem dX2_strikes_29 : decode cX2_strikes 29 = .ok (.aaload, 1) := by decide +kernel
theorem dX2_strikes_30 : decode cX2_strikes 30 = .ok (.astore 7, 2) := by decide +kernel
theorem dX2_strikes_32 : decode cX2_strikes 32 = .ok (.iload_n 2, 1) := by decide +kernel
theorem dX2_strikes_33 : decode cX2_strikes 33 = .ok (.aload 7, 2) := by decide +kernel
theorem dX2_strikes_35 : decode cX2_strikes 35 = .ok (.iconst 1, 1) := by decide +kernel
theorem dX2_strikes_36 : decode cX2_strikes 36 = .ok (.iaload, 1) := by decide +kernel
theorem dX2_strikes_37 : decode cX2_strikes 37 = .ok (.isub, 1) := by decide +kernel
theorem dX2_strikes_38 : decode cX2_strikes 38 = .ok (.aload 7, 2) := by decide +kernel
theorem dX2_strikes_40 : decode cX2_strikes 40 = .ok (.iconst 0, 1) := by decide +kernel
theorem dX2_strikes_41 : decode cX2_strikes 41 = .ok (.iaload, 1) := by decide +kernel
theorem dX2_strikes_42 : decode cX2_strikes 42 = .ok (.irem, 1) := by decide +kernel
theorem dX2_strikes_43 : decode cX2_strikes 43 = .ok (.ifCond .ne 6, 3) := by decide +kernel
theorem dX2_strikes_46 : decode cX2_strikes 46 = .ok (.iinc 3 1, 3) := by decide +kernel
theorem dX2_strikes_49 : decode cX2_strikes 49 = .ok (.iinc 6 1, 3) := by decide +kernel
theorem dX2_strikes_52 : decode cX2_strikes 52 = .ok (.goto (-34), 3) := by decide +kernel
theorem dX2_strikes_55 : decode cX2_strikes 55 = .ok (.iload_n 3, 1) := by decide +kernel
theorem dX2_strikes_56 : decode cX2_strikes 56 = .ok (.ireturn, 1) := by decide +kernel
set_option maxRecDepth 20000 in
theorem ggX2_changes_X2_strikes : GoodIn wsX2_changes wsX2_strikes := goodIn_r _ [5, 6, 7, 8, 9, 10, 11, 12] (by decide +kernel) (by decide +kernel)
set_option maxRecDepth 20000 in
theorem gX2_changes_X2_strikes : GoodIn wsX2_changes (wsV RX2 23 RX2 yX2_strikes wsX2_strikes) := goodIn_app (goodIn_of _ (by decide +kernel)) ggX2_changes_X2_strikes
theorem dX2_changes_0 : decode cX2_changes 0 = .ok (.aload_n 0, 1) := by decide +kernel
theorem dX2_changes_1 : decode cX2_changes 1 = .ok (.iload_n 1, 1) := by decide +kernel
theorem dX2_changes_2 : decode cX2_changes 2 = .ok (.iload_n 2, 1) := by decide +kernel
theorem dX2_changes_3 : decode cX2_changes 3 = .ok (.invokevirtual 23, 3) := by decide +kernel
theorem dX2_changes_6 : decode cX2_changes 6 = .ok (.iconst 2, 1) := by decide +kernel
theorem dX2_changes_7 : decode cX2_changes 7 = .ok (.irem, 1) := by decide +kernel
theorem dX2_changes_8 : decode cX2_changes 8 = .ok (.ifCond .eq 7, 3) := by decide +kernel
theorem dX2_changes_11 : decode cX2_changes 11 = .ok (.iconst 1, 1) := by decide +kernel
theorem dX2_changes_12 : decode cX2_changes 12 = .ok (.goto 4, 3) := by decide +kernel
theorem dX2_changes_15 : decode cX2_changes 15 = .ok (.iconst 0, 1) := by decide +kernel
theorem dX2_changes_16 : decode cX2_changes 16 = .ok (.ireturn, 1) := by decide +kernel
set_option maxRecDepth 20000 in
theorem ggX2_row_X2_changes : GoodIn wsX2_row wsX2_changes := goodIn_r _ [7, 8, 9, 10, 6, 11, 12, 13, 14, 15, 16, 17, 18] (by decide +kernel) (by decide +kernel)
set_option maxRecDepth 20000 in
theorem gX2_row_X2_changes : GoodIn wsX2_row (wsV RX2 27 RX2 yX2_changes wsX2_changes) := goodIn_app (goodIn_of _ (by decide +kernel)) ggX2_row_X2_changes
theorem dX2_row_0 : decode cX2_row 0 = .ok (.iload_n 2, 1) := by decide +kernel
theorem dX2_row_1 : decode cX2_row 1 = .ok (.iconst 1, 1) := by decide +kernel
theorem dX2_row_2 : decode cX2_row 2 = .ok (.iadd, 1) := by decide +kernel
theorem dX2_row_3 : decode cX2_row 3 = .ok (.newarray .boolean, 2) := by decide +kernel
theorem dX2_row_5 : decode cX2_row 5 = .ok (.astore_n 3, 1) := by decide +kernel
theorem dX2_row_6 : decode cX2_row 6 = .ok (.aload_n 0, 1) := by decide +kernel
theorem dX2_row_7 : decode cX2_row 7 = .ok (.getfield 7, 3) := by decide +kernel
theorem dX2_row_10 : decode cX2_row 10 = .ok (.iload_n 1, 1) := by decide +kernel
theorem dX2_row_11 : decode cX2_row 11 = .ok (.baload, 1) := by decide +kernel
theorem dX2_row_12 : decode cX2_row 12 = .ok (.istore 4, 2) := by decide +kernel
theorem dX2_row_14 : decode cX2_row 14 = .ok (.iconst 0, 1) := by decide +kernel
theorem dX2_row_15 : decode cX2_row 15 = .ok (.istore 5, 2) := by decide +kernel
theorem dX2_row_17 : decode cX2_row 17 = .ok (.iload 5, 2) := by decide +kernel
theorem dX2_row_19 : decode cX2_row 19 = .ok (.iload_n 2, 1) := by decide +kernel
theorem dX2_row_20 : decode cX2_row 20 = .ok (.if_icmp .gt 37, 3) := by decide +kernel
theorem dX2_row_23 : decode cX2_row 23 = .ok (.aload_n 0, 1) := by decide +kernel
theorem dX2_row_24 : decode cX2_row 24 = .ok (.iload_n 1, 1) := by decide +kernel
theorem dX2_row_25 : decode cX2_row 25 = .ok (.iload 5, 2) := by decide +kernel
theorem dX2_row_27 : decode cX2_row 27 = .ok (.invokevirtual 27, 3) := by decide +kernel
theorem dX2_row_30 : decode cX2_row 30 = .ok (.ifCond .eq 15, 3) := by decide +kernel
theorem dX2_row_33 : decode cX2_row 33 = .ok (.iload 4, 2) := by decide +kernel
theorem dX2_row_35 : decode cX2_row 35 = .ok (.ifCond .ne 7, 3) := by decide +kernel
theorem dX2_row_38 : decode cX2_row 38 = .ok (.iconst 1, 1) := by decide +kernel
theorem dX2_row_39 : decode cX2_row 39 = .ok (.goto 4, 3) := by decide +kernel
theorem dX2_row_42 : decode cX2_row 42 = .ok (.iconst 0, 1) := by decide +kernel
theorem dX2_row_43 : decode cX2_row 43 = .ok (.istore 4, 2) := by decide +kernel
theorem dX2_row_45 : decode cX2_row 45 = .ok (.aload_n 3, 1) := by decide +kernel
theorem dX2_row_46 : decode cX2_row 46 = .ok (.iload 5, 2) := by decide +kernel
theorem dX2_row_48 : decode cX2_row 48 = .ok (.iload 4, 2) := by decide +kernel
theorem dX2_row_50 : decode cX2_row 50 = .ok (.bastore, 1) := by decide +kernel
theorem dX2_row_51 : decode cX2_row 51 = .ok (.iinc 5 1, 3) := by decide +kernel
theorem dX2_row_54 : decode cX2_row 54 = .ok (.goto (-37), 3) := by decide +kernel
theorem dX2_row_57 : decode cX2_row 57 = .ok (.aload_n 3, 1) := by decide +kernel
theorem dX2_row_58 : decode cX2_row 58 = .ok (.areturn, 1) := by decide +kernel
set_option maxRecDepth 20000 in
theorem ggX2_pass_X2_changes : GoodIn wsX2_pass wsX2_changes := goodIn_r _ [8, 9, 10, 11, 7, 12, 13, 14, 15, 16, 17, 18, 19] (by decide +kernel) (by decide +kernel)
set_option maxRecDepth 20000 in
theorem gX2_pass_X2_changes : GoodIn wsX2_pass (wsV RX2 27 RX2 yX2_changes wsX2_changes) := goodIn_app (goodIn_of _ (by decide +kernel)) ggX2_pass_X2_changes
theorem dX2_pass_0 : decode cX2_pass 0 = .ok (.aload_n 0, 1) := by decide +kernel
theorem dX2_pass_1 : decode cX2_pass 1 = .ok (.getfield 49, 3) := by decide +kernel
theorem dX2_pass_4 : decode cX2_pass 4 = .ok (.istore_n 2, 1) := by decide +kernel
theorem dX2_pass_5 : decode cX2_pass 5 = .ok (.iconst 0, 1) := by decide +kernel
theorem dX2_pass_6 : decode cX2_pass 6 = .ok (.istore_n 3, 1) := by decide +kernel
theorem dX2_pass_7 : decode cX2_pass 7 = .ok (.iload_n 3, 1) := by decide +kernel
theorem dX2_pass_8 : decode cX2_pass 8 = .ok (.iload_n 1, 1) := by decide +kernel
theorem dX2_pass_9 : decode cX2_pass 9 = .ok (.if_icmp .ge 64, 3) := by decide +kernel
theorem dX2_pass_12 : decode cX2_pass 12 = .ok (.aload_n 0, 1) := by decide +kernel
theorem dX2_pass_13 : decode cX2_pass 13 = .ok (.dup, 1) := by decide +kernel
theorem dX2_pass_14 : decode cX2_pass 14 = .ok (.getfield 35, 3) := by decide +kernel
theorem dX2_pass_17 : decode cX2_pass 17 = .ok (.iconst 1, 1) := by decide +kernel
theorem dX2_pass_18 : decode cX2_pass 18 = .ok (.iadd, 1) := by decide +kernel
theorem dX2_pass_19 : decode cX2_pass 19 = .ok (.putfield 35, 3) := by decide +kernel
theorem dX2_pass_22 : decode cX2_pass 22 = .ok (.iconst 0, 1) := by decide +kernel
theorem dX2_pass_23 : decode cX2_pass 23 = .ok (.istore 4, 2) := by decide +kernel
theorem dX2_pass_25 : decode cX2_pass 25 = .ok (.iload 4, 2) := by decide +kernel
theorem dX2_pass_27 : decode cX2_pass 27 = .ok (.aload_n 0, 1) := by decide +kernel
theorem dX2_pass_28 : decode cX2_pass 28 = .ok (.getfield 31, 3) := by decide +kernel
theorem dX2_pass_31 : decode cX2_pass 31 = .ok (.if_icmp .ge 36, 3) := by decide +kernel
theorem dX2_pass_34 : decode cX2_pass 34 = .ok (.aload_n 0, 1) := by decide +kernel
theorem dX2_pass_35 : decode cX2_pass 35 = .ok (.dup, 1) := by decide +kernel
theorem dX2_pass_36 : decode cX2_pass 36 = .ok (.getfield 49, 3) := by decide +kernel
theorem dX2_pass_39 : decode cX2_pass 39 = .ok (.aload_n 0, 1) := by decide +kernel
theorem dX2_pass_40 : decode cX2_pass 40 = .ok (.iload 4, 2) := by decide +kernel
theorem dX2_pass_42 : decode cX2_pass 42 = .ok (.aload_n 0, 1) := by decide +kernel
theorem dX2_pass_43 : decode cX2_pass 43 = .ok (.getfield 35, 3) := by decide +kernel
theorem dX2_pass_46 : decode cX2_pass 46 = .ok (.invokevirtual 27, 3) := by decide +kernel
theorem dX2_pass_49 : decode cX2_pass 49 = .ok (.ifCond .eq 7, 3) := by decide +kernel
theorem dX2_pass_52 : decode cX2_pass 52 = .ok (.iconst 1, 1) := by decide +kernel
theorem dX2_pass_53 : decode cX2_pass 53 = .ok (.goto 4, 3) := by decide +kernel
theorem dX2_pass_56 : decode cX2_pass 56 = .ok (.iconst 0, 1) := by decide +kernel
theorem dX2_pass_57 : decode cX2_pass 57 = .ok (.iadd, 1) := by decide +kernel
theorem dX2_pass_58 : decode cX2_pass 58 = .ok (.putfield 49, 3) := by decide +kernel
theorem dX2_pass_61 : decode cX2_pass 61 = .ok (.iinc 4 1, 3) := by decide +kernel
theorem dX2_pass_64 : decode cX2_pass 64 = .ok (.goto (-39), 3) := by decide +kernel
theorem dX2_pass_67 : decode cX2_pass 67 = .ok (.iinc 3 1, 3) := by decide +kernel
theorem dX2_pass_70 : decode cX2_pass 70 = .ok (.goto (-63), 3) := by decide +kernel
theorem dX2_pass_73 : decode cX2_pass 73 = .ok (.aload_n 0, 1) := by decide +kernel
theorem dX2_pass_74 : decode cX2_pass 74 = .ok (.getfield 49, 3) := by decide +kernel
theorem dX2_pass_77 : decode cX2_pass 77 = .ok (.iload_n 2, 1) := by decide +kernel
theorem dX2_pass_78 : decode cX2_pass 78 = .ok (.isub, 1) := by decide +kernel
theorem dX2_pass_79 : decode cX2_pass 79 = .ok (.ireturn, 1) := by decide +kernel
set_option maxRecDepth 20000 in
theorem ggX2_isSame_X2_row : GoodIn wsX2_isSame wsX2_row := goodIn_r _ [10, 11, 12, 13, 14, 15, 9, 16, 17, 18, 19, 20, 4, 131, 132, 133, 134, 135, 136] (by decide +kernel) (by decide +kernel)
set_option maxRecDepth 20000 in
theorem gX2_isSame_X2_row : GoodIn wsX2_isSame (wsV RX2 38 RX2 yX2_row wsX2_row) := goodIn_app (goodIn_of _ (by decide +kernel)) ggX2_isSame_X2_row
set_option maxRecDepth 20000 in
theorem ggX2_isSame_X1_beatsOf : GoodIn wsX2_isSame wsX1_beatsOf := goodIn_ca (goodIn_r _ [25, 26, 27, 28, 29, 24, 30, 31, 32, 33, 137, 138, 139, 140, 141, 142, 143, 144, 145, 146] (by decide +kernel) (by decide +kernel)) (goodIn_sub (fun _ h => List.mem_cons_of_mem _ (List.mem_append_left _ (List.mem_append_right _ h))) (by decide +kernel))
set_option maxRecDepth 20000 in
theorem gX2_isSame_X1_beatsOf : GoodIn wsX2_isSame (wsV RX2 52 RX1 yX1_beatsOf wsX1_beatsOf) := goodIn_app (goodIn_of _ (by decide +kernel)) ggX2_isSame_X1_beatsOf
set_option maxRecDepth 20000 in
theorem ggX2_isSame_X1_isCovered : GoodIn wsX2_isSame wsX1_isCovered := goodIn_ca (goodIn_r _ [37, 26, 27, 28, 29, 24, 30, 31, 32, 33, 137, 138, 139, 140, 141, 142, 143, 144, 145, 146] (by decide +kernel) (by decide +kernel)) (goodIn_sub (fun _ h => List.mem_cons_of_mem _ (List.mem_append_left _ (List.mem_append_right _ h))) (by decide +kernel))
set_option maxRecDepth 20000 in
theorem gX2_isSame_X1_isCovered : GoodIn wsX2_isSame (wsV RX2 57 RX1 yX1_isCovered wsX1_isCovered) := goodIn_app (goodIn_of _ (by decide +kernel)) ggX2_isSame_X1_isCovered
set_option maxRecDepth 20000 in
theorem ggX2_isSame_X1_isOn : GoodIn wsX2_isSame wsX1_isOn := goodIn_ca (goodIn_r _ [41, 26, 42, 27, 28, 29, 24, 30, 31, 32, 33, 43, 44, 45, 46, 47, 48, 49, 50, 51, 52, 53, 54, 55, 56, 57, 137, 138, 139, 140, 141, 142, 143, 144, 145, 146] (by decide +kernel) (by decide +kernel)) (goodIn_sub (fun _ h => List.mem_cons_of_mem _ (List.mem_append_left _ (List.mem_append_right _ h))) (by decide +kernel))
set_option maxRecDepth 20000 in
theorem gX2_isSame_X1_isOn : GoodIn wsX2_isSame (wsV RX2 61 RX1 yX1_isOn wsX1_isOn) := goodIn_app (goodIn_of _ (by decide +kernel)) ggX2_isSame_X1_isOn
set_option maxRecDepth 20000 in
theorem ggX2_isSame_X1_isLit : GoodIn wsX2_isSame wsX1_isLit := goodIn_ca (goodIn_r _ [61, 26, 42, 27, 28, 29, 24, 30, 31, 32, 33, 62, 63, 64, 46, 65, 66, 67, 44, 45, 47, 48, 49, 50, 51, 52, 53, 54, 55, 56, 57, 137, 138, 139, 140, 141, 142, 143, 144, 145, 146] (by decide +kernel) (by decide +kernel)) (goodIn_sub (fun _ h => List.mem_cons_of_mem _ (List.mem_append_left _ (List.mem_append_right _ h))) (by decide +kernel))
set_option maxRecDepth 20000 in
theorem gX2_isSame_X1_isLit : GoodIn wsX2_isSame (wsV RX2 64 RX1 yX1_isLit wsX1_isLit) := goodIn_app (goodIn_of _ (by decide +kernel)) ggX2_isSame_X1_isLit
set_option maxRecDepth 20000 in
theorem ggX2_isSame_X1_isOnAt : GoodIn wsX2_isSame wsX1_isOnAt := goodIn_ca (goodIn_ca (goodIn_r _ [71, 26, 27, 28, 29, 24, 30, 31, 32, 33, 72, 73, 74, 75, 76, 77, 43, 44, 45, 46, 47, 48, 49, 50, 51, 52, 53, 54, 55, 56, 57, 137, 138, 139, 140, 141, 142, 143, 144, 145, 146] (by decide +kernel) (by decide +kernel)) (goodIn_sub (fun _ h => List.mem_cons_of_mem _ (List.mem_append_left _ (List.mem_append_right _ h))) (by decide +kernel))) (goodIn_sub (fun _ h => List.mem_cons_of_mem _ (List.mem_append_right _ h)) (by decide +kernel))
set_option maxRecDepth 20000 in
theorem gX2_isSame_X1_isOnAt : GoodIn wsX2_isSame (wsV RX2 67 RX1 yX1_isOnAt wsX1_isOnAt) := goodIn_app (goodIn_of _ (by decide +kernel)) ggX2_isSame_X1_isOnAt
set_option maxRecDepth 20000 in
theorem ggX2_isSame_X1_strikesAt : GoodIn wsX2_isSame wsX1_strikesAt := goodIn_ca (goodIn_ca (goodIn_r _ [81, 26, 27, 28, 29, 24, 30, 31, 32, 33, 72, 73, 74, 75, 76, 77, 82, 83, 84, 46, 85, 48, 49, 50, 137, 138, 139, 140, 141, 142, 143, 144, 145, 146] (by decide +kernel) (by decide +kernel)) (goodIn_sub (fun _ h => List.mem_cons_of_mem _ (List.mem_append_left _ (List.mem_append_right _ h))) (by decide +kernel))) (goodIn_sub (fun _ h => List.mem_cons_of_mem _ (List.mem_append_right _ h)) (by decide +kernel))
set_option maxRecDepth 20000 in
theorem gX2_isSame_X1_strikesAt : GoodIn wsX2_isSame (wsV RX2 70 RX1 yX1_strikesAt wsX1_strikesAt) := goodIn_app (goodIn_of _ (by decide +kernel)) ggX2_isSame_X1_strikesAt
set_option maxRecDepth 20000 in
theorem ggX2_isSame_X2_strikes : GoodIn wsX2_isSame wsX2_strikes := goodIn_r _ [20, 4, 131, 132, 133, 134, 135, 136] (by decide +kernel) (by decide +kernel)
set_option maxRecDepth 20000 in
theorem gX2_isSame_X2_strikes : GoodIn wsX2_isSame (wsV RX2 23 RX2 yX2_strikes wsX2_strikes) := goodIn_app (goodIn_of _ (by decide +kernel)) ggX2_isSame_X2_strikes
set_option maxRecDepth 20000 in
theorem ggX2_isSame_X1_numberOf : GoodIn wsX2_isSame wsX1_numberOf := goodIn_ca (goodIn_r _ [89, 26, 90, 91, 92, 24, 93, 31, 32, 27, 28, 29, 30, 33, 137, 138, 139, 140, 141, 142, 143, 144, 145, 146] (by decide +kernel) (by decide +kernel)) (goodIn_sub (fun _ h => List.mem_cons_of_mem _ (List.mem_append_left _ (List.mem_append_right _ h))) (by decide +kernel))
set_option maxRecDepth 20000 in
theorem gX2_isSame_X1_numberOf : GoodIn wsX2_isSame (wsV RX2 73 RX1 yX1_numberOf wsX1_numberOf) := goodIn_app (goodIn_of _ (by decide +kernel)) ggX2_isSame_X1_numberOf
set_option maxRecDepth 20000 in
theorem ggX2_isSame_X1_offsetOf : GoodIn wsX2_isSame wsX1_offsetOf := goodIn_ca (goodIn_r _ [97, 26, 90, 91, 92, 24, 93, 31, 32, 27, 28, 29, 30, 33, 137, 138, 139, 140, 141, 142, 143, 144, 145, 146] (by decide +kernel) (by decide +kernel)) (goodIn_sub (fun _ h => List.mem_cons_of_mem _ (List.mem_append_left _ (List.mem_append_right _ h))) (by decide +kernel))
set_option maxRecDepth 20000 in
theorem gX2_isSame_X1_offsetOf : GoodIn wsX2_isSame (wsV RX2 76 RX1 yX1_offsetOf wsX1_offsetOf) := goodIn_app (goodIn_of _ (by decide +kernel)) ggX2_isSame_X1_offsetOf
set_option maxRecDepth 20000 in
theorem ggX2_isSame_X1_lamps : GoodIn wsX2_isSame wsX1_lamps := goodIn_r _ [101, 33, 137, 138, 139, 140, 141] (by decide +kernel) (by decide +kernel)
set_option maxRecDepth 20000 in
theorem gX2_isSame_X1_lamps : GoodIn wsX2_isSame (wsV RX2 79 RX1 yX1_lamps wsX1_lamps) := goodIn_app (goodIn_of _ (by decide +kernel)) ggX2_isSame_X1_lamps
set_option maxRecDepth 20000 in
theorem ggX2_isSame_X1_now : GoodIn wsX2_isSame wsX1_now := goodIn_r _ [105, 42, 137, 138, 139, 140, 141] (by decide +kernel) (by decide +kernel)
set_option maxRecDepth 20000 in
theorem gX2_isSame_X1_now : GoodIn wsX2_isSame (wsV RX2 82 RX1 yX1_now wsX1_now) := goodIn_app (goodIn_of _ (by decide +kernel)) ggX2_isSame_X1_now
set_option maxRecDepth 20000 in
theorem ggX2_isSame_X1_changesSeen : GoodIn wsX2_isSame wsX1_changesSeen := goodIn_r _ [109, 110, 137, 138, 139, 140, 141] (by decide +kernel) (by decide +kernel)
set_option maxRecDepth 20000 in
theorem gX2_isSame_X1_changesSeen : GoodIn wsX2_isSame (wsV RX2 84 RX1 yX1_changesSeen wsX1_changesSeen) := goodIn_app (goodIn_of _ (by decide +kernel)) ggX2_isSame_X1_changesSeen
set_option maxRecDepth 20000 in
theorem ggX2_isSame_X1_litLamps : GoodIn wsX2_isSame wsX1_litLamps := goodIn_r _ [114, 42, 115, 116, 117, 24, 118, 33, 26, 62, 63, 64, 46, 65, 66, 67, 44, 45, 47, 48, 49, 50, 51, 52, 53, 54, 55, 56, 57, 137, 138, 139, 140, 141, 142, 143, 144, 145, 146] (by decide +kernel) (by decide +kernel)
set_option maxRecDepth 20000 in
theorem gX2_isSame_X1_litLamps : GoodIn wsX2_isSame (wsV RX2 87 RX1 yX1_litLamps wsX1_litLamps) := goodIn_app (goodIn_of _ (by decide +kernel)) ggX2_isSame_X1_litLamps
set_option maxRecDepth 20000 in
theorem ggX2_isSame_X1_isDark : GoodIn wsX2_isSame wsX1_isDark := goodIn_r _ [122, 42, 123, 124, 125, 24, 126, 33, 26, 62, 63, 64, 46, 65, 66, 67, 44, 45, 47, 48, 49, 50, 51, 52, 53, 54, 55, 56, 57, 137, 138, 139, 140, 141, 142, 143, 144, 145, 146] (by decide +kernel) (by decide +kernel)
set_option maxRecDepth 20000 in
theorem gX2_isSame_X1_isDark : GoodIn wsX2_isSame (wsV RX2 90 RX1 yX1_isDark wsX1_isDark) := goodIn_app (goodIn_of _ (by decide +kernel)) ggX2_isSame_X1_isDark
set_option maxRecDepth 20000 in
theorem ggX2_isSame_X1_meanBeats : GoodIn wsX2_isSame wsX1_meanBeats := goodIn_r _ [130, 33, 26, 137, 138, 139, 140, 141, 142, 143, 144, 145, 146] (by decide +kernel) (by decide +kernel)
set_option maxRecDepth 20000 in
theorem gX2_isSame_X1_meanBeats : GoodIn wsX2_isSame (wsV RX2 94 RX1 yX1_meanBeats wsX1_meanBeats) := goodIn_app (goodIn_of _ (by decide +kernel)) ggX2_isSame_X1_meanBeats
theorem dX2_isSame_0 : decode cX2_isSame 0 = .ok (.iconst 0, 1) := by decide +kernel
theorem dX2_isSame_1 : decode cX2_isSame 1 = .ok (.istore_n 2, 1) := by decide +kernel
theorem dX2_isSame_2 : decode cX2_isSame 2 = .ok (.iconst 0, 1) := by decide +kernel
theorem dX2_isSame_3 : decode cX2_isSame 3 = .ok (.istore_n 3, 1) := by decide +kernel
theorem dX2_isSame_4 : decode cX2_isSame 4 = .ok (.iconst 0, 1) := by decide +kernel
theorem dX2_isSame_5 : decode cX2_isSame 5 = .ok (.istore 4, 2) := by decide +kernel
theorem dX2_isSame_7 : decode cX2_isSame 7 = .ok (.iload 4, 2) := by decide +kernel
theorem dX2_isSame_9 : decode cX2_isSame 9 = .ok (.aload_n 0, 1) := by decide +kernel
theorem dX2_isSame_10 : decode cX2_isSame 10 = .ok (.getfield 31, 3) := by decide +kernel
theorem dX2_isSame_13 : decode cX2_isSame 13 = .ok (.if_icmp .ge 243, 3) := by decide +kernel
theorem dX2_isSame_16 : decode cX2_isSame 16 = .ok (.aload_n 0, 1) := by decide +kernel
theorem dX2_isSame_17 : decode cX2_isSame 17 = .ok (.iload 4, 2) := by decide +kernel
theorem dX2_isSame_19 : decode cX2_isSame 19 = .ok (.aload_n 0, 1) := by decide +kernel
theorem dX2_isSame_20 : decode cX2_isSame 20 = .ok (.getfield 35, 3) := by decide +kernel
theorem dX2_isSame_23 : decode cX2_isSame 23 = .ok (.invokevirtual 38, 3) := by decide +kernel
theorem dX2_isSame_26 : decode cX2_isSame 26 = .ok (.aload_n 0, 1) := by decide +kernel
theorem dX2_isSame_27 : decode cX2_isSame 27 = .ok (.getfield 35, 3) := by decide +kernel
theorem dX2_isSame_30 : decode cX2_isSame 30 = .ok (.baload, 1) := by decide +kernel
theorem dX2_isSame_31 : decode cX2_isSame 31 = .ok (.istore 5, 2) := by decide +kernel
theorem dX2_isSame_33 : decode cX2_isSame 33 = .ok (.iload_n 2, 1) := by decide +kernel
theorem dX2_isSame_34 : decode cX2_isSame 34 = .ok (.iload 5, 2) := by decide +kernel
theorem dX2_isSame_36 : decode cX2_isSame 36 = .ok (.ifCond .eq 17, 3) := by decide +kernel
theorem dX2_isSame_39 : decode cX2_isSame 39 = .ok (.aload_n 0, 1) := by decide +kernel
theorem dX2_isSame_40 : decode cX2_isSame 40 = .ok (.getfield 13, 3) := by decide +kernel
theorem dX2_isSame_43 : decode cX2_isSame 43 = .ok (.iload 4, 2) := by decide +kernel
theorem dX2_isSame_45 : decode cX2_isSame 45 = .ok (.baload, 1) := by decide +kernel
theorem dX2_isSame_46 : decode cX2_isSame 46 = .ok (.ifCond .ne 7, 3) := by decide +kernel
theorem dX2_isSame_49 : decode cX2_isSame 49 = .ok (.iconst 1, 1) := by decide +kernel
theorem dX2_isSame_50 : decode cX2_isSame 50 = .ok (.goto 4, 3) := by decide +kernel
theorem dX2_isSame_53 : decode cX2_isSame 53 = .ok (.iconst 0, 1) := by decide +kernel
theorem dX2_isSame_54 : decode cX2_isSame 54 = .ok (.iadd, 1) := by decide +kernel
theorem dX2_isSame_55 : decode cX2_isSame 55 = .ok (.istore_n 2, 1) := by decide +kernel
theorem dX2_isSame_56 : decode cX2_isSame 56 = .ok (.iload_n 3, 1) := by decide +kernel
theorem dX2_isSame_57 : decode cX2_isSame 57 = .ok (.aload_n 0, 1) := by decide +kernel
theorem dX2_isSame_58 : decode cX2_isSame 58 = .ok (.getfield 18, 3) := by decide +kernel
theorem dX2_isSame_61 : decode cX2_isSame 61 = .ok (.iload 4, 2) := by decide +kernel
theorem dX2_isSame_63 : decode cX2_isSame 63 = .ok (.aaload, 1) := by decide +kernel
theorem dX2_isSame_64 : decode cX2_isSame 64 = .ok (.arraylength, 1) := by decide +kernel
theorem dX2_isSame_65 : decode cX2_isSame 65 = .ok (.iadd, 1) := by decide +kernel
theorem dX2_isSame_66 : decode cX2_isSame 66 = .ok (.istore_n 3, 1) := by decide +kernel
theorem dX2_isSame_67 : decode cX2_isSame 67 = .ok (.aload_n 1, 1) := by decide +kernel
theorem dX2_isSame_68 : decode cX2_isSame 68 = .ok (.iload 4, 2) := by decide +kernel
theorem dX2_isSame_70 : decode cX2_isSame 70 = .ok (.invokevirtual 52, 3) := by decide +kernel
theorem dX2_isSame_73 : decode cX2_isSame 73 = .ok (.aload_n 0, 1) := by decide +kernel
theorem dX2_isSame_74 : decode cX2_isSame 74 = .ok (.getfield 18, 3) := by decide +kernel
theorem dX2_isSame_77 : decode cX2_isSame 77 = .ok (.iload 4, 2) := by decide +kernel
theorem dX2_isSame_79 : decode cX2_isSame 79 = .ok (.aaload, 1) := by decide +kernel
theorem dX2_isSame_80 : decode cX2_isSame 80 = .ok (.arraylength, 1) := by decide +kernel
theorem dX2_isSame_81 : decode cX2_isSame 81 = .ok (.if_icmp .ne 97, 3) := by decide +kernel
theorem dX2_isSame_84 : decode cX2_isSame 84 = .ok (.aload_n 1, 1) := by decide +kernel
theorem dX2_isSame_85 : decode cX2_isSame 85 = .ok (.iload 4, 2) := by decide +kernel
theorem dX2_isSame_87 : decode cX2_isSame 87 = .ok (.invokevirtual 57, 3) := by decide +kernel
theorem dX2_isSame_90 : decode cX2_isSame 90 = .ok (.aload_n 0, 1) := by decide +kernel
theorem dX2_isSame_91 : decode cX2_isSame 91 = .ok (.getfield 13, 3) := by decide +kernel
theorem dX2_isSame_94 : decode cX2_isSame 94 = .ok (.iload 4, 2) := by decide +kernel
theorem dX2_isSame_96 : decode cX2_isSame 96 = .ok (.baload, 1) := by decide +kernel
theorem dX2_isSame_97 : decode cX2_isSame 97 = .ok (.if_icmp .ne 81, 3) := by decide +kernel
theorem dX2_isSame_100 : decode cX2_isSame 100 = .ok (.aload_n 1, 1) := by decide +kernel
theorem dX2_isSame_101 : decode cX2_isSame 101 = .ok (.iload 4, 2) := by decide +kernel
theorem dX2_isSame_103 : decode cX2_isSame 103 = .ok (.invokevirtual 61, 3) := by decide +kernel
theorem dX2_isSame_106 : decode cX2_isSame 106 = .ok (.iload 5, 2) := by decide +kernel
theorem dX2_isSame_108 : decode cX2_isSame 108 = .ok (.if_icmp .ne 70, 3) := by decide +kernel
theorem dX2_isSame_111 : decode cX2_isSame 111 = .ok (.aload_n 1, 1) := by decide +kernel
theorem dX2_isSame_112 : decode cX2_isSame 112 = .ok (.iload 4, 2) := by decide +kernel
theorem dX2_isSame_114 : decode cX2_isSame 114 = .ok (.invokevirtual 64, 3) := by decide +kernel
theorem dX2_isSame_117 : decode cX2_isSame 117 = .ok (.iload 5, 2) := by decide +kernel
theorem dX2_isSame_119 : decode cX2_isSame 119 = .ok (.ifCond .eq 17, 3) := by decide +kernel
theorem dX2_isSame_122 : decode cX2_isSame 122 = .ok (.aload_n 0, 1) := by decide +kernel
theorem dX2_isSame_123 : decode cX2_isSame 123 = .ok (.getfield 13, 3) := by decide +kernel
theorem dX2_isSame_126 : decode cX2_isSame 126 = .ok (.iload 4, 2) := by decide +kernel
theorem dX2_isSame_128 : decode cX2_isSame 128 = .ok (.baload, 1) := by decide +kernel
theorem dX2_isSame_129 : decode cX2_isSame 129 = .ok (.ifCond .ne 7, 3) := by decide +kernel
theorem dX2_isSame_132 : decode cX2_isSame 132 = .ok (.iconst 1, 1) := by decide +kernel
theorem dX2_isSame_133 : decode cX2_isSame 133 = .ok (.goto 4, 3) := by decide +kernel
theorem dX2_isSame_136 : decode cX2_isSame 136 = .ok (.iconst 0, 1) := by decide +kernel
theorem dX2_isSame_137 : decode cX2_isSame 137 = .ok (.if_icmp .ne 41, 3) := by decide +kernel
theorem dX2_isSame_140 : decode cX2_isSame 140 = .ok (.aload_n 1, 1) := by decide +kernel
theorem dX2_isSame_141 : decode cX2_isSame 141 = .ok (.iload 4, 2) := by decide +kernel
theorem dX2_isSame_143 : decode cX2_isSame 143 = .ok (.aload_n 0, 1) := by decide +kernel
theorem dX2_isSame_144 : decode cX2_isSame 144 = .ok (.getfield 35, 3) := by decide +kernel
theorem dX2_isSame_147 : decode cX2_isSame 147 = .ok (.invokevirtual 67, 3) := by decide +kernel
theorem dX2_isSame_150 : decode cX2_isSame 150 = .ok (.iload 5, 2) := by decide +kernel
theorem dX2_isSame_152 : decode cX2_isSame 152 = .ok (.if_icmp .ne 26, 3) := by decide +kernel
theorem dX2_isSame_155 : decode cX2_isSame 155 = .ok (.aload_n 1, 1) := by decide +kernel
theorem dX2_isSame_156 : decode cX2_isSame 156 = .ok (.iload 4, 2) := by decide +kernel
theorem dX2_isSame_158 : decode cX2_isSame 158 = .ok (.aload_n 0, 1) := by decide +kernel
theorem dX2_isSame_159 : decode cX2_isSame 159 = .ok (.getfield 35, 3) := by decide +kernel
theorem dX2_isSame_162 : decode cX2_isSame 162 = .ok (.invokevirtual 70, 3) := by decide +kernel
theorem dX2_isSame_165 : decode cX2_isSame 165 = .ok (.aload_n 0, 1) := by decide +kernel
theorem dX2_isSame_166 : decode cX2_isSame 166 = .ok (.iload 4, 2) := by decide +kernel
theorem dX2_isSame_168 : decode cX2_isSame 168 = .ok (.aload_n 0, 1) := by decide +kernel
theorem dX2_isSame_169 : decode cX2_isSame 169 = .ok (.getfield 35, 3) := by decide +kernel
theorem dX2_isSame_172 : decode cX2_isSame 172 = .ok (.invokevirtual 23, 3) := by decide +kernel
theorem dX2_isSame_175 : decode cX2_isSame 175 = .ok (.if_icmp .eq 5, 3) := by decide +kernel
theorem dX2_isSame_178 : decode cX2_isSame 178 = .ok (.iconst 0, 1) := by decide +kernel
theorem dX2_isSame_179 : decode cX2_isSame 179 = .ok (.ireturn, 1) := by decide +kernel
theorem dX2_isSame_180 : decode cX2_isSame 180 = .ok (.iconst 0, 1) := by decide +kernel
theorem dX2_isSame_181 : decode cX2_isSame 181 = .ok (.istore 6, 2) := by decide +kernel
theorem dX2_isSame_183 : decode cX2_isSame 183 = .ok (.iload 6, 2) := by decide +kernel
theorem dX2_isSame_185 : decode cX2_isSame 185 = .ok (.aload_n 0, 1) := by decide +kernel
theorem dX2_isSame_186 : decode cX2_isSame 186 = .ok (.getfield 18, 3) := by decide +kernel
theorem dX2_isSame_189 : decode cX2_isSame 189 = .ok (.iload 4, 2) := by decide +kernel
theorem dX2_isSame_191 : decode cX2_isSame 191 = .ok (.aaload, 1) := by decide +kernel
theorem dX2_isSame_192 : decode cX2_isSame 192 = .ok (.arraylength, 1) := by decide +kernel
theorem dX2_isSame_193 : decode cX2_isSame 193 = .ok (.if_icmp .ge 57, 3) := by decide +kernel
theorem dX2_isSame_196 : decode cX2_isSame 196 = .ok (.aload_n 1, 1) := by decide +kernel
theorem dX2_isSame_197 : decode cX2_isSame 197 = .ok (.iload 4, 2) := by decide +kernel
theorem dX2_isSame_199 : decode cX2_isSame 199 = .ok (.iload 6, 2) := by decide +kernel
theorem dX2_isSame_201 : decode cX2_isSame 201 = .ok (.invokevirtual 73, 3) := by decide +kernel
theorem dX2_isSame_204 : decode cX2_isSame 204 = .ok (.aload_n 0, 1) := by decide +kernel
theorem dX2_isSame_205 : decode cX2_isSame 205 = .ok (.getfield 18, 3) := by decide +kernel
theorem dX2_isSame_208 : decode cX2_isSame 208 = .ok (.iload 4, 2) := by decide +kernel
theorem dX2_isSame_210 : decode cX2_isSame 210 = .ok (.aaload, 1) := by decide +kernel
theorem dX2_isSame_211 : decode cX2_isSame 211 = .ok (.iload 6, 2) := by decide +kernel
theorem dX2_isSame_213 : decode cX2_isSame 213 = .ok (.aaload, 1) := by decide +kernel
theorem dX2_isSame_214 : decode cX2_isSame 214 = .ok (.iconst 0, 1) := by decide +kernel
theorem dX2_isSame_215 : decode cX2_isSame 215 = .ok (.iaload, 1) := by decide +kernel
theorem dX2_isSame_216 : decode cX2_isSame 216 = .ok (.if_icmp .ne 26, 3) := by decide +kernel
theorem dX2_isSame_219 : decode cX2_isSame 219 = .ok (.aload_n 1, 1) := by decide +kernel
theorem dX2_isSame_220 : decode cX2_isSame 220 = .ok (.iload 4, 2) := by decide +kernel
theorem dX2_isSame_222 : decode cX2_isSame 222 = .ok (.iload 6, 2) := by decide +kernel
theorem dX2_isSame_224 : decode cX2_isSame 224 = .ok (.invokevirtual 76, 3) := by decide +kernel
theorem dX2_isSame_227 : decode cX2_isSame 227 = .ok (.aload_n 0, 1) := by decide +kernel
theorem dX2_isSame_228 : decode cX2_isSame 228 = .ok (.getfield 18, 3) := by decide +kernel
theorem dX2_isSame_231 : decode cX2_isSame 231 = .ok (.iload 4, 2) := by decide +kernel
theorem dX2_isSame_233 : decode cX2_isSame 233 = .ok (.aaload, 1) := by decide +kernel
theorem dX2_isSame_234 : decode cX2_isSame 234 = .ok (.iload 6, 2) := by decide +kernel
theorem dX2_isSame_236 : decode cX2_isSame 236 = .ok (.aaload, 1) := by decide +kernel
theorem dX2_isSame_237 : decode cX2_isSame 237 = .ok (.iconst 1, 1) := by decide +kernel
theorem dX2_isSame_238 : decode cX2_isSame 238 = .ok (.iaload, 1) := by decide +kernel
theorem dX2_isSame_239 : decode cX2_isSame 239 = .ok (.if_icmp .eq 5, 3) := by decide +kernel
theorem dX2_isSame_242 : decode cX2_isSame 242 = .ok (.iconst 0, 1) := by decide +kernel
theorem dX2_isSame_243 : decode cX2_isSame 243 = .ok (.ireturn, 1) := by decide +kernel
theorem dX2_isSame_244 : decode cX2_isSame 244 = .ok (.iinc 6 1, 3) := by decide +kernel
theorem dX2_isSame_247 : decode cX2_isSame 247 = .ok (.goto (-64), 3) := by decide +kernel
theorem dX2_isSame_250 : decode cX2_isSame 250 = .ok (.iinc 4 1, 3) := by decide +kernel
theorem dX2_isSame_253 : decode cX2_isSame 253 = .ok (.goto (-246), 3) := by decide +kernel
theorem dX2_isSame_256 : decode cX2_isSame 256 = .ok (.aload_n 1, 1) := by decide +kernel
theorem dX2_isSame_257 : decode cX2_isSame 257 = .ok (.invokevirtual 79, 3) := by decide +kernel
theorem dX2_isSame_260 : decode cX2_isSame 260 = .ok (.aload_n 0, 1) := by decide +kernel
theorem dX2_isSame_261 : decode cX2_isSame 261 = .ok (.getfield 31, 3) := by decide +kernel
theorem dX2_isSame_264 : decode cX2_isSame 264 = .ok (.if_icmp .ne 80, 3) := by decide +kernel
theorem dX2_isSame_267 : decode cX2_isSame 267 = .ok (.aload_n 1, 1) := by decide +kernel
theorem dX2_isSame_268 : decode cX2_isSame 268 = .ok (.invokevirtual 82, 3) := by decide +kernel
theorem dX2_isSame_271 : decode cX2_isSame 271 = .ok (.aload_n 0, 1) := by decide +kernel
theorem dX2_isSame_272 : decode cX2_isSame 272 = .ok (.getfield 35, 3) := by decide +kernel
theorem dX2_isSame_275 : decode cX2_isSame 275 = .ok (.if_icmp .ne 69, 3) := by decide +kernel
theorem dX2_isSame_278 : decode cX2_isSame 278 = .ok (.aload_n 1, 1) := by decide +kernel
theorem dX2_isSame_279 : decode cX2_isSame 279 = .ok (.invokevirtual 84, 3) := by decide +kernel
theorem dX2_isSame_282 : decode cX2_isSame 282 = .ok (.aload_n 0, 1) := by decide +kernel
theorem dX2_isSame_283 : decode cX2_isSame 283 = .ok (.getfield 49, 3) := by decide +kernel
theorem dX2_isSame_286 : decode cX2_isSame 286 = .ok (.if_icmp .ne 58, 3) := by decide +kernel
theorem dX2_isSame_289 : decode cX2_isSame 289 = .ok (.aload_n 1, 1) := by decide +kernel
theorem dX2_isSame_290 : decode cX2_isSame 290 = .ok (.invokevirtual 87, 3) := by decide +kernel
theorem dX2_isSame_293 : decode cX2_isSame 293 = .ok (.iload_n 2, 1) := by decide +kernel
theorem dX2_isSame_294 : decode cX2_isSame 294 = .ok (.if_icmp .ne 50, 3) := by decide +kernel
theorem dX2_isSame_297 : decode cX2_isSame 297 = .ok (.aload_n 1, 1) := by decide +kernel
theorem dX2_isSame_298 : decode cX2_isSame 298 = .ok (.invokevirtual 90, 3) := by decide +kernel
theorem dX2_isSame_301 : decode cX2_isSame 301 = .ok (.iload_n 2, 1) := by decide +kernel
theorem dX2_isSame_302 : decode cX2_isSame 302 = .ok (.ifCond .ne 7, 3) := by decide +kernel
theorem dX2_isSame_305 : decode cX2_isSame 305 = .ok (.iconst 1, 1) := by decide +kernel
theorem dX2_isSame_306 : decode cX2_isSame 306 = .ok (.goto 4, 3) := by decide +kernel
theorem dX2_isSame_309 : decode cX2_isSame 309 = .ok (.iconst 0, 1) := by decide +kernel
theorem dX2_isSame_310 : decode cX2_isSame 310 = .ok (.if_icmp .ne 34, 3) := by decide +kernel
theorem dX2_isSame_313 : decode cX2_isSame 313 = .ok (.aload_n 1, 1) := by decide +kernel
theorem dX2_isSame_314 : decode cX2_isSame 314 = .ok (.invokevirtual 94, 3) := by decide +kernel
theorem dX2_isSame_317 : decode cX2_isSame 317 = .ok (.aload_n 0, 1) := by decide +kernel
theorem dX2_isSame_318 : decode cX2_isSame 318 = .ok (.getfield 31, 3) := by decide +kernel
theorem dX2_isSame_321 : decode cX2_isSame 321 = .ok (.ifCond .ne 7, 3) := by decide +kernel
theorem dX2_isSame_324 : decode cX2_isSame 324 = .ok (.dconst 0, 1) := by decide +kernel
theorem dX2_isSame_325 : decode cX2_isSame 325 = .ok (.goto 11, 3) := by decide +kernel
theorem dX2_isSame_328 : decode cX2_isSame 328 = .ok (.iload_n 3, 1) := by decide +kernel
theorem dX2_isSame_329 : decode cX2_isSame 329 = .ok (.i2d, 1) := by decide +kernel
theorem dX2_isSame_330 : decode cX2_isSame 330 = .ok (.aload_n 0, 1) := by decide +kernel
theorem dX2_isSame_331 : decode cX2_isSame 331 = .ok (.getfield 31, 3) := by decide +kernel
theorem dX2_isSame_334 : decode cX2_isSame 334 = .ok (.i2d, 1) := by decide +kernel
theorem dX2_isSame_335 : decode cX2_isSame 335 = .ok (.ddiv, 1) := by decide +kernel
theorem dX2_isSame_336 : decode cX2_isSame 336 = .ok (.dcmp .l, 1) := by decide +kernel
theorem dX2_isSame_337 : decode cX2_isSame 337 = .ok (.ifCond .ne 7, 3) := by decide +kernel
theorem dX2_isSame_340 : decode cX2_isSame 340 = .ok (.iconst 1, 1) := by decide +kernel
theorem dX2_isSame_341 : decode cX2_isSame 341 = .ok (.goto 4, 3) := by decide +kernel
theorem dX2_isSame_344 : decode cX2_isSame 344 = .ok (.iconst 0, 1) := by decide +kernel
theorem dX2_isSame_345 : decode cX2_isSame 345 = .ok (.ireturn, 1) := by decide +kernel
