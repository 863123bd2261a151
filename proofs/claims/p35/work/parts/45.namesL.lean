theorem dL_below_0 : decode cL_below 0 = .ok (.iload_n 0, 1) := by decide +kernel
theorem dL_below_1 : decode cL_below 1 = .ok (.ldc 7, 2) := by decide +kernel
theorem dL_below_3 : decode cL_below 3 = .ok (.iand, 1) := by decide +kernel
theorem dL_below_4 : decode cL_below 4 = .ok (.iload_n 1, 1) := by decide +kernel
theorem dL_below_5 : decode cL_below 5 = .ok (.irem, 1) := by decide +kernel
theorem dL_below_6 : decode cL_below 6 = .ok (.ireturn, 1) := by decide +kernel
theorem dL_cell_0 : decode cL_cell 0 = .ok (.iload_n 1, 1) := by decide +kernel
theorem dL_cell_1 : decode cL_cell 1 = .ok (.aload_n 0, 1) := by decide +kernel
theorem dL_cell_2 : decode cL_cell 2 = .ok (.arraylength, 1) := by decide +kernel
theorem dL_cell_3 : decode cL_cell 3 = .ok (.if_icmp .ge 9, 3) := by decide +kernel
theorem dL_cell_6 : decode cL_cell 6 = .ok (.aload_n 0, 1) := by decide +kernel
theorem dL_cell_7 : decode cL_cell 7 = .ok (.iload_n 1, 1) := by decide +kernel
theorem dL_cell_8 : decode cL_cell 8 = .ok (.iaload, 1) := by decide +kernel
theorem dL_cell_9 : decode cL_cell 9 = .ok (.goto 9, 3) := by decide +kernel
theorem dL_cell_12 : decode cL_cell 12 = .ok (.ldc 8, 2) := by decide +kernel
theorem dL_cell_14 : decode cL_cell 14 = .ok (.iload_n 1, 1) := by decide +kernel
theorem dL_cell_15 : decode cL_cell 15 = .ok (.iconst 3, 1) := by decide +kernel
theorem dL_cell_16 : decode cL_cell 16 = .ok (.iadd, 1) := by decide +kernel
theorem dL_cell_17 : decode cL_cell 17 = .ok (.imul, 1) := by decide +kernel
theorem dL_cell_18 : decode cL_cell 18 = .ok (.ireturn, 1) := by decide +kernel
set_option maxRecDepth 20000 in
theorem ggL_act_L_below : GoodIn wsL_act wsL_below := goodIn_r _ [10, 11] (by decide +kernel) (by decide +kernel)
set_option maxRecDepth 20000 in
theorem gL_act_L_below : GoodIn wsL_act (va_wsS RL 15 yL_below wsL_below) := goodIn_app (goodIn_of _ (by decide +kernel)) ggL_act_L_below
set_option maxRecDepth 20000 in
theorem ggL_act_X1_addLamp : GoodIn wsL_act wsX1_addLamp := goodIn_ca (goodIn_r _ [16, 17, 18, 19, 20, 125, 126, 127, 128, 129, 130, 131, 132, 133, 134] (by decide +kernel) (by decide +kernel)) (goodIn_sub (fun _ h => List.mem_cons_of_mem _ (List.mem_append_left _ (List.mem_append_left _ (List.mem_append_right _ h)))) (by decide +kernel))
set_option maxRecDepth 20000 in
theorem gL_act_X1_addLamp : GoodIn wsL_act (wsV RL 25 RX1 yX1_addLamp wsX1_addLamp) := goodIn_app (goodIn_of _ (by decide +kernel)) ggL_act_X1_addLamp
set_option maxRecDepth 20000 in
theorem ggL_act_X2_addBeat : GoodIn wsL_act wsX2_addBeat := goodIn_r _ [25, 26, 27, 28, 119, 120, 121, 122, 123, 124] (by decide +kernel) (by decide +kernel)
set_option maxRecDepth 20000 in
theorem gL_act_X2_addBeat : GoodIn wsL_act (wsV RL 39 RX2 yX2_addBeat wsX2_addBeat) := goodIn_app (goodIn_of _ (by decide +kernel)) ggL_act_X2_addBeat
set_option maxRecDepth 20000 in
theorem ggL_act_X1_addBeat : GoodIn wsL_act wsX1_addBeat := goodIn_ca (goodIn_ca (goodIn_ca (goodIn_r _ [32, 17, 18, 20, 33, 34, 35, 15, 36, 37, 38, 19, 39, 40, 41, 42, 43, 44, 45, 46, 47, 48, 49, 50, 51, 52, 53, 54, 55, 125, 126, 127, 128, 129, 130, 131, 132, 133, 134] (by decide +kernel) (by decide +kernel)) (goodIn_sub (fun _ h => List.mem_cons_of_mem _ (List.mem_append_left _ (List.mem_append_left _ (List.mem_append_right _ h)))) (by decide +kernel))) (goodIn_sub (fun _ h => List.mem_cons_of_mem _ (List.mem_append_left _ (List.mem_append_right _ h))) (by decide +kernel))) (goodIn_sub (fun _ h => List.mem_cons_of_mem _ (List.mem_append_right _ h)) (by decide +kernel))
set_option maxRecDepth 20000 in
theorem gL_act_X1_addBeat : GoodIn wsL_act (wsV RL 43 RX1 yX1_addBeat wsX1_addBeat) := goodIn_app (goodIn_of _ (by decide +kernel)) ggL_act_X1_addBeat
set_option maxRecDepth 20000 in
theorem ggL_act_X1_moveBeat : GoodIn wsL_act wsX1_moveBeat := goodIn_ca (goodIn_ca (goodIn_r _ [59, 20, 60, 61, 62, 15, 63, 37, 38, 33, 34, 35, 36, 19, 45, 46, 47, 42, 43, 125, 126, 127, 128, 129, 130, 131, 132, 133, 134] (by decide +kernel) (by decide +kernel)) (goodIn_sub (fun _ h => List.mem_cons_of_mem _ (List.mem_append_left _ (List.mem_append_right _ h))) (by decide +kernel))) (goodIn_sub (fun _ h => List.mem_cons_of_mem _ (List.mem_append_right _ h)) (by decide +kernel))
set_option maxRecDepth 20000 in
theorem gL_act_X1_moveBeat : GoodIn wsL_act (wsV RL 48 RX1 yX1_moveBeat wsX1_moveBeat) := goodIn_app (goodIn_of _ (by decide +kernel)) ggL_act_X1_moveBeat
set_option maxRecDepth 20000 in
theorem ggL_act_X2_takeBeat : GoodIn wsL_act wsX2_takeBeat := goodIn_r _ [67, 26, 27, 119, 120, 121, 122, 123, 124] (by decide +kernel) (by decide +kernel)
set_option maxRecDepth 20000 in
theorem gL_act_X2_takeBeat : GoodIn wsL_act (wsV RL 51 RX2 yX2_takeBeat wsX2_takeBeat) := goodIn_app (goodIn_of _ (by decide +kernel)) ggL_act_X2_takeBeat
set_option maxRecDepth 20000 in
theorem ggL_act_X1_takeBeat : GoodIn wsL_act wsX1_takeBeat := goodIn_ca (goodIn_r _ [71, 20, 60, 61, 62, 15, 63, 37, 38, 33, 34, 35, 36, 19, 72, 73, 74, 51, 75, 53, 54, 55, 125, 126, 127, 128, 129, 130, 131, 132, 133, 134] (by decide +kernel) (by decide +kernel)) (goodIn_sub (fun _ h => List.mem_cons_of_mem _ (List.mem_append_left _ (List.mem_append_right _ h))) (by decide +kernel))
set_option maxRecDepth 20000 in
theorem gL_act_X1_takeBeat : GoodIn wsL_act (wsV RL 55 RX1 yX1_takeBeat wsX1_takeBeat) := goodIn_app (goodIn_of _ (by decide +kernel)) ggL_act_X1_takeBeat
set_option maxRecDepth 20000 in
theorem ggL_act_X1_turnShutter : GoodIn wsL_act wsX1_turnShutter := goodIn_ca (goodIn_r _ [79, 20, 33, 34, 35, 15, 36, 37, 38, 19, 125, 126, 127, 128, 129, 130, 131, 132, 133, 134] (by decide +kernel) (by decide +kernel)) (goodIn_sub (fun _ h => List.mem_cons_of_mem _ (List.mem_append_left _ (List.mem_append_right _ h))) (by decide +kernel))
set_option maxRecDepth 20000 in
theorem gL_act_X1_turnShutter : GoodIn wsL_act (wsV RL 60 RX1 yX1_turnShutter wsX1_turnShutter) := goodIn_app (goodIn_of _ (by decide +kernel)) ggL_act_X1_turnShutter
set_option maxRecDepth 20000 in
theorem ggL_act_X1_pass : GoodIn wsL_act wsX1_pass := goodIn_ca (goodIn_r _ [83, 84, 85, 86, 87, 15, 88, 42, 43, 89, 90, 91, 92, 19, 20, 93, 94, 95, 51, 96, 97, 98, 99, 100, 53, 54, 55, 101, 102, 103, 125, 126, 127, 128, 129, 130, 131, 132, 133, 134] (by decide +kernel) (by decide +kernel)) (goodIn_sub (fun _ h => List.mem_cons_of_mem _ (List.mem_append_right _ h)) (by decide +kernel))
set_option maxRecDepth 20000 in
theorem gL_act_X1_pass : GoodIn wsL_act (wsV RL 64 RX1 yX1_pass wsX1_pass) := goodIn_app (goodIn_of _ (by decide +kernel)) ggL_act_X1_pass
set_option maxRecDepth 20000 in
theorem ggL_act_X2_pass : GoodIn wsL_act wsX2_pass := goodIn_r _ [107, 108, 109, 110, 111, 112, 113, 24, 114, 115, 116, 117, 118, 26, 119, 120, 121, 122, 123, 124] (by decide +kernel) (by decide +kernel)
set_option maxRecDepth 20000 in
theorem gL_act_X2_pass : GoodIn wsL_act (wsV RL 68 RX2 yX2_pass wsX2_pass) := goodIn_app (goodIn_of _ (by decide +kernel)) ggL_act_X2_pass
theorem dL_act_0 : decode cL_act 0 = .ok (.aload_n 1, 1) := by decide +kernel
theorem dL_act_1 : decode cL_act 1 = .ok (.getfield 9, 3) := by decide +kernel
theorem dL_act_4 : decode cL_act 4 = .ok (.ifCond .eq 21, 3) := by decide +kernel
theorem dL_act_7 : decode cL_act 7 = .ok (.iload_n 2, 1) := by decide +kernel
theorem dL_act_8 : decode cL_act 8 = .ok (.bipush 20, 2) := by decide +kernel
theorem dL_act_10 : decode cL_act 10 = .ok (.invokestatic 15, 3) := by decide +kernel
theorem dL_act_13 : decode cL_act 13 = .ok (.ifCond .ne 68, 3) := by decide +kernel
theorem dL_act_16 : decode cL_act 16 = .ok (.aload_n 1, 1) := by decide +kernel
theorem dL_act_17 : decode cL_act 17 = .ok (.getfield 9, 3) := by decide +kernel
theorem dL_act_20 : decode cL_act 20 = .ok (.bipush 8, 2) := by decide +kernel
theorem dL_act_22 : decode cL_act 22 = .ok (.if_icmp .ge 59, 3) := by decide +kernel
theorem dL_act_25 : decode cL_act 25 = .ok (.iload_n 2, 1) := by decide +kernel
theorem dL_act_26 : decode cL_act 26 = .ok (.iconst 4, 1) := by decide +kernel
theorem dL_act_27 : decode cL_act 27 = .ok (.ishr, 1) := by decide +kernel
theorem dL_act_28 : decode cL_act 28 = .ok (.iconst 2, 1) := by decide +kernel
theorem dL_act_29 : decode cL_act 29 = .ok (.invokestatic 15, 3) := by decide +kernel
theorem dL_act_32 : decode cL_act 32 = .ok (.ifCond .ne 7, 3) := by decide +kernel
theorem dL_act_35 : decode cL_act 35 = .ok (.iconst 1, 1) := by decide +kernel
theorem dL_act_36 : decode cL_act 36 = .ok (.goto 4, 3) := by decide +kernel
theorem dL_act_39 : decode cL_act 39 = .ok (.iconst 0, 1) := by decide +kernel
theorem dL_act_40 : decode cL_act 40 = .ok (.istore_n 3, 1) := by decide +kernel
theorem dL_act_41 : decode cL_act 41 = .ok (.aload_n 1, 1) := by decide +kernel
theorem dL_act_42 : decode cL_act 42 = .ok (.getfield 21, 3) := by decide +kernel
theorem dL_act_45 : decode cL_act 45 = .ok (.aload_n 1, 1) := by decide +kernel
theorem dL_act_46 : decode cL_act 46 = .ok (.getfield 9, 3) := by decide +kernel
theorem dL_act_49 : decode cL_act 49 = .ok (.iload_n 3, 1) := by decide +kernel
theorem dL_act_50 : decode cL_act 50 = .ok (.bastore, 1) := by decide +kernel
theorem dL_act_51 : decode cL_act 51 = .ok (.aload_n 1, 1) := by decide +kernel
theorem dL_act_52 : decode cL_act 52 = .ok (.dup, 1) := by decide +kernel
theorem dL_act_53 : decode cL_act 53 = .ok (.getfield 9, 3) := by decide +kernel
theorem dL_act_56 : decode cL_act 56 = .ok (.iconst 1, 1) := by decide +kernel
theorem dL_act_57 : decode cL_act 57 = .ok (.iadd, 1) := by decide +kernel
theorem dL_act_58 : decode cL_act 58 = .ok (.putfield 9, 3) := by decide +kernel
theorem dL_act_61 : decode cL_act 61 = .ok (.aload_n 0, 1) := by decide +kernel
theorem dL_act_62 : decode cL_act 62 = .ok (.iload_n 3, 1) := by decide +kernel
theorem dL_act_63 : decode cL_act 63 = .ok (.invokevirtual 25, 3) := by decide +kernel
theorem dL_act_66 : decode cL_act 66 = .ok (.aload_n 1, 1) := by decide +kernel
theorem dL_act_67 : decode cL_act 67 = .ok (.getfield 9, 3) := by decide +kernel
theorem dL_act_70 : decode cL_act 70 = .ok (.iconst 1, 1) := by decide +kernel
theorem dL_act_71 : decode cL_act 71 = .ok (.isub, 1) := by decide +kernel
theorem dL_act_72 : decode cL_act 72 = .ok (.if_icmp .ne 7, 3) := by decide +kernel
theorem dL_act_75 : decode cL_act 75 = .ok (.iconst 1, 1) := by decide +kernel
theorem dL_act_76 : decode cL_act 76 = .ok (.goto 4, 3) := by decide +kernel
theorem dL_act_79 : decode cL_act 79 = .ok (.iconst 0, 1) := by decide +kernel
theorem dL_act_80 : decode cL_act 80 = .ok (.ireturn, 1) := by decide +kernel
theorem dL_act_81 : decode cL_act 81 = .ok (.iload_n 2, 1) := by decide +kernel
theorem dL_act_82 : decode cL_act 82 = .ok (.iconst 4, 1) := by decide +kernel
theorem dL_act_83 : decode cL_act 83 = .ok (.ishr, 1) := by decide +kernel
theorem dL_act_84 : decode cL_act 84 = .ok (.aload_n 1, 1) := by decide +kernel
theorem dL_act_85 : decode cL_act 85 = .ok (.getfield 9, 3) := by decide +kernel
theorem dL_act_88 : decode cL_act 88 = .ok (.invokestatic 15, 3) := by decide +kernel
theorem dL_act_91 : decode cL_act 91 = .ok (.istore_n 3, 1) := by decide +kernel
theorem dL_act_92 : decode cL_act 92 = .ok (.aload_n 1, 1) := by decide +kernel
theorem dL_act_93 : decode cL_act 93 = .ok (.getfield 31, 3) := by decide +kernel
theorem dL_act_96 : decode cL_act 96 = .ok (.iload_n 3, 1) := by decide +kernel
theorem dL_act_97 : decode cL_act 97 = .ok (.aaload, 1) := by decide +kernel
theorem dL_act_98 : decode cL_act 98 = .ok (.arraylength, 1) := by decide +kernel
theorem dL_act_99 : decode cL_act 99 = .ok (.istore 4, 2) := by decide +kernel
theorem dL_act_101 : decode cL_act 101 = .ok (.iload_n 2, 1) := by decide +kernel
theorem dL_act_102 : decode cL_act 102 = .ok (.bipush 14, 2) := by decide +kernel
theorem dL_act_104 : decode cL_act 104 = .ok (.invokestatic 15, 3) := by decide +kernel
theorem dL_act_107 : decode cL_act 107 = .ok (.tableswitch 306 0 6 #[41, 41, 41, 41, 132, 221, 266], 41) := by decide +kernel
theorem dL_act_148 : decode cL_act 148 = .ok (.getstatic 35, 3) := by decide +kernel
theorem dL_act_151 : decode cL_act 151 = .ok (.iload_n 2, 1) := by decide +kernel
theorem dL_act_152 : decode cL_act 152 = .ok (.bipush 6, 2) := by decide +kernel
theorem dL_act_154 : decode cL_act 154 = .ok (.ishr, 1) := by decide +kernel
theorem dL_act_155 : decode cL_act 155 = .ok (.bipush 6, 2) := by decide +kernel
theorem dL_act_157 : decode cL_act 157 = .ok (.invokestatic 15, 3) := by decide +kernel
theorem dL_act_160 : decode cL_act 160 = .ok (.iaload, 1) := by decide +kernel
theorem dL_act_161 : decode cL_act 161 = .ok (.istore 5, 2) := by decide +kernel
theorem dL_act_163 : decode cL_act 163 = .ok (.iload_n 2, 1) := by decide +kernel
theorem dL_act_164 : decode cL_act 164 = .ok (.bipush 8, 2) := by decide +kernel
theorem dL_act_166 : decode cL_act 166 = .ok (.ishr, 1) := by decide +kernel
theorem dL_act_167 : decode cL_act 167 = .ok (.iload 5, 2) := by decide +kernel
theorem dL_act_169 : decode cL_act 169 = .ok (.invokestatic 15, 3) := by decide +kernel
theorem dL_act_172 : decode cL_act 172 = .ok (.istore 6, 2) := by decide +kernel
theorem dL_act_174 : decode cL_act 174 = .ok (.iload 4, 2) := by decide +kernel
theorem dL_act_176 : decode cL_act 176 = .ok (.iconst 4, 1) := by decide +kernel
theorem dL_act_177 : decode cL_act 177 = .ok (.if_icmp .ge 7, 3) := by decide +kernel
theorem dL_act_180 : decode cL_act 180 = .ok (.iconst 1, 1) := by decide +kernel
theorem dL_act_181 : decode cL_act 181 = .ok (.goto 4, 3) := by decide +kernel
theorem dL_act_184 : decode cL_act 184 = .ok (.iconst 0, 1) := by decide +kernel
theorem dL_act_185 : decode cL_act 185 = .ok (.istore 7, 2) := by decide +kernel
theorem dL_act_187 : decode cL_act 187 = .ok (.iload 7, 2) := by decide +kernel
theorem dL_act_189 : decode cL_act 189 = .ok (.ifCond .eq 12, 3) := by decide +kernel
theorem dL_act_192 : decode cL_act 192 = .ok (.aload_n 1, 1) := by decide +kernel
theorem dL_act_193 : decode cL_act 193 = .ok (.iload_n 3, 1) := by decide +kernel
theorem dL_act_194 : decode cL_act 194 = .ok (.iload 5, 2) := by decide +kernel
theorem dL_act_196 : decode cL_act 196 = .ok (.iload 6, 2) := by decide +kernel
theorem dL_act_198 : decode cL_act 198 = .ok (.invokevirtual 39, 3) := by decide +kernel
theorem dL_act_201 : decode cL_act 201 = .ok (.aload_n 0, 1) := by decide +kernel
theorem dL_act_202 : decode cL_act 202 = .ok (.iload_n 3, 1) := by decide +kernel
theorem dL_act_203 : decode cL_act 203 = .ok (.iload 5, 2) := by decide +kernel
theorem dL_act_205 : decode cL_act 205 = .ok (.iload 6, 2) := by decide +kernel
theorem dL_act_207 : decode cL_act 207 = .ok (.invokevirtual 43, 3) := by decide +kernel
theorem dL_act_210 : decode cL_act 210 = .ok (.iload 4, 2) := by decide +kernel
theorem dL_act_212 : decode cL_act 212 = .ok (.if_icmp .ne 12, 3) := by decide +kernel
theorem dL_act_215 : decode cL_act 215 = .ok (.iload 7, 2) := by decide +kernel
theorem dL_act_217 : decode cL_act 217 = .ok (.ifCond .eq 7, 3) := by decide +kernel
theorem dL_act_220 : decode cL_act 220 = .ok (.iconst 1, 1) := by decide +kernel
theorem dL_act_221 : decode cL_act 221 = .ok (.goto 4, 3) := by decide +kernel
theorem dL_act_224 : decode cL_act 224 = .ok (.iconst 0, 1) := by decide +kernel
theorem dL_act_225 : decode cL_act 225 = .ok (.ireturn, 1) := by decide +kernel
theorem dL_act_226 : decode cL_act 226 = .ok (.astore 8, 2) := by decide +kernel
theorem dL_act_228 : decode cL_act 228 = .ok (.iload 7, 2) := by decide +kernel
theorem dL_act_230 : decode cL_act 230 = .ok (.ifCond .ne 7, 3) := by decide +kernel
theorem dL_act_233 : decode cL_act 233 = .ok (.iconst 1, 1) := by decide +kernel
theorem dL_act_234 : decode cL_act 234 = .ok (.goto 4, 3) := by decide +kernel
theorem dL_act_237 : decode cL_act 237 = .ok (.iconst 0, 1) := by decide +kernel
theorem dL_act_238 : decode cL_act 238 = .ok (.ireturn, 1) := by decide +kernel
theorem dL_act_239 : decode cL_act 239 = .ok (.iload 4, 2) := by decide +kernel
theorem dL_act_241 : decode cL_act 241 = .ok (.ifCond .ne 5, 3) := by decide +kernel
theorem dL_act_244 : decode cL_act 244 = .ok (.iconst 1, 1) := by decide +kernel
theorem dL_act_245 : decode cL_act 245 = .ok (.ireturn, 1) := by decide +kernel
theorem dL_act_246 : decode cL_act 246 = .ok (.iload_n 2, 1) := by decide +kernel
theorem dL_act_247 : decode cL_act 247 = .ok (.bipush 7, 2) := by decide +kernel
theorem dL_act_249 : decode cL_act 249 = .ok (.ishr, 1) := by decide +kernel
theorem dL_act_250 : decode cL_act 250 = .ok (.iload 4, 2) := by decide +kernel
theorem dL_act_252 : decode cL_act 252 = .ok (.invokestatic 15, 3) := by decide +kernel
theorem dL_act_255 : decode cL_act 255 = .ok (.istore 5, 2) := by decide +kernel
theorem dL_act_257 : decode cL_act 257 = .ok (.aload_n 1, 1) := by decide +kernel
theorem dL_act_258 : decode cL_act 258 = .ok (.getfield 31, 3) := by decide +kernel
theorem dL_act_261 : decode cL_act 261 = .ok (.iload_n 3, 1) := by decide +kernel
theorem dL_act_262 : decode cL_act 262 = .ok (.aaload, 1) := by decide +kernel
theorem dL_act_263 : decode cL_act 263 = .ok (.iload 5, 2) := by decide +kernel
theorem dL_act_265 : decode cL_act 265 = .ok (.aaload, 1) := by decide +kernel
theorem dL_act_266 : decode cL_act 266 = .ok (.iconst 1, 1) := by decide +kernel
theorem dL_act_267 : decode cL_act 267 = .ok (.iaload, 1) := by decide +kernel
theorem dL_act_268 : decode cL_act 268 = .ok (.istore 6, 2) := by decide +kernel
theorem dL_act_270 : decode cL_act 270 = .ok (.aload_n 1, 1) := by decide +kernel
theorem dL_act_271 : decode cL_act 271 = .ok (.getfield 31, 3) := by decide +kernel
theorem dL_act_274 : decode cL_act 274 = .ok (.iload_n 3, 1) := by decide +kernel
theorem dL_act_275 : decode cL_act 275 = .ok (.aaload, 1) := by decide +kernel
theorem dL_act_276 : decode cL_act 276 = .ok (.iload 5, 2) := by decide +kernel
theorem dL_act_278 : decode cL_act 278 = .ok (.aaload, 1) := by decide +kernel
theorem dL_act_279 : decode cL_act 279 = .ok (.iconst 1, 1) := by decide +kernel
theorem dL_act_280 : decode cL_act 280 = .ok (.iload_n 2, 1) := by decide +kernel
theorem dL_act_281 : decode cL_act 281 = .ok (.bipush 9, 2) := by decide +kernel
theorem dL_act_283 : decode cL_act 283 = .ok (.ishr, 1) := by decide +kernel
theorem dL_act_284 : decode cL_act 284 = .ok (.aload_n 1, 1) := by decide +kernel
theorem dL_act_285 : decode cL_act 285 = .ok (.getfield 31, 3) := by decide +kernel
theorem dL_act_288 : decode cL_act 288 = .ok (.iload_n 3, 1) := by decide +kernel
theorem dL_act_289 : decode cL_act 289 = .ok (.aaload, 1) := by decide +kernel
theorem dL_act_290 : decode cL_act 290 = .ok (.iload 5, 2) := by decide +kernel
theorem dL_act_292 : decode cL_act 292 = .ok (.aaload, 1) := by decide +kernel
theorem dL_act_293 : decode cL_act 293 = .ok (.iconst 0, 1) := by decide +kernel
theorem dL_act_294 : decode cL_act 294 = .ok (.iaload, 1) := by decide +kernel
theorem dL_act_295 : decode cL_act 295 = .ok (.invokestatic 15, 3) := by decide +kernel
theorem dL_act_298 : decode cL_act 298 = .ok (.iastore, 1) := by decide +kernel
theorem dL_act_299 : decode cL_act 299 = .ok (.aload_n 0, 1) := by decide +kernel
theorem dL_act_300 : decode cL_act 300 = .ok (.iload_n 3, 1) := by decide +kernel
theorem dL_act_301 : decode cL_act 301 = .ok (.iload 5, 2) := by decide +kernel
theorem dL_act_303 : decode cL_act 303 = .ok (.aload_n 1, 1) := by decide +kernel
theorem dL_act_304 : decode cL_act 304 = .ok (.getfield 31, 3) := by decide +kernel
theorem dL_act_307 : decode cL_act 307 = .ok (.iload_n 3, 1) := by decide +kernel
theorem dL_act_308 : decode cL_act 308 = .ok (.aaload, 1) := by decide +kernel
theorem dL_act_309 : decode cL_act 309 = .ok (.iload 5, 2) := by decide +kernel
theorem dL_act_311 : decode cL_act 311 = .ok (.aaload, 1) := by decide +kernel
theorem dL_act_312 : decode cL_act 312 = .ok (.iconst 1, 1) := by decide +kernel
theorem dL_act_313 : decode cL_act 313 = .ok (.iaload, 1) := by decide +kernel
theorem dL_act_314 : decode cL_act 314 = .ok (.invokevirtual 48, 3) := by decide +kernel
theorem dL_act_317 : decode cL_act 317 = .ok (.iload 6, 2) := by decide +kernel
theorem dL_act_319 : decode cL_act 319 = .ok (.if_icmp .ne 7, 3) := by decide +kernel
theorem dL_act_322 : decode cL_act 322 = .ok (.iconst 1, 1) := by decide +kernel
theorem dL_act_323 : decode cL_act 323 = .ok (.goto 4, 3) := by decide +kernel
theorem dL_act_326 : decode cL_act 326 = .ok (.iconst 0, 1) := by decide +kernel
theorem dL_act_327 : decode cL_act 327 = .ok (.ireturn, 1) := by decide +kernel
theorem dL_act_328 : decode cL_act 328 = .ok (.iload 4, 2) := by decide +kernel
theorem dL_act_330 : decode cL_act 330 = .ok (.ifCond .ne 5, 3) := by decide +kernel
theorem dL_act_333 : decode cL_act 333 = .ok (.iconst 1, 1) := by decide +kernel
theorem dL_act_334 : decode cL_act 334 = .ok (.ireturn, 1) := by decide +kernel
theorem dL_act_335 : decode cL_act 335 = .ok (.iload_n 2, 1) := by decide +kernel
theorem dL_act_336 : decode cL_act 336 = .ok (.bipush 7, 2) := by decide +kernel
theorem dL_act_338 : decode cL_act 338 = .ok (.ishr, 1) := by decide +kernel
theorem dL_act_339 : decode cL_act 339 = .ok (.iload 4, 2) := by decide +kernel
theorem dL_act_341 : decode cL_act 341 = .ok (.invokestatic 15, 3) := by decide +kernel
theorem dL_act_344 : decode cL_act 344 = .ok (.istore 5, 2) := by decide +kernel
theorem dL_act_346 : decode cL_act 346 = .ok (.aload_n 1, 1) := by decide +kernel
theorem dL_act_347 : decode cL_act 347 = .ok (.iload_n 3, 1) := by decide +kernel
theorem dL_act_348 : decode cL_act 348 = .ok (.iload 5, 2) := by decide +kernel
theorem dL_act_350 : decode cL_act 350 = .ok (.invokevirtual 51, 3) := by decide +kernel
theorem dL_act_353 : decode cL_act 353 = .ok (.aload_n 0, 1) := by decide +kernel
theorem dL_act_354 : decode cL_act 354 = .ok (.iload_n 3, 1) := by decide +kernel
theorem dL_act_355 : decode cL_act 355 = .ok (.iload 5, 2) := by decide +kernel
theorem dL_act_357 : decode cL_act 357 = .ok (.invokevirtual 55, 3) := by decide +kernel
theorem dL_act_360 : decode cL_act 360 = .ok (.iload 4, 2) := by decide +kernel
theorem dL_act_362 : decode cL_act 362 = .ok (.iconst 1, 1) := by decide +kernel
theorem dL_act_363 : decode cL_act 363 = .ok (.isub, 1) := by decide +kernel
theorem dL_act_364 : decode cL_act 364 = .ok (.if_icmp .ne 7, 3) := by decide +kernel
theorem dL_act_367 : decode cL_act 367 = .ok (.iconst 1, 1) := by decide +kernel
theorem dL_act_368 : decode cL_act 368 = .ok (.goto 4, 3) := by decide +kernel
theorem dL_act_371 : decode cL_act 371 = .ok (.iconst 0, 1) := by decide +kernel
theorem dL_act_372 : decode cL_act 372 = .ok (.ireturn, 1) := by decide +kernel
theorem dL_act_373 : decode cL_act 373 = .ok (.aload_n 1, 1) := by decide +kernel
theorem dL_act_374 : decode cL_act 374 = .ok (.getfield 57, 3) := by decide +kernel
theorem dL_act_377 : decode cL_act 377 = .ok (.iload_n 3, 1) := by decide +kernel
theorem dL_act_378 : decode cL_act 378 = .ok (.aload_n 1, 1) := by decide +kernel
theorem dL_act_379 : decode cL_act 379 = .ok (.getfield 57, 3) := by decide +kernel
theorem dL_act_382 : decode cL_act 382 = .ok (.iload_n 3, 1) := by decide +kernel
theorem dL_act_383 : decode cL_act 383 = .ok (.baload, 1) := by decide +kernel
theorem dL_act_384 : decode cL_act 384 = .ok (.ifCond .ne 7, 3) := by decide +kernel
theorem dL_act_387 : decode cL_act 387 = .ok (.iconst 1, 1) := by decide +kernel
theorem dL_act_388 : decode cL_act 388 = .ok (.goto 4, 3) := by decide +kernel
theorem dL_act_391 : decode cL_act 391 = .ok (.iconst 0, 1) := by decide +kernel
theorem dL_act_392 : decode cL_act 392 = .ok (.bastore, 1) := by decide +kernel
theorem dL_act_393 : decode cL_act 393 = .ok (.aload_n 0, 1) := by decide +kernel
theorem dL_act_394 : decode cL_act 394 = .ok (.iload_n 3, 1) := by decide +kernel
theorem dL_act_395 : decode cL_act 395 = .ok (.invokevirtual 60, 3) := by decide +kernel
theorem dL_act_398 : decode cL_act 398 = .ok (.aload_n 1, 1) := by decide +kernel
theorem dL_act_399 : decode cL_act 399 = .ok (.getfield 57, 3) := by decide +kernel
theorem dL_act_402 : decode cL_act 402 = .ok (.iload_n 3, 1) := by decide +kernel
theorem dL_act_403 : decode cL_act 403 = .ok (.baload, 1) := by decide +kernel
theorem dL_act_404 : decode cL_act 404 = .ok (.if_icmp .ne 7, 3) := by decide +kernel
theorem dL_act_407 : decode cL_act 407 = .ok (.iconst 1, 1) := by decide +kernel
theorem dL_act_408 : decode cL_act 408 = .ok (.goto 4, 3) := by decide +kernel
theorem dL_act_411 : decode cL_act 411 = .ok (.iconst 0, 1) := by decide +kernel
theorem dL_act_412 : decode cL_act 412 = .ok (.ireturn, 1) := by decide +kernel
theorem dL_act_413 : decode cL_act 413 = .ok (.iconst 1, 1) := by decide +kernel
theorem dL_act_414 : decode cL_act 414 = .ok (.iload_n 2, 1) := by decide +kernel
theorem dL_act_415 : decode cL_act 415 = .ok (.bipush 6, 2) := by decide +kernel
theorem dL_act_417 : decode cL_act 417 = .ok (.ishr, 1) := by decide +kernel
theorem dL_act_418 : decode cL_act 418 = .ok (.iload_n 2, 1) := by decide +kernel
theorem dL_act_419 : decode cL_act 419 = .ok (.bipush 9, 2) := by decide +kernel
theorem dL_act_421 : decode cL_act 421 = .ok (.ishr, 1) := by decide +kernel
theorem dL_act_422 : decode cL_act 422 = .ok (.iconst 5, 1) := by decide +kernel
theorem dL_act_423 : decode cL_act 423 = .ok (.invokestatic 15, 3) := by decide +kernel
theorem dL_act_426 : decode cL_act 426 = .ok (.ifCond .ne 9, 3) := by decide +kernel
theorem dL_act_429 : decode cL_act 429 = .ok (.sipush 500, 3) := by decide +kernel
theorem dL_act_432 : decode cL_act 432 = .ok (.goto 5, 3) := by decide +kernel
theorem dL_act_435 : decode cL_act 435 = .ok (.bipush 9, 2) := by decide +kernel
theorem dL_act_437 : decode cL_act 437 = .ok (.invokestatic 15, 3) := by decide +kernel
theorem dL_act_440 : decode cL_act 440 = .ok (.iadd, 1) := by decide +kernel
theorem dL_act_441 : decode cL_act 441 = .ok (.istore 5, 2) := by decide +kernel
theorem dL_act_443 : decode cL_act 443 = .ok (.aload_n 0, 1) := by decide +kernel
theorem dL_act_444 : decode cL_act 444 = .ok (.iload 5, 2) := by decide +kernel
theorem dL_act_446 : decode cL_act 446 = .ok (.invokevirtual 64, 3) := by decide +kernel
theorem dL_act_449 : decode cL_act 449 = .ok (.aload_n 1, 1) := by decide +kernel
theorem dL_act_450 : decode cL_act 450 = .ok (.iload 5, 2) := by decide +kernel
theorem dL_act_452 : decode cL_act 452 = .ok (.invokevirtual 68, 3) := by decide +kernel
theorem dL_act_455 : decode cL_act 455 = .ok (.if_icmp .ne 7, 3) := by decide +kernel
theorem dL_act_458 : decode cL_act 458 = .ok (.iconst 1, 1) := by decide +kernel
theorem dL_act_459 : decode cL_act 459 = .ok (.goto 4, 3) := by decide +kernel
theorem dL_act_462 : decode cL_act 462 = .ok (.iconst 0, 1) := by decide +kernel
theorem dL_act_463 : decode cL_act 463 = .ok (.ireturn, 1) := by decide +kernel
set_option maxRecDepth 20000 in
theorem ggL_build_X2_init : GoodIn wsL_build wsX2_init := goodIn_r _ [9, 10, 11, 12, 13, 14, 15, 16, 72, 73, 74, 75, 76, 77] (by decide +kernel) (by decide +kernel)
set_option maxRecDepth 20000 in
theorem gL_build_X2_init_n69 : GoodIn wsL_build (wsX2_init) := ggL_build_X2_init
set_option maxRecDepth 20000 in
theorem ggL_build_L_cell : GoodIn wsL_build wsL_cell := goodIn_r _ [20, 21] (by decide +kernel) (by decide +kernel)
set_option maxRecDepth 20000 in
theorem gL_build_L_cell : GoodIn wsL_build (va_wsS RL 70 yL_cell wsL_cell) := goodIn_app (goodIn_of _ (by decide +kernel)) ggL_build_L_cell
set_option maxRecDepth 20000 in
theorem ggL_build_L_below : GoodIn wsL_build wsL_below := goodIn_r _ [24, 25] (by decide +kernel) (by decide +kernel)
set_option maxRecDepth 20000 in
theorem gL_build_L_below : GoodIn wsL_build (va_wsS RL 15 yL_below wsL_below) := goodIn_app (goodIn_of _ (by decide +kernel)) ggL_build_L_below
set_option maxRecDepth 20000 in
theorem ggL_build_X1_addLamp : GoodIn wsL_build wsX1_addLamp := goodIn_ca (goodIn_r _ [30, 31, 32, 33, 34, 78, 79, 80, 81, 82, 83, 84, 85, 86, 87] (by decide +kernel) (by decide +kernel)) (goodIn_sub (fun _ h => List.mem_cons_of_mem _ (List.mem_append_left _ (List.mem_append_left _ (List.mem_append_right _ h)))) (by decide +kernel))
set_option maxRecDepth 20000 in
theorem gL_build_X1_addLamp : GoodIn wsL_build (wsV RL 25 RX1 yX1_addLamp wsX1_addLamp) := goodIn_app (goodIn_of _ (by decide +kernel)) ggL_build_X1_addLamp
set_option maxRecDepth 20000 in
theorem ggL_build_X2_addBeat : GoodIn wsL_build wsX2_addBeat := goodIn_r _ [38, 16, 39, 40, 72, 73, 74, 75, 76, 77] (by decide +kernel) (by decide +kernel)
set_option maxRecDepth 20000 in
theorem gL_build_X2_addBeat : GoodIn wsL_build (wsV RL 39 RX2 yX2_addBeat wsX2_addBeat) := goodIn_app (goodIn_of _ (by decide +kernel)) ggL_build_X2_addBeat
set_option maxRecDepth 20000 in
theorem ggL_build_X1_addBeat : GoodIn wsL_build wsX1_addBeat := goodIn_ca (goodIn_ca (goodIn_ca (goodIn_r _ [44, 31, 32, 34, 45, 46, 47, 29, 48, 49, 50, 33, 51, 52, 53, 54, 55, 56, 57, 58, 59, 60, 61, 62, 63, 64, 65, 66, 67, 78, 79, 80, 81, 82, 83, 84, 85, 86, 87] (by decide +kernel) (by decide +kernel)) (goodIn_sub (fun _ h => List.mem_cons_of_mem _ (List.mem_append_left _ (List.mem_append_left _ (List.mem_append_right _ h)))) (by decide +kernel))) (goodIn_sub (fun _ h => List.mem_cons_of_mem _ (List.mem_append_left _ (List.mem_append_right _ h))) (by decide +kernel))) (goodIn_sub (fun _ h => List.mem_cons_of_mem _ (List.mem_append_right _ h)) (by decide +kernel))
set_option maxRecDepth 20000 in
theorem gL_build_X1_addBeat : GoodIn wsL_build (wsV RL 43 RX1 yX1_addBeat wsX1_addBeat) := goodIn_app (goodIn_of _ (by decide +kernel)) ggL_build_X1_addBeat
set_option maxRecDepth 20000 in
theorem ggL_build_X1_turnShutter : GoodIn wsL_build wsX1_turnShutter := goodIn_ca (goodIn_r _ [71, 34, 45, 46, 47, 29, 48, 49, 50, 33, 78, 79, 80, 81, 82, 83, 84, 85, 86, 87] (by decide +kernel) (by decide +kernel)) (goodIn_sub (fun _ h => List.mem_cons_of_mem _ (List.mem_append_left _ (List.mem_append_right _ h))) (by decide +kernel))
set_option maxRecDepth 20000 in
theorem gL_build_X1_turnShutter : GoodIn wsL_build (wsV RL 60 RX1 yX1_turnShutter wsX1_turnShutter) := goodIn_app (goodIn_of _ (by decide +kernel)) ggL_build_X1_turnShutter
theorem dL_build_0 : decode cL_build 0 = .ok (.new 10, 3) := by decide +kernel
theorem dL_build_3 : decode cL_build 3 = .ok (.dup, 1) := by decide +kernel
theorem dL_build_4 : decode cL_build 4 = .ok (.invokespecial 69, 3) := by decide +kernel
theorem dL_build_7 : decode cL_build 7 = .ok (.astore_n 2, 1) := by decide +kernel
theorem dL_build_8 : decode cL_build 8 = .ok (.iconst 1, 1) := by decide +kernel
theorem dL_build_9 : decode cL_build 9 = .ok (.aload_n 1, 1) := by decide +kernel
theorem dL_build_10 : decode cL_build 10 = .ok (.iconst 0, 1) := by decide +kernel
theorem dL_build_11 : decode cL_build 11 = .ok (.invokestatic 70, 3) := by decide +kernel
theorem dL_build_14 : decode cL_build 14 = .ok (.bipush 8, 2) := by decide +kernel
theorem dL_build_16 : decode cL_build 16 = .ok (.invokestatic 15, 3) := by decide +kernel
theorem dL_build_19 : decode cL_build 19 = .ok (.iadd, 1) := by decide +kernel
theorem dL_build_20 : decode cL_build 20 = .ok (.istore_n 3, 1) := by decide +kernel
theorem dL_build_21 : decode cL_build 21 = .ok (.iconst 0, 1) := by decide +kernel
theorem dL_build_22 : decode cL_build 22 = .ok (.istore 4, 2) := by decide +kernel
theorem dL_build_24 : decode cL_build 24 = .ok (.iload 4, 2) := by decide +kernel
theorem dL_build_26 : decode cL_build 26 = .ok (.iload_n 3, 1) := by decide +kernel
theorem dL_build_27 : decode cL_build 27 = .ok (.if_icmp .ge 208, 3) := by decide +kernel
theorem dL_build_30 : decode cL_build 30 = .ok (.aload_n 1, 1) := by decide +kernel
theorem dL_build_31 : decode cL_build 31 = .ok (.iconst 1, 1) := by decide +kernel
theorem dL_build_32 : decode cL_build 32 = .ok (.iload 4, 2) := by decide +kernel
theorem dL_build_34 : decode cL_build 34 = .ok (.iadd, 1) := by decide +kernel
theorem dL_build_35 : decode cL_build 35 = .ok (.invokestatic 70, 3) := by decide +kernel
theorem dL_build_38 : decode cL_build 38 = .ok (.istore 5, 2) := by decide +kernel
theorem dL_build_40 : decode cL_build 40 = .ok (.iload 5, 2) := by decide +kernel
theorem dL_build_42 : decode cL_build 42 = .ok (.iconst 2, 1) := by decide +kernel
theorem dL_build_43 : decode cL_build 43 = .ok (.invokestatic 15, 3) := by decide +kernel
theorem dL_build_46 : decode cL_build 46 = .ok (.ifCond .ne 7, 3) := by decide +kernel
theorem dL_build_49 : decode cL_build 49 = .ok (.iconst 1, 1) := by decide +kernel
theorem dL_build_50 : decode cL_build 50 = .ok (.goto 4, 3) := by decide +kernel
theorem dL_build_53 : decode cL_build 53 = .ok (.iconst 0, 1) := by decide +kernel
theorem dL_build_54 : decode cL_build 54 = .ok (.istore 6, 2) := by decide +kernel
theorem dL_build_56 : decode cL_build 56 = .ok (.aload_n 2, 1) := by decide +kernel
theorem dL_build_57 : decode cL_build 57 = .ok (.getfield 21, 3) := by decide +kernel
theorem dL_build_60 : decode cL_build 60 = .ok (.iload 4, 2) := by decide +kernel
theorem dL_build_62 : decode cL_build 62 = .ok (.iload 6, 2) := by decide +kernel
theorem dL_build_64 : decode cL_build 64 = .ok (.bastore, 1) := by decide +kernel
theorem dL_build_65 : decode cL_build 65 = .ok (.aload_n 2, 1) := by decide +kernel
theorem dL_build_66 : decode cL_build 66 = .ok (.dup, 1) := by decide +kernel
theorem dL_build_67 : decode cL_build 67 = .ok (.getfield 9, 3) := by decide +kernel
theorem dL_build_70 : decode cL_build 70 = .ok (.iconst 1, 1) := by decide +kernel
theorem dL_build_71 : decode cL_build 71 = .ok (.iadd, 1) := by decide +kernel
theorem dL_build_72 : decode cL_build 72 = .ok (.putfield 9, 3) := by decide +kernel
theorem dL_build_75 : decode cL_build 75 = .ok (.aload_n 0, 1) := by decide +kernel
theorem dL_build_76 : decode cL_build 76 = .ok (.iload 6, 2) := by decide +kernel
theorem dL_build_78 : decode cL_build 78 = .ok (.invokevirtual 25, 3) := by decide +kernel
theorem dL_build_81 : decode cL_build 81 = .ok (.iload 4, 2) := by decide +kernel
theorem dL_build_83 : decode cL_build 83 = .ok (.if_icmp .eq 5, 3) := by decide +kernel
theorem dL_build_86 : decode cL_build 86 = .ok (.aconst_null, 1) := by decide +kernel
theorem dL_build_87 : decode cL_build 87 = .ok (.areturn, 1) := by decide +kernel
theorem dL_build_88 : decode cL_build 88 = .ok (.iload 5, 2) := by decide +kernel
theorem dL_build_90 : decode cL_build 90 = .ok (.iconst 2, 1) := by decide +kernel
theorem dL_build_91 : decode cL_build 91 = .ok (.ishr, 1) := by decide +kernel
theorem dL_build_92 : decode cL_build 92 = .ok (.iconst 4, 1) := by decide +kernel
theorem dL_build_93 : decode cL_build 93 = .ok (.invokestatic 15, 3) := by decide +kernel
theorem dL_build_96 : decode cL_build 96 = .ok (.istore 7, 2) := by decide +kernel
theorem dL_build_98 : decode cL_build 98 = .ok (.iconst 0, 1) := by decide +kernel
theorem dL_build_99 : decode cL_build 99 = .ok (.istore 8, 2) := by decide +kernel
theorem dL_build_101 : decode cL_build 101 = .ok (.iload 8, 2) := by decide +kernel
theorem dL_build_103 : decode cL_build 103 = .ok (.iload 7, 2) := by decide +kernel
theorem dL_build_105 : decode cL_build 105 = .ok (.if_icmp .ge 90, 3) := by decide +kernel
theorem dL_build_108 : decode cL_build 108 = .ok (.getstatic 35, 3) := by decide +kernel
theorem dL_build_111 : decode cL_build 111 = .ok (.iload 5, 2) := by decide +kernel
theorem dL_build_113 : decode cL_build 113 = .ok (.iconst 4, 1) := by decide +kernel
theorem dL_build_114 : decode cL_build 114 = .ok (.ishr, 1) := by decide +kernel
theorem dL_build_115 : decode cL_build 115 = .ok (.iconst 5, 1) := by decide +kernel
theorem dL_build_116 : decode cL_build 116 = .ok (.iload 8, 2) := by decide +kernel
theorem dL_build_118 : decode cL_build 118 = .ok (.imul, 1) := by decide +kernel
theorem dL_build_119 : decode cL_build 119 = .ok (.iadd, 1) := by decide +kernel
theorem dL_build_120 : decode cL_build 120 = .ok (.iload 5, 2) := by decide +kernel
theorem dL_build_122 : decode cL_build 122 = .ok (.bipush 9, 2) := by decide +kernel
theorem dL_build_124 : decode cL_build 124 = .ok (.ishr, 1) := by decide +kernel
theorem dL_build_125 : decode cL_build 125 = .ok (.iconst 2, 1) := by decide +kernel
theorem dL_build_126 : decode cL_build 126 = .ok (.invokestatic 15, 3) := by decide +kernel
theorem dL_build_129 : decode cL_build 129 = .ok (.ifCond .ne 7, 3) := by decide +kernel
theorem dL_build_132 : decode cL_build 132 = .ok (.iconst 3, 1) := by decide +kernel
theorem dL_build_133 : decode cL_build 133 = .ok (.goto 5, 3) := by decide +kernel
theorem dL_build_136 : decode cL_build 136 = .ok (.bipush 6, 2) := by decide +kernel
theorem dL_build_138 : decode cL_build 138 = .ok (.invokestatic 15, 3) := by decide +kernel
theorem dL_build_141 : decode cL_build 141 = .ok (.iaload, 1) := by decide +kernel
theorem dL_build_142 : decode cL_build 142 = .ok (.istore 9, 2) := by decide +kernel
theorem dL_build_144 : decode cL_build 144 = .ok (.iload 5, 2) := by decide +kernel
theorem dL_build_146 : decode cL_build 146 = .ok (.bipush 6, 2) := by decide +kernel
theorem dL_build_148 : decode cL_build 148 = .ok (.ishr, 1) := by decide +kernel
theorem dL_build_149 : decode cL_build 149 = .ok (.bipush 7, 2) := by decide +kernel
theorem dL_build_151 : decode cL_build 151 = .ok (.iload 8, 2) := by decide +kernel
theorem dL_build_153 : decode cL_build 153 = .ok (.imul, 1) := by decide +kernel
theorem dL_build_154 : decode cL_build 154 = .ok (.iadd, 1) := by decide +kernel
theorem dL_build_155 : decode cL_build 155 = .ok (.iload 9, 2) := by decide +kernel
theorem dL_build_157 : decode cL_build 157 = .ok (.invokestatic 15, 3) := by decide +kernel
theorem dL_build_160 : decode cL_build 160 = .ok (.istore 10, 2) := by decide +kernel
theorem dL_build_162 : decode cL_build 162 = .ok (.aload_n 2, 1) := by decide +kernel
theorem dL_build_163 : decode cL_build 163 = .ok (.iload 4, 2) := by decide +kernel
theorem dL_build_165 : decode cL_build 165 = .ok (.iload 9, 2) := by decide +kernel
theorem dL_build_167 : decode cL_build 167 = .ok (.iload 10, 2) := by decide +kernel
theorem dL_build_169 : decode cL_build 169 = .ok (.invokevirtual 39, 3) := by decide +kernel
theorem dL_build_172 : decode cL_build 172 = .ok (.aload_n 0, 1) := by decide +kernel
theorem dL_build_173 : decode cL_build 173 = .ok (.iload 4, 2) := by decide +kernel
theorem dL_build_175 : decode cL_build 175 = .ok (.iload 9, 2) := by decide +kernel
theorem dL_build_177 : decode cL_build 177 = .ok (.iload 10, 2) := by decide +kernel
theorem dL_build_179 : decode cL_build 179 = .ok (.invokevirtual 43, 3) := by decide +kernel
theorem dL_build_182 : decode cL_build 182 = .ok (.iload 8, 2) := by decide +kernel
theorem dL_build_184 : decode cL_build 184 = .ok (.if_icmp .eq 5, 3) := by decide +kernel
theorem dL_build_187 : decode cL_build 187 = .ok (.aconst_null, 1) := by decide +kernel
theorem dL_build_188 : decode cL_build 188 = .ok (.areturn, 1) := by decide +kernel
theorem dL_build_189 : decode cL_build 189 = .ok (.iinc 8 1, 3) := by decide +kernel
theorem dL_build_192 : decode cL_build 192 = .ok (.goto (-91), 3) := by decide +kernel
theorem dL_build_195 : decode cL_build 195 = .ok (.iload 5, 2) := by decide +kernel
theorem dL_build_197 : decode cL_build 197 = .ok (.bipush 8, 2) := by decide +kernel
theorem dL_build_199 : decode cL_build 199 = .ok (.ishr, 1) := by decide +kernel
theorem dL_build_200 : decode cL_build 200 = .ok (.iconst 4, 1) := by decide +kernel
theorem dL_build_201 : decode cL_build 201 = .ok (.invokestatic 15, 3) := by decide +kernel
theorem dL_build_204 : decode cL_build 204 = .ok (.ifCond .le 6, 3) := by decide +kernel
theorem dL_build_207 : decode cL_build 207 = .ok (.goto 22, 3) := by decide +kernel
theorem dL_build_210 : decode cL_build 210 = .ok (.aload_n 2, 1) := by decide +kernel
theorem dL_build_211 : decode cL_build 211 = .ok (.getfield 57, 3) := by decide +kernel
theorem dL_build_214 : decode cL_build 214 = .ok (.iload 4, 2) := by decide +kernel
theorem dL_build_216 : decode cL_build 216 = .ok (.iconst 1, 1) := by decide +kernel
theorem dL_build_217 : decode cL_build 217 = .ok (.bastore, 1) := by decide +kernel
theorem dL_build_218 : decode cL_build 218 = .ok (.aload_n 0, 1) := by decide +kernel
theorem dL_build_219 : decode cL_build 219 = .ok (.iload 4, 2) := by decide +kernel
theorem dL_build_221 : decode cL_build 221 = .ok (.invokevirtual 60, 3) := by decide +kernel
theorem dL_build_224 : decode cL_build 224 = .ok (.ifCond .ne 5, 3) := by decide +kernel
theorem dL_build_227 : decode cL_build 227 = .ok (.aconst_null, 1) := by decide +kernel
theorem dL_build_228 : decode cL_build 228 = .ok (.areturn, 1) := by decide +kernel
theorem dL_build_229 : decode cL_build 229 = .ok (.iinc 4 1, 3) := by decide +kernel
theorem dL_build_232 : decode cL_build 232 = .ok (.goto (-208), 3) := by decide +kernel
theorem dL_build_235 : decode cL_build 235 = .ok (.aload_n 2, 1) := by decide +kernel
theorem dL_build_236 : decode cL_build 236 = .ok (.areturn, 1) := by decide +kernel
