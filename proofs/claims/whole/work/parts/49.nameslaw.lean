theorem wsL_law_x0 : ∀ w ∈ (vx_atS RX1 28 "java/lang/IllegalStateException" ["java/lang/RuntimeException", "java/lang/Exception"]).filter goodWord, w ∈ lw_tbl := by decide +kernel
theorem wsL_law_x1 : ∀ w ∈ (vx_atS RX1 145 "java/lang/IndexOutOfBoundsException" ["java/lang/RuntimeException", "java/lang/Exception"]).filter goodWord, w ∈ lw_tbl := by decide +kernel
theorem wsL_law_x2 : ∀ w ∈ (vx_atS RX1 152 "java/lang/IllegalArgumentException" ["java/lang/RuntimeException", "java/lang/Exception"]).filter goodWord, w ∈ lw_tbl := by decide +kernel
theorem wsL_law_in : ∀ w ∈ wsL_law, w ∈ lw_tbl := fun w h => (List.mem_append.mp h).elim (fun h => (List.mem_append.mp h).elim (fun h => (List.mem_append.mp h).elim (fun h => wsL_law_in0 w h) (fun h => wsL_law_x0 w h)) (fun h => wsL_law_x1 w h)) (fun h => wsL_law_x2 w h)
theorem inlX0 : ∀ w ∈ wsX00, w ∈ wsL_law := fun _ h => List.mem_append_left _ (List.mem_append_left _ (List.mem_append_left _ (List.mem_append_left _ (List.mem_append_right _ h))))
theorem inX0 : ∀ w ∈ wsX00, w ∈ lw_tbl := fun w h => wsL_law_in w (inlX0 w h)
theorem inlX1 : ∀ w ∈ wsX10, w ∈ wsL_law := fun _ h => List.mem_append_left _ (List.mem_append_left _ (List.mem_append_left _ (List.mem_append_left _ (List.mem_append_left _ (List.mem_append_left _ (List.mem_append_right _ h))))))
theorem inX1 : ∀ w ∈ wsX10, w ∈ lw_tbl := fun w h => wsL_law_in w (inlX1 w h)
theorem inlX2 : ∀ w ∈ wsX20, w ∈ wsL_law := fun _ h => List.mem_append_left _ (List.mem_append_left _ (List.mem_append_left _ (List.mem_append_left _ (List.mem_append_left _ (List.mem_append_right _ h)))))
theorem inX2 : ∀ w ∈ wsX20, w ∈ lw_tbl := fun w h => wsL_law_in w (inlX2 w h)
set_option maxRecDepth 20000 in
theorem ggL_law_X1_init : GoodIn wsL_law wsX1_init := goodIn_r _ [9, 10, 11, 12, 13, 14, 15, 16, 17, 18, 19, 20, 21, 22, 23, 578, 579, 580, 581, 582, 592, 593, 594, 595, 596] (by decide +kernel) (by decide +kernel)
set_option maxRecDepth 20000 in
theorem gL_law_X1_init : GoodIn wsL_law (wsX1_init) := ggL_law_X1_init
set_option maxRecDepth 20000 in
theorem ggL_law_X2_init : GoodIn wsL_law wsX2_init := goodIn_r _ [26, 27, 11, 12, 28, 29, 30, 21, 31, 32, 33, 583, 584, 585, 586, 587, 588, 589, 590, 591] (by decide +kernel) (by decide +kernel)
set_option maxRecDepth 20000 in
theorem gL_law_X2_init : GoodIn wsL_law (wsX2_init) := ggL_law_X2_init
set_option maxRecDepth 20000 in
theorem ggL_law_L_addLamp : GoodIn wsL_law wsL_addLamp := goodIn_ca (goodIn_r _ [37, 38, 39, 40, 41, 2, 42, 43, 44, 45, 14, 578, 579, 580, 581, 582, 592, 593, 594, 595, 596] (by decide +kernel) (by decide +kernel)) (goodIn_sub (fun _ h => List.mem_append_left _ (List.mem_append_left _ (List.mem_append_right _ h))) (by decide +kernel))
set_option maxRecDepth 20000 in
theorem gL_law_L_addLamp : GoodIn wsL_law (va_wsS RL 97 yL_addLamp wsL_addLamp) := goodIn_app (goodIn_of _ (by decide +kernel)) ggL_law_L_addLamp
set_option maxRecDepth 20000 in
theorem ggL_law_X2_addLamp : GoodIn wsL_law wsX2_addLamp := goodIn_r _ [49, 50, 51, 29, 52, 53, 54, 5, 55, 583, 584, 585, 586, 587, 588, 589, 590, 591] (by decide +kernel) (by decide +kernel)
set_option maxRecDepth 20000 in
theorem gL_law_X2_addLamp : GoodIn wsL_law (wsV RL 102 RX2 yX2_addLamp wsX2_addLamp) := goodIn_app (goodIn_of _ (by decide +kernel)) ggL_law_X2_addLamp
set_option maxRecDepth 20000 in
theorem ggL_law_X2_thrown : GoodIn wsL_law wsX2_thrown := goodIn_r _ [59, 50, 583, 584, 585, 586, 587, 588, 589, 590, 591] (by decide +kernel) (by decide +kernel)
set_option maxRecDepth 20000 in
theorem gL_law_X2_thrown : GoodIn wsL_law (wsV RL 103 RX2 yX2_thrown wsX2_thrown) := goodIn_app (goodIn_of _ (by decide +kernel)) ggL_law_X2_thrown
set_option maxRecDepth 20000 in
theorem ggL_law_L_addBeat : GoodIn wsL_law wsL_addBeat := goodIn_ca (goodIn_ca (goodIn_ca (goodIn_r _ [62, 63, 64, 38, 65, 66, 67, 2, 68, 43, 44, 14, 69, 70, 71, 72, 73, 74, 45, 75, 76, 77, 78, 79, 80, 81, 82, 83, 84, 85, 86, 16, 87, 88, 22, 23, 578, 579, 580, 581, 582, 592, 593, 594, 595, 596] (by decide +kernel) (by decide +kernel)) (goodIn_sub (fun _ h => List.mem_append_left _ (List.mem_append_left _ (List.mem_append_right _ h))) (by decide +kernel))) (goodIn_sub (fun _ h => List.mem_append_left _ (List.mem_append_right _ h)) (by decide +kernel))) (goodIn_sub (fun _ h => List.mem_append_right _ h) (by decide +kernel))
set_option maxRecDepth 20000 in
theorem gL_law_L_addBeat : GoodIn wsL_law (va_wsS RL 107 yL_addBeat wsL_addBeat) := goodIn_app (goodIn_of _ (by decide +kernel)) ggL_law_L_addBeat
set_option maxRecDepth 20000 in
theorem ggL_law_X2_addBeat : GoodIn wsL_law wsX2_addBeat := goodIn_r _ [92, 50, 31, 32, 33, 93, 94, 95, 5, 96, 51, 97, 98, 99, 52, 53, 54, 55, 100, 101, 102, 583, 584, 585, 586, 587, 588, 589, 590, 591] (by decide +kernel) (by decide +kernel)
set_option maxRecDepth 20000 in
theorem gL_law_X2_addBeat : GoodIn wsL_law (wsV RL 110 RX2 yX2_addBeat wsX2_addBeat) := goodIn_app (goodIn_of _ (by decide +kernel)) ggL_law_X2_addBeat
set_option maxRecDepth 20000 in
theorem ggL_law_L_moveBeat : GoodIn wsL_law wsL_moveBeat := goodIn_ca (goodIn_ca (goodIn_r _ [105, 63, 64, 106, 107, 108, 2, 109, 14, 110, 111, 112, 113, 73, 74, 69, 70, 71, 72, 45, 81, 82, 83, 78, 79, 578, 579, 580, 581, 582, 592, 593, 594, 595, 596] (by decide +kernel) (by decide +kernel)) (goodIn_sub (fun _ h => List.mem_append_left _ (List.mem_append_right _ h)) (by decide +kernel))) (goodIn_sub (fun _ h => List.mem_append_right _ h) (by decide +kernel))
set_option maxRecDepth 20000 in
theorem gL_law_L_moveBeat : GoodIn wsL_law (va_wsS RL 111 yL_moveBeat wsL_moveBeat) := goodIn_app (goodIn_of _ (by decide +kernel)) ggL_law_L_moveBeat
set_option maxRecDepth 20000 in
theorem ggL_law_X2_moveBeat : GoodIn wsL_law wsX2_moveBeat := goodIn_r _ [117, 50, 32, 33, 118, 119, 120, 5, 121, 31, 93, 94, 95, 96, 51, 97, 98, 99, 52, 53, 54, 55, 583, 584, 585, 586, 587, 588, 589, 590, 591] (by decide +kernel) (by decide +kernel)
set_option maxRecDepth 20000 in
theorem gL_law_X2_moveBeat : GoodIn wsL_law (wsV RL 113 RX2 yX2_moveBeat wsX2_moveBeat) := goodIn_app (goodIn_of _ (by decide +kernel)) ggL_law_X2_moveBeat
set_option maxRecDepth 20000 in
theorem ggL_law_L_takeBeat : GoodIn wsL_law wsL_takeBeat := goodIn_ca (goodIn_r _ [124, 63, 125, 126, 127, 2, 128, 14, 110, 111, 112, 113, 73, 74, 69, 70, 71, 72, 45, 129, 130, 131, 16, 132, 88, 22, 23, 578, 579, 580, 581, 582, 592, 593, 594, 595, 596] (by decide +kernel) (by decide +kernel)) (goodIn_sub (fun _ h => List.mem_append_left _ (List.mem_append_right _ h)) (by decide +kernel))
set_option maxRecDepth 20000 in
theorem gL_law_L_takeBeat : GoodIn wsL_law (va_wsS RL 114 yL_takeBeat wsL_takeBeat) := goodIn_app (goodIn_of _ (by decide +kernel)) ggL_law_L_takeBeat
set_option maxRecDepth 20000 in
theorem ggL_law_X2_takeBeat : GoodIn wsL_law wsX2_takeBeat := goodIn_r _ [136, 50, 31, 32, 33, 118, 119, 120, 5, 121, 93, 94, 95, 96, 51, 97, 98, 99, 52, 53, 54, 55, 583, 584, 585, 586, 587, 588, 589, 590, 591] (by decide +kernel) (by decide +kernel)
set_option maxRecDepth 20000 in
theorem gL_law_X2_takeBeat : GoodIn wsL_law (wsV RL 117 RX2 yX2_takeBeat wsX2_takeBeat) := goodIn_app (goodIn_of _ (by decide +kernel)) ggL_law_X2_takeBeat
set_option maxRecDepth 20000 in
theorem ggL_law_L_turnShutter : GoodIn wsL_law wsL_turnShutter := goodIn_ca (goodIn_r _ [139, 63, 140, 141, 142, 2, 143, 14, 69, 70, 71, 72, 73, 74, 45, 578, 579, 580, 581, 582, 592, 593, 594, 595, 596] (by decide +kernel) (by decide +kernel)) (goodIn_sub (fun _ h => List.mem_append_left _ (List.mem_append_right _ h)) (by decide +kernel))
set_option maxRecDepth 20000 in
theorem gL_law_L_turnShutter : GoodIn wsL_law (va_wsS RL 118 yL_turnShutter wsL_turnShutter) := goodIn_app (goodIn_of _ (by decide +kernel)) ggL_law_L_turnShutter
set_option maxRecDepth 20000 in
theorem ggL_law_X2_turnShutter : GoodIn wsL_law wsX2_turnShutter := goodIn_r _ [147, 50, 30, 93, 94, 95, 5, 96, 51, 97, 98, 99, 148, 149, 150, 151, 583, 584, 585, 586, 587, 588, 589, 590, 591] (by decide +kernel) (by decide +kernel)
set_option maxRecDepth 20000 in
theorem gL_law_X2_turnShutter : GoodIn wsL_law (wsV RL 121 RX2 yX2_turnShutter wsX2_turnShutter) := goodIn_app (goodIn_of _ (by decide +kernel)) ggL_law_X2_turnShutter
set_option maxRecDepth 20000 in
theorem ggL_law_L_pass : GoodIn wsL_law wsL_pass := goodIn_ca (goodIn_r _ [154, 64, 155, 156, 157, 2, 158, 159, 160, 161, 162, 163, 78, 79, 164, 165, 166, 167, 45, 14, 168, 169, 170, 16, 171, 172, 173, 174, 175, 88, 22, 23, 176, 177, 178, 578, 579, 580, 581, 582, 592, 593, 594, 595, 596] (by decide +kernel) (by decide +kernel)) (goodIn_sub (fun _ h => List.mem_append_right _ h) (by decide +kernel))
set_option maxRecDepth 20000 in
theorem gL_law_L_pass : GoodIn wsL_law (va_wsS RL 122 yL_pass wsL_pass) := goodIn_app (goodIn_of _ (by decide +kernel)) ggL_law_L_pass
set_option maxRecDepth 20000 in
theorem ggL_law_X2_pass : GoodIn wsL_law wsX2_pass := goodIn_r _ [182, 50, 183, 184, 51, 97, 98, 5, 99, 52, 53, 54, 55, 185, 186, 187, 188, 189, 190, 191, 192, 31, 32, 33, 583, 584, 585, 586, 587, 588, 589, 590, 591] (by decide +kernel) (by decide +kernel)
set_option maxRecDepth 20000 in
theorem gL_law_X2_pass : GoodIn wsL_law (wsV RL 124 RX2 yX2_pass wsX2_pass) := goodIn_app (goodIn_of _ (by decide +kernel)) ggL_law_X2_pass
set_option maxRecDepth 20000 in
theorem ggL_law_X1_lamps : GoodIn wsL_law wsX1_lamps := goodIn_r _ [196, 45, 578, 579, 580, 581, 582] (by decide +kernel) (by decide +kernel)
set_option maxRecDepth 20000 in
theorem gL_law_X1_lamps : GoodIn wsL_law (wsV RL 125 RX1 yX1_lamps wsX1_lamps) := goodIn_app (goodIn_of _ (by decide +kernel)) ggL_law_X1_lamps
set_option maxRecDepth 20000 in
theorem ggL_law_X2_lamps : GoodIn wsL_law wsX2_lamps := goodIn_r _ [200, 50, 51, 583, 584, 585, 586, 587, 588, 589, 590, 591] (by decide +kernel) (by decide +kernel)
set_option maxRecDepth 20000 in
theorem gL_law_X2_lamps : GoodIn wsL_law (wsV RL 128 RX2 yX2_lamps wsX2_lamps) := goodIn_app (goodIn_of _ (by decide +kernel)) ggL_law_X2_lamps
set_option maxRecDepth 20000 in
theorem ggL_law_X1_now : GoodIn wsL_law wsX1_now := goodIn_r _ [204, 159, 578, 579, 580, 581, 582] (by decide +kernel) (by decide +kernel)
set_option maxRecDepth 20000 in
theorem gL_law_X1_now : GoodIn wsL_law (wsV RL 129 RX1 yX1_now wsX1_now) := goodIn_app (goodIn_of _ (by decide +kernel)) ggL_law_X1_now
set_option maxRecDepth 20000 in
theorem ggL_law_X2_now : GoodIn wsL_law wsX2_now := goodIn_r _ [208, 50, 184, 583, 584, 585, 586, 587, 588, 589, 590, 591] (by decide +kernel) (by decide +kernel)
set_option maxRecDepth 20000 in
theorem gL_law_X2_now : GoodIn wsL_law (wsV RL 132 RX2 yX2_now wsX2_now) := goodIn_app (goodIn_of _ (by decide +kernel)) ggL_law_X2_now
set_option maxRecDepth 20000 in
theorem ggL_law_X1_changesSeen : GoodIn wsL_law wsX1_changesSeen := goodIn_r _ [212, 160, 578, 579, 580, 581, 582] (by decide +kernel) (by decide +kernel)
set_option maxRecDepth 20000 in
theorem gL_law_X1_changesSeen : GoodIn wsL_law (wsV RL 133 RX1 yX1_changesSeen wsX1_changesSeen) := goodIn_app (goodIn_of _ (by decide +kernel)) ggL_law_X1_changesSeen
set_option maxRecDepth 20000 in
theorem ggL_law_X2_changesSeen : GoodIn wsL_law wsX2_changesSeen := goodIn_r _ [216, 50, 183, 583, 584, 585, 586, 587, 588, 589, 590, 591] (by decide +kernel) (by decide +kernel)
set_option maxRecDepth 20000 in
theorem gL_law_X2_changesSeen : GoodIn wsL_law (wsV RL 136 RX2 yX2_changesSeen wsX2_changesSeen) := goodIn_app (goodIn_of _ (by decide +kernel)) ggL_law_X2_changesSeen
set_option maxRecDepth 20000 in
theorem ggL_law_L_beatsOf : GoodIn wsL_law wsL_beatsOf := goodIn_ca (goodIn_r _ [219, 63, 220, 221, 222, 2, 223, 14, 69, 70, 71, 72, 73, 74, 45, 578, 579, 580, 581, 582, 592, 593, 594, 595, 596] (by decide +kernel) (by decide +kernel)) (goodIn_sub (fun _ h => List.mem_append_left _ (List.mem_append_right _ h)) (by decide +kernel))
set_option maxRecDepth 20000 in
theorem gL_law_L_beatsOf : GoodIn wsL_law (va_wsS RL 137 yL_beatsOf wsL_beatsOf) := goodIn_app (goodIn_of _ (by decide +kernel)) ggL_law_L_beatsOf
set_option maxRecDepth 20000 in
theorem ggL_law_X2_beatsOf : GoodIn wsL_law wsX2_beatsOf := goodIn_r _ [227, 50, 31, 93, 94, 95, 5, 96, 51, 97, 98, 99, 52, 53, 54, 55, 583, 584, 585, 586, 587, 588, 589, 590, 591] (by decide +kernel) (by decide +kernel)
set_option maxRecDepth 20000 in
theorem gL_law_X2_beatsOf : GoodIn wsL_law (wsV RL 139 RX2 yX2_beatsOf wsX2_beatsOf) := goodIn_app (goodIn_of _ (by decide +kernel)) ggL_law_X2_beatsOf
set_option maxRecDepth 20000 in
theorem ggL_law_L_numberOf : GoodIn wsL_law wsL_numberOf := goodIn_ca (goodIn_r _ [230, 63, 231, 232, 233, 2, 234, 14, 110, 111, 112, 113, 73, 74, 69, 70, 71, 72, 45, 578, 579, 580, 581, 582, 592, 593, 594, 595, 596] (by decide +kernel) (by decide +kernel)) (goodIn_sub (fun _ h => List.mem_append_left _ (List.mem_append_right _ h)) (by decide +kernel))
set_option maxRecDepth 20000 in
theorem gL_law_L_numberOf : GoodIn wsL_law (va_wsS RL 140 yL_numberOf wsL_numberOf) := goodIn_app (goodIn_of _ (by decide +kernel)) ggL_law_L_numberOf
set_option maxRecDepth 20000 in
theorem ggL_law_X2_numberOf : GoodIn wsL_law wsX2_numberOf := goodIn_r _ [238, 50, 32, 118, 119, 120, 5, 121, 31, 93, 94, 95, 96, 51, 97, 98, 99, 52, 53, 54, 55, 583, 584, 585, 586, 587, 588, 589, 590, 591] (by decide +kernel) (by decide +kernel)
set_option maxRecDepth 20000 in
theorem gL_law_X2_numberOf : GoodIn wsL_law (wsV RL 142 RX2 yX2_numberOf wsX2_numberOf) := goodIn_app (goodIn_of _ (by decide +kernel)) ggL_law_X2_numberOf
set_option maxRecDepth 20000 in
theorem ggL_law_L_offsetOf : GoodIn wsL_law wsL_offsetOf := goodIn_ca (goodIn_r _ [241, 63, 242, 243, 244, 2, 245, 14, 110, 111, 112, 113, 73, 74, 69, 70, 71, 72, 45, 578, 579, 580, 581, 582, 592, 593, 594, 595, 596] (by decide +kernel) (by decide +kernel)) (goodIn_sub (fun _ h => List.mem_append_left _ (List.mem_append_right _ h)) (by decide +kernel))
set_option maxRecDepth 20000 in
theorem gL_law_L_offsetOf : GoodIn wsL_law (va_wsS RL 143 yL_offsetOf wsL_offsetOf) := goodIn_app (goodIn_of _ (by decide +kernel)) ggL_law_L_offsetOf
set_option maxRecDepth 20000 in
theorem ggL_law_X2_offsetOf : GoodIn wsL_law wsX2_offsetOf := goodIn_r _ [249, 50, 33, 118, 119, 120, 5, 121, 31, 93, 94, 95, 96, 51, 97, 98, 99, 52, 53, 54, 55, 583, 584, 585, 586, 587, 588, 589, 590, 591] (by decide +kernel) (by decide +kernel)
set_option maxRecDepth 20000 in
theorem gL_law_X2_offsetOf : GoodIn wsL_law (wsV RL 145 RX2 yX2_offsetOf wsX2_offsetOf) := goodIn_app (goodIn_of _ (by decide +kernel)) ggL_law_X2_offsetOf
set_option maxRecDepth 20000 in
theorem ggL_law_L_isCovered : GoodIn wsL_law wsL_isCovered := goodIn_ca (goodIn_r _ [252, 63, 253, 254, 255, 2, 256, 14, 69, 70, 71, 72, 73, 74, 45, 578, 579, 580, 581, 582, 592, 593, 594, 595, 596] (by decide +kernel) (by decide +kernel)) (goodIn_sub (fun _ h => List.mem_append_left _ (List.mem_append_right _ h)) (by decide +kernel))
set_option maxRecDepth 20000 in
theorem gL_law_L_isCovered : GoodIn wsL_law (va_wsS RL 146 yL_isCovered wsL_isCovered) := goodIn_app (goodIn_of _ (by decide +kernel)) ggL_law_L_isCovered
set_option maxRecDepth 20000 in
theorem ggL_law_X2_isCovered : GoodIn wsL_law wsX2_isCovered := goodIn_r _ [260, 50, 30, 93, 94, 95, 5, 96, 51, 97, 98, 99, 148, 149, 150, 151, 583, 584, 585, 586, 587, 588, 589, 590, 591] (by decide +kernel) (by decide +kernel)
set_option maxRecDepth 20000 in
theorem gL_law_X2_isCovered : GoodIn wsL_law (wsV RL 148 RX2 yX2_isCovered wsX2_isCovered) := goodIn_app (goodIn_of _ (by decide +kernel)) ggL_law_X2_isCovered
set_option maxRecDepth 20000 in
theorem ggL_law_L_isOn : GoodIn wsL_law wsL_isOn := goodIn_ca (goodIn_r _ [263, 63, 264, 265, 266, 2, 267, 14, 159, 69, 70, 71, 72, 73, 74, 45, 268, 269, 270, 16, 271, 88, 22, 23, 272, 273, 274, 275, 176, 177, 178, 578, 579, 580, 581, 582, 592, 593, 594, 595, 596] (by decide +kernel) (by decide +kernel)) (goodIn_sub (fun _ h => List.mem_append_left _ (List.mem_append_right _ h)) (by decide +kernel))
set_option maxRecDepth 20000 in
theorem gL_law_L_isOn : GoodIn wsL_law (va_wsS RL 149 yL_isOn wsL_isOn) := goodIn_app (goodIn_of _ (by decide +kernel)) ggL_law_L_isOn
set_option maxRecDepth 20000 in
theorem ggL_law_X2_isOn : GoodIn wsL_law wsX2_isOn := goodIn_r _ [279, 50, 184, 93, 94, 95, 5, 96, 51, 97, 98, 99, 280, 281, 282, 283, 29, 31, 32, 33, 148, 149, 150, 151, 583, 584, 585, 586, 587, 588, 589, 590, 591] (by decide +kernel) (by decide +kernel)
set_option maxRecDepth 20000 in
theorem gL_law_X2_isOn : GoodIn wsL_law (wsV RL 151 RX2 yX2_isOn wsX2_isOn) := goodIn_app (goodIn_of _ (by decide +kernel)) ggL_law_X2_isOn
set_option maxRecDepth 20000 in
theorem ggL_law_L_isLit : GoodIn wsL_law wsL_isLit := goodIn_ca (goodIn_r _ [286, 63, 287, 288, 289, 2, 290, 14, 159, 69, 70, 71, 72, 73, 74, 45, 291, 292, 293, 16, 294, 295, 296, 269, 270, 271, 88, 22, 23, 272, 273, 274, 275, 176, 177, 178, 578, 579, 580, 581, 582, 592, 593, 594, 595, 596] (by decide +kernel) (by decide +kernel)) (goodIn_sub (fun _ h => List.mem_append_left _ (List.mem_append_right _ h)) (by decide +kernel))
set_option maxRecDepth 20000 in
theorem gL_law_L_isLit : GoodIn wsL_law (va_wsS RL 152 yL_isLit wsL_isLit) := goodIn_app (goodIn_of _ (by decide +kernel)) ggL_law_L_isLit
set_option maxRecDepth 20000 in
theorem ggL_law_X2_isLit : GoodIn wsL_law wsX2_isLit := goodIn_r _ [300, 50, 30, 184, 93, 94, 95, 5, 96, 51, 97, 98, 99, 280, 281, 282, 283, 29, 31, 32, 33, 148, 149, 150, 151, 583, 584, 585, 586, 587, 588, 589, 590, 591] (by decide +kernel) (by decide +kernel)
set_option maxRecDepth 20000 in
theorem gL_law_X2_isLit : GoodIn wsL_law (wsV RL 154 RX2 yX2_isLit wsX2_isLit) := goodIn_app (goodIn_of _ (by decide +kernel)) ggL_law_X2_isLit
set_option maxRecDepth 20000 in
theorem ggL_law_X1_litLamps : GoodIn wsL_law wsX1_litLamps := goodIn_r _ [304, 159, 305, 306, 307, 2, 308, 45, 14, 291, 292, 293, 16, 294, 295, 296, 269, 270, 271, 88, 22, 23, 272, 273, 274, 275, 176, 177, 178, 578, 579, 580, 581, 582, 592, 593, 594, 595, 596] (by decide +kernel) (by decide +kernel)
set_option maxRecDepth 20000 in
theorem gL_law_X1_litLamps : GoodIn wsL_law (wsV RL 155 RX1 yX1_litLamps wsX1_litLamps) := goodIn_app (goodIn_of _ (by decide +kernel)) ggL_law_X1_litLamps
set_option maxRecDepth 20000 in
theorem ggL_law_X2_litLamps : GoodIn wsL_law wsX2_litLamps := goodIn_r _ [312, 50, 184, 313, 314, 315, 5, 316, 51, 30, 280, 281, 282, 283, 29, 31, 32, 33, 583, 584, 585, 586, 587, 588, 589, 590, 591] (by decide +kernel) (by decide +kernel)
set_option maxRecDepth 20000 in
theorem gL_law_X2_litLamps : GoodIn wsL_law (wsV RL 158 RX2 yX2_litLamps wsX2_litLamps) := goodIn_app (goodIn_of _ (by decide +kernel)) ggL_law_X2_litLamps
set_option maxRecDepth 20000 in
theorem ggL_law_X1_isDark : GoodIn wsL_law wsX1_isDark := goodIn_r _ [320, 159, 321, 322, 323, 2, 324, 45, 14, 291, 292, 293, 16, 294, 295, 296, 269, 270, 271, 88, 22, 23, 272, 273, 274, 275, 176, 177, 178, 578, 579, 580, 581, 582, 592, 593, 594, 595, 596] (by decide +kernel) (by decide +kernel)
set_option maxRecDepth 20000 in
theorem gL_law_X1_isDark : GoodIn wsL_law (wsV RL 159 RX1 yX1_isDark wsX1_isDark) := goodIn_app (goodIn_of _ (by decide +kernel)) ggL_law_X1_isDark
set_option maxRecDepth 20000 in
theorem ggL_law_X2_isDark : GoodIn wsL_law wsX2_isDark := goodIn_r _ [328, 50, 184, 313, 314, 315, 5, 316, 51, 30, 280, 281, 282, 283, 29, 31, 32, 33, 583, 584, 585, 586, 587, 588, 589, 590, 591] (by decide +kernel) (by decide +kernel)
set_option maxRecDepth 20000 in
theorem gL_law_X2_isDark : GoodIn wsL_law (wsV RL 163 RX2 yX2_isDark wsX2_isDark) := goodIn_app (goodIn_of _ (by decide +kernel)) ggL_law_X2_isDark
set_option maxRecDepth 20000 in
theorem ggL_law_L_isOnAt : GoodIn wsL_law wsL_isOnAt := goodIn_ca (goodIn_ca (goodIn_r _ [331, 63, 64, 332, 333, 334, 2, 335, 14, 69, 70, 71, 72, 73, 74, 45, 336, 337, 338, 78, 79, 339, 268, 269, 270, 16, 271, 88, 22, 23, 272, 273, 274, 275, 176, 177, 178, 578, 579, 580, 581, 582, 592, 593, 594, 595, 596] (by decide +kernel) (by decide +kernel)) (goodIn_sub (fun _ h => List.mem_append_left _ (List.mem_append_right _ h)) (by decide +kernel))) (goodIn_sub (fun _ h => List.mem_append_right _ h) (by decide +kernel))
set_option maxRecDepth 20000 in
theorem gL_law_L_isOnAt : GoodIn wsL_law (va_wsS RL 164 yL_isOnAt wsL_isOnAt) := goodIn_app (goodIn_of _ (by decide +kernel)) ggL_law_L_isOnAt
set_option maxRecDepth 20000 in
theorem ggL_law_X2_isOnAt : GoodIn wsL_law wsX2_isOnAt := goodIn_r _ [343, 50, 344, 93, 94, 95, 5, 96, 51, 97, 98, 99, 148, 149, 150, 151, 280, 281, 282, 283, 29, 31, 32, 33, 583, 584, 585, 586, 587, 588, 589, 590, 591] (by decide +kernel) (by decide +kernel)
set_option maxRecDepth 20000 in
theorem gL_law_X2_isOnAt : GoodIn wsL_law (wsV RL 166 RX2 yX2_isOnAt wsX2_isOnAt) := goodIn_app (goodIn_of _ (by decide +kernel)) ggL_law_X2_isOnAt
set_option maxRecDepth 20000 in
theorem ggL_law_L_strikesAt : GoodIn wsL_law wsL_strikesAt := goodIn_ca (goodIn_ca (goodIn_r _ [347, 63, 64, 348, 349, 350, 2, 351, 14, 69, 70, 71, 72, 73, 74, 45, 336, 337, 338, 78, 79, 339, 352, 173, 174, 16, 175, 88, 22, 23, 578, 579, 580, 581, 582, 592, 593, 594, 595, 596] (by decide +kernel) (by decide +kernel)) (goodIn_sub (fun _ h => List.mem_append_left _ (List.mem_append_right _ h)) (by decide +kernel))) (goodIn_sub (fun _ h => List.mem_append_right _ h) (by decide +kernel))
set_option maxRecDepth 20000 in
theorem gL_law_L_strikesAt : GoodIn wsL_law (va_wsS RL 167 yL_strikesAt wsL_strikesAt) := goodIn_app (goodIn_of _ (by decide +kernel)) ggL_law_L_strikesAt
set_option maxRecDepth 20000 in
theorem ggL_law_X2_strikesAt : GoodIn wsL_law wsX2_strikesAt := goodIn_r _ [356, 50, 344, 93, 94, 95, 5, 96, 51, 97, 98, 99, 52, 53, 54, 55, 189, 190, 191, 192, 31, 32, 33, 583, 584, 585, 586, 587, 588, 589, 590, 591] (by decide +kernel) (by decide +kernel)
set_option maxRecDepth 20000 in
theorem gL_law_X2_strikesAt : GoodIn wsL_law (wsV RL 169 RX2 yX2_strikesAt wsX2_strikesAt) := goodIn_app (goodIn_of _ (by decide +kernel)) ggL_law_X2_strikesAt
set_option maxRecDepth 20000 in
theorem ggL_law_L_isSteady : GoodIn wsL_law wsL_isSteady := goodIn_ca (goodIn_r _ [359, 63, 360, 361, 362, 2, 363, 14, 69, 70, 71, 72, 73, 74, 45, 364, 365, 366, 16, 367, 368, 369, 370, 371, 272, 372, 373, 374, 375, 376, 377, 378, 379, 88, 22, 23, 296, 269, 270, 271, 273, 274, 275, 176, 177, 178, 578, 579, 580, 581, 582, 592, 593, 594, 595, 596] (by decide +kernel) (by decide +kernel)) (goodIn_sub (fun _ h => List.mem_append_left _ (List.mem_append_right _ h)) (by decide +kernel))
set_option maxRecDepth 20000 in
theorem gL_law_L_isSteady : GoodIn wsL_law (va_wsS RL 170 yL_isSteady wsL_isSteady) := goodIn_app (goodIn_of _ (by decide +kernel)) ggL_law_L_isSteady
set_option maxRecDepth 20000 in
theorem ggL_law_X2_isSteady : GoodIn wsL_law wsX2_isSteady := goodIn_r _ [383, 50, 93, 94, 95, 5, 96, 51, 97, 98, 99, 384, 385, 386, 387, 388, 389, 390, 391, 31, 32, 185, 186, 187, 188, 189, 190, 191, 192, 33, 148, 149, 150, 151, 583, 584, 585, 586, 587, 588, 589, 590, 591] (by decide +kernel) (by decide +kernel)
set_option maxRecDepth 20000 in
theorem gL_law_X2_isSteady : GoodIn wsL_law (wsV RL 172 RX2 yX2_isSteady wsX2_isSteady) := goodIn_app (goodIn_of _ (by decide +kernel)) ggL_law_X2_isSteady
set_option maxRecDepth 20000 in
theorem ggL_law_L_cycleOf : GoodIn wsL_law wsL_cycleOf := goodIn_ca (goodIn_r _ [394, 63, 395, 396, 397, 2, 398, 14, 69, 70, 71, 72, 73, 74, 45, 399, 369, 370, 16, 371, 272, 372, 373, 374, 375, 376, 377, 378, 379, 88, 22, 23, 296, 269, 270, 271, 273, 274, 275, 176, 177, 178, 578, 579, 580, 581, 582, 592, 593, 594, 595, 596] (by decide +kernel) (by decide +kernel)) (goodIn_sub (fun _ h => List.mem_append_left _ (List.mem_append_right _ h)) (by decide +kernel))
set_option maxRecDepth 20000 in
theorem gL_law_L_cycleOf : GoodIn wsL_law (va_wsS RL 173 yL_cycleOf wsL_cycleOf) := goodIn_app (goodIn_of _ (by decide +kernel)) ggL_law_L_cycleOf
set_option maxRecDepth 20000 in
theorem ggL_law_X2_cycleOf : GoodIn wsL_law wsX2_cycleOf := goodIn_r _ [403, 50, 93, 94, 95, 5, 96, 51, 97, 98, 99, 404, 405, 406, 407, 388, 389, 390, 391, 31, 32, 408, 409, 410, 411, 280, 281, 282, 283, 29, 33, 185, 186, 187, 188, 189, 190, 191, 192, 52, 53, 54, 55, 583, 584, 585, 586, 587, 588, 589, 590, 591] (by decide +kernel) (by decide +kernel)
set_option maxRecDepth 20000 in
theorem gL_law_X2_cycleOf : GoodIn wsL_law (wsV RL 175 RX2 yX2_cycleOf wsX2_cycleOf) := goodIn_app (goodIn_of _ (by decide +kernel)) ggL_law_X2_cycleOf
set_option maxRecDepth 20000 in
theorem ggL_law_L_momentsUntilChange : GoodIn wsL_law wsL_momentsUntilChange := goodIn_ca (goodIn_r _ [414, 63, 415, 416, 417, 2, 418, 14, 159, 69, 70, 71, 72, 73, 74, 45, 419, 420, 421, 16, 422, 372, 373, 374, 375, 376, 377, 378, 379, 88, 22, 23, 423, 169, 170, 171, 172, 173, 174, 175, 176, 177, 178, 578, 579, 580, 581, 582, 592, 593, 594, 595, 596] (by decide +kernel) (by decide +kernel)) (goodIn_sub (fun _ h => List.mem_append_left _ (List.mem_append_right _ h)) (by decide +kernel))
set_option maxRecDepth 20000 in
theorem gL_law_L_momentsUntilChange : GoodIn wsL_law (va_wsS RL 176 yL_momentsUntilChange wsL_momentsUntilChange) := goodIn_app (goodIn_of _ (by decide +kernel)) ggL_law_L_momentsUntilChange
set_option maxRecDepth 20000 in
theorem ggL_law_X2_momentsUntilChange : GoodIn wsL_law wsX2_momentsUntilChange := goodIn_r _ [427, 50, 93, 94, 95, 5, 96, 51, 97, 98, 99, 428, 429, 430, 431, 184, 388, 389, 390, 391, 31, 32, 185, 186, 187, 188, 189, 190, 191, 192, 33, 52, 53, 54, 55, 583, 584, 585, 586, 587, 588, 589, 590, 591] (by decide +kernel) (by decide +kernel)
set_option maxRecDepth 20000 in
theorem gL_law_X2_momentsUntilChange : GoodIn wsL_law (wsV RL 178 RX2 yX2_momentsUntilChange wsX2_momentsUntilChange) := goodIn_app (goodIn_of _ (by decide +kernel)) ggL_law_X2_momentsUntilChange
set_option maxRecDepth 20000 in
theorem ggL_law_L_shows : GoodIn wsL_law wsL_shows := goodIn_ca (goodIn_ca (goodIn_r _ [434, 63, 64, 435, 436, 437, 2, 438, 14, 159, 69, 70, 71, 72, 73, 74, 45, 161, 162, 163, 78, 79, 268, 269, 270, 16, 271, 88, 22, 23, 272, 273, 274, 275, 176, 177, 178, 578, 579, 580, 581, 582, 592, 593, 594, 595, 596] (by decide +kernel) (by decide +kernel)) (goodIn_sub (fun _ h => List.mem_append_left _ (List.mem_append_right _ h)) (by decide +kernel))) (goodIn_sub (fun _ h => List.mem_append_right _ h) (by decide +kernel))
set_option maxRecDepth 20000 in
theorem gL_law_L_shows : GoodIn wsL_law (va_wsS RL 179 yL_shows wsL_shows) := goodIn_app (goodIn_of _ (by decide +kernel)) ggL_law_L_shows
set_option maxRecDepth 20000 in
theorem ggL_law_X2_shows : GoodIn wsL_law wsX2_shows := goodIn_r _ [442, 50, 184, 93, 94, 95, 5, 96, 51, 97, 98, 99, 52, 53, 54, 55, 280, 281, 282, 283, 29, 31, 32, 33, 583, 584, 585, 586, 587, 588, 589, 590, 591] (by decide +kernel) (by decide +kernel)
set_option maxRecDepth 20000 in
theorem gL_law_X2_shows : GoodIn wsL_law (wsV RL 181 RX2 yX2_shows wsX2_shows) := goodIn_app (goodIn_of _ (by decide +kernel)) ggL_law_X2_shows
set_option maxRecDepth 20000 in
theorem ggL_law_L_momentsUntilCollision : GoodIn wsL_law wsL_momentsUntilCollision := goodIn_ca (goodIn_ca (goodIn_r _ [445, 63, 64, 446, 447, 448, 2, 449, 159, 450, 451, 452, 453, 78, 79, 69, 70, 71, 72, 73, 74, 45, 454, 455, 456, 457, 14, 168, 169, 170, 16, 171, 172, 173, 174, 175, 88, 22, 23, 176, 177, 178, 578, 579, 580, 581, 582, 592, 593, 594, 595, 596] (by decide +kernel) (by decide +kernel)) (goodIn_sub (fun _ h => List.mem_append_right _ h) (by decide +kernel))) (goodIn_sub (fun _ h => List.mem_append_left _ (List.mem_append_right _ h)) (by decide +kernel))
set_option maxRecDepth 20000 in
theorem gL_law_L_momentsUntilCollision : GoodIn wsL_law (va_wsS RL 182 yL_momentsUntilCollision wsL_momentsUntilCollision) := goodIn_app (goodIn_of _ (by decide +kernel)) ggL_law_L_momentsUntilCollision
set_option maxRecDepth 20000 in
theorem ggL_law_X2_momentsUntilCollision : GoodIn wsL_law wsX2_momentsUntilCollision := goodIn_r _ [461, 50, 184, 462, 463, 464, 5, 465, 93, 94, 95, 96, 51, 97, 98, 99, 466, 467, 468, 469, 185, 186, 187, 188, 189, 190, 191, 192, 31, 32, 33, 583, 584, 585, 586, 587, 588, 589, 590, 591] (by decide +kernel) (by decide +kernel)
set_option maxRecDepth 20000 in
theorem gL_law_X2_momentsUntilCollision : GoodIn wsL_law (wsV RL 184 RX2 yX2_momentsUntilCollision wsX2_momentsUntilCollision) := goodIn_app (goodIn_of _ (by decide +kernel)) ggL_law_X2_momentsUntilCollision
set_option maxRecDepth 20000 in
theorem ggL_law_L_collisionsWithin : GoodIn wsL_law wsL_collisionsWithin := goodIn_ca (goodIn_ca (goodIn_r _ [472, 63, 64, 473, 474, 475, 2, 476, 159, 450, 451, 452, 453, 78, 79, 69, 70, 71, 72, 73, 74, 45, 161, 162, 163, 454, 455, 456, 457, 14, 168, 169, 170, 16, 171, 172, 173, 174, 175, 88, 22, 23, 176, 177, 178, 578, 579, 580, 581, 582, 592, 593, 594, 595, 596] (by decide +kernel) (by decide +kernel)) (goodIn_sub (fun _ h => List.mem_append_right _ h) (by decide +kernel))) (goodIn_sub (fun _ h => List.mem_append_left _ (List.mem_append_right _ h)) (by decide +kernel))
set_option maxRecDepth 20000 in
theorem gL_law_L_collisionsWithin : GoodIn wsL_law (va_wsS RL 185 yL_collisionsWithin wsL_collisionsWithin) := goodIn_app (goodIn_of _ (by decide +kernel)) ggL_law_L_collisionsWithin
set_option maxRecDepth 20000 in
theorem ggL_law_X2_collisionsWithin : GoodIn wsL_law wsX2_collisionsWithin := goodIn_r _ [480, 50, 184, 462, 463, 464, 5, 465, 93, 94, 95, 96, 51, 97, 98, 99, 52, 53, 54, 55, 466, 467, 468, 469, 185, 186, 187, 188, 189, 190, 191, 192, 31, 32, 33, 583, 584, 585, 586, 587, 588, 589, 590, 591] (by decide +kernel) (by decide +kernel)
set_option maxRecDepth 20000 in
theorem gL_law_X2_collisionsWithin : GoodIn wsL_law (wsV RL 187 RX2 yX2_collisionsWithin wsX2_collisionsWithin) := goodIn_app (goodIn_of _ (by decide +kernel)) ggL_law_X2_collisionsWithin
set_option maxRecDepth 20000 in
theorem ggL_law_L_momentsUntilToldApart : GoodIn wsL_law wsL_momentsUntilToldApart := goodIn_ca (goodIn_ca (goodIn_r _ [483, 63, 64, 484, 485, 486, 2, 487, 17, 14, 159, 450, 451, 452, 453, 78, 79, 69, 70, 71, 72, 73, 74, 45, 488, 489, 490, 16, 491, 272, 88, 492, 493, 494, 495, 22, 23, 496, 85, 86, 87, 268, 269, 270, 271, 273, 274, 275, 176, 177, 178, 419, 420, 421, 422, 372, 373, 374, 375, 376, 377, 378, 379, 423, 169, 170, 171, 172, 173, 174, 175, 578, 579, 580, 581, 582, 592, 593, 594, 595, 596] (by decide +kernel) (by decide +kernel)) (goodIn_sub (fun _ h => List.mem_append_right _ h) (by decide +kernel))) (goodIn_sub (fun _ h => List.mem_append_left _ (List.mem_append_right _ h)) (by decide +kernel))
set_option maxRecDepth 20000 in
theorem gL_law_L_momentsUntilToldApart : GoodIn wsL_law (va_wsS RL 188 yL_momentsUntilToldApart wsL_momentsUntilToldApart) := goodIn_app (goodIn_of _ (by decide +kernel)) ggL_law_L_momentsUntilToldApart
set_option maxRecDepth 20000 in
theorem ggL_law_X2_momentsUntilToldApart : GoodIn wsL_law wsX2_momentsUntilToldApart := goodIn_r _ [500, 50, 501, 184, 462, 463, 464, 5, 465, 93, 94, 95, 96, 51, 97, 98, 99, 280, 281, 282, 283, 29, 31, 32, 33, 583, 584, 585, 586, 587, 588, 589, 590, 591] (by decide +kernel) (by decide +kernel)
set_option maxRecDepth 20000 in
theorem gL_law_X2_momentsUntilToldApart : GoodIn wsL_law (wsV RL 190 RX2 yX2_momentsUntilToldApart wsX2_momentsUntilToldApart) := goodIn_app (goodIn_of _ (by decide +kernel)) ggL_law_X2_momentsUntilToldApart
set_option maxRecDepth 20000 in
theorem ggL_law_X1_momentsUntilDark : GoodIn wsL_law wsX1_momentsUntilDark := goodIn_r _ [505, 159, 321, 322, 323, 2, 324, 45, 14, 291, 292, 293, 16, 294, 295, 296, 269, 270, 271, 88, 22, 23, 272, 273, 274, 275, 176, 177, 178, 578, 579, 580, 581, 582, 592, 593, 594, 595, 596] (by decide +kernel) (by decide +kernel)
set_option maxRecDepth 20000 in
theorem gL_law_X1_momentsUntilDark : GoodIn wsL_law (wsV RL 191 RX1 yX1_momentsUntilDark wsX1_momentsUntilDark) := goodIn_app (goodIn_of _ (by decide +kernel)) ggL_law_X1_momentsUntilDark
set_option maxRecDepth 20000 in
theorem ggL_law_X2_momentsUntilDark : GoodIn wsL_law wsX2_momentsUntilDark := goodIn_r _ [509, 50, 184, 313, 314, 315, 5, 316, 51, 30, 280, 281, 282, 283, 29, 31, 32, 33, 583, 584, 585, 586, 587, 588, 589, 590, 591] (by decide +kernel) (by decide +kernel)
set_option maxRecDepth 20000 in
theorem gL_law_X2_momentsUntilDark : GoodIn wsL_law (wsV RL 194 RX2 yX2_momentsUntilDark wsX2_momentsUntilDark) := goodIn_app (goodIn_of _ (by decide +kernel)) ggL_law_X2_momentsUntilDark
set_option maxRecDepth 20000 in
theorem ggL_law_L_darkWithin : GoodIn wsL_law wsL_darkWithin := goodIn_ca (goodIn_r _ [512, 64, 513, 514, 515, 2, 516, 161, 162, 163, 78, 79, 517, 518, 519, 520, 159, 321, 322, 323, 324, 45, 14, 291, 292, 293, 16, 294, 295, 296, 269, 270, 271, 88, 22, 23, 272, 273, 274, 275, 176, 177, 178, 578, 579, 580, 581, 582, 592, 593, 594, 595, 596] (by decide +kernel) (by decide +kernel)) (goodIn_sub (fun _ h => List.mem_append_right _ h) (by decide +kernel))
set_option maxRecDepth 20000 in
theorem gL_law_L_darkWithin : GoodIn wsL_law (va_wsS RL 195 yL_darkWithin wsL_darkWithin) := goodIn_app (goodIn_of _ (by decide +kernel)) ggL_law_L_darkWithin
set_option maxRecDepth 20000 in
theorem ggL_law_X2_darkWithin : GoodIn wsL_law wsX2_darkWithin := goodIn_r _ [524, 50, 97, 98, 5, 99, 525, 526, 527, 528, 184, 313, 314, 315, 316, 51, 30, 280, 281, 282, 283, 29, 31, 32, 33, 52, 53, 54, 55, 583, 584, 585, 586, 587, 588, 589, 590, 591] (by decide +kernel) (by decide +kernel)
set_option maxRecDepth 20000 in
theorem gL_law_X2_darkWithin : GoodIn wsL_law (wsV RL 197 RX2 yX2_darkWithin wsX2_darkWithin) := goodIn_app (goodIn_of _ (by decide +kernel)) ggL_law_X2_darkWithin
set_option maxRecDepth 20000 in
theorem ggL_law_L_brightestWithin : GoodIn wsL_law wsL_brightestWithin := goodIn_ca (goodIn_r _ [531, 64, 532, 533, 534, 2, 535, 159, 161, 162, 163, 78, 79, 305, 306, 307, 308, 45, 14, 291, 292, 293, 16, 294, 295, 296, 269, 270, 271, 88, 22, 23, 272, 273, 274, 275, 176, 177, 178, 578, 579, 580, 581, 582, 592, 593, 594, 595, 596] (by decide +kernel) (by decide +kernel)) (goodIn_sub (fun _ h => List.mem_append_right _ h) (by decide +kernel))
set_option maxRecDepth 20000 in
theorem gL_law_L_brightestWithin : GoodIn wsL_law (va_wsS RL 198 yL_brightestWithin wsL_brightestWithin) := goodIn_app (goodIn_of _ (by decide +kernel)) ggL_law_L_brightestWithin
set_option maxRecDepth 20000 in
theorem ggL_law_X2_brightestWithin : GoodIn wsL_law wsX2_brightestWithin := goodIn_r _ [539, 50, 184, 97, 98, 5, 99, 52, 53, 54, 55, 313, 314, 315, 316, 51, 30, 280, 281, 282, 283, 29, 31, 32, 33, 583, 584, 585, 586, 587, 588, 589, 590, 591] (by decide +kernel) (by decide +kernel)
set_option maxRecDepth 20000 in
theorem gL_law_X2_brightestWithin : GoodIn wsL_law (wsV RL 200 RX2 yX2_brightestWithin wsX2_brightestWithin) := goodIn_app (goodIn_of _ (by decide +kernel)) ggL_law_X2_brightestWithin
set_option maxRecDepth 20000 in
theorem ggL_law_L_bestCover : GoodIn wsL_law wsL_bestCover := goodIn_ca (goodIn_r _ [542, 64, 543, 544, 545, 2, 546, 45, 14, 161, 162, 163, 78, 79, 517, 518, 519, 520, 159, 321, 322, 323, 324, 291, 292, 293, 16, 294, 295, 296, 269, 270, 271, 88, 22, 23, 272, 273, 274, 275, 176, 177, 178, 578, 579, 580, 581, 582, 592, 593, 594, 595, 596] (by decide +kernel) (by decide +kernel)) (goodIn_sub (fun _ h => List.mem_append_right _ h) (by decide +kernel))
set_option maxRecDepth 20000 in
theorem gL_law_L_bestCover : GoodIn wsL_law (va_wsS RL 201 yL_bestCover wsL_bestCover) := goodIn_app (goodIn_of _ (by decide +kernel)) ggL_law_L_bestCover
set_option maxRecDepth 20000 in
theorem ggL_law_X2_bestCover : GoodIn wsL_law wsX2_bestCover := goodIn_r _ [550, 50, 51, 30, 97, 98, 5, 99, 52, 53, 54, 55, 525, 526, 527, 528, 184, 313, 314, 315, 316, 280, 281, 282, 283, 29, 31, 32, 33, 583, 584, 585, 586, 587, 588, 589, 590, 591] (by decide +kernel) (by decide +kernel)
set_option maxRecDepth 20000 in
theorem gL_law_X2_bestCover : GoodIn wsL_law (wsV RL 203 RX2 yX2_bestCover wsX2_bestCover) := goodIn_app (goodIn_of _ (by decide +kernel)) ggL_law_X2_bestCover
set_option maxRecDepth 20000 in
theorem ggL_law_X1_meanBeats : GoodIn wsL_law wsX1_meanBeats := goodIn_r _ [554, 45, 14, 578, 579, 580, 581, 582, 592, 593, 594, 595, 596] (by decide +kernel) (by decide +kernel)
set_option maxRecDepth 20000 in
theorem gL_law_X1_meanBeats : GoodIn wsL_law (wsV RL 204 RX1 yX1_meanBeats wsX1_meanBeats) := goodIn_app (goodIn_of _ (by decide +kernel)) ggL_law_X1_meanBeats
set_option maxRecDepth 20000 in
theorem ggL_law_X2_meanBeats : GoodIn wsL_law wsX2_meanBeats := goodIn_r _ [558, 50, 51, 31, 583, 584, 585, 586, 587, 588, 589, 590, 591] (by decide +kernel) (by decide +kernel)
set_option maxRecDepth 20000 in
theorem gL_law_X2_meanBeats : GoodIn wsL_law (wsV RL 208 RX2 yX2_meanBeats wsX2_meanBeats) := goodIn_app (goodIn_of _ (by decide +kernel)) ggL_law_X2_meanBeats
set_option maxRecDepth 20000 in
theorem ggL_law_X1_digest : GoodIn wsL_law wsX1_digest := goodIn_r _ [562, 563, 45, 159, 160, 14, 564, 565, 2, 566, 567, 305, 306, 307, 308, 291, 292, 293, 16, 294, 295, 296, 269, 270, 271, 88, 22, 23, 272, 273, 274, 275, 176, 177, 178, 568, 569, 570, 571, 268, 364, 365, 366, 367, 368, 369, 370, 371, 372, 373, 374, 375, 376, 377, 378, 379, 399, 419, 420, 421, 422, 423, 169, 170, 171, 172, 173, 174, 175, 578, 579, 580, 581, 582, 592, 593, 594, 595, 596] (by decide +kernel) (by decide +kernel)
set_option maxRecDepth 20000 in
theorem gL_law_X1_digest : GoodIn wsL_law (wsV RL 209 RX1 yX1_digest wsX1_digest) := goodIn_app (goodIn_of _ (by decide +kernel)) ggL_law_X1_digest
set_option maxRecDepth 20000 in
theorem ggL_law_X2_digest : GoodIn wsL_law wsX2_digest := goodIn_r _ [575, 50, 576, 51, 577, 184, 183, 31, 30, 32, 33, 313, 314, 315, 5, 316, 280, 281, 282, 283, 29, 384, 385, 386, 387, 388, 389, 390, 391, 185, 186, 187, 188, 189, 190, 191, 192, 404, 405, 406, 407, 408, 409, 410, 411, 428, 429, 430, 431, 583, 584, 585, 586, 587, 588, 589, 590, 591] (by decide +kernel) (by decide +kernel)
set_option maxRecDepth 20000 in
theorem gL_law_X2_digest : GoodIn wsL_law (wsV RL 213 RX2 yX2_digest wsX2_digest) := goodIn_app (goodIn_of _ (by decide +kernel)) ggL_law_X2_digest
