theorem wsL_law_x0 : ∀ w ∈ (vx_atS RX1 28 "java/lang/IllegalStateException" ["java/lang/RuntimeException", "java/lang/Exception"]).filter goodWord, w ∈ lw_tbl := by decide +kernel
theorem wsL_law_x1 : ∀ w ∈ (vx_atS RX1 145 "java/lang/IndexOutOfBoundsException" ["java/lang/RuntimeException", "java/lang/Exception"]).filter goodWord, w ∈ lw_tbl := by decide +kernel
theorem wsL_law_x2 : ∀ w ∈ (vx_atS RX1 152 "java/lang/IllegalArgumentException" ["java/lang/RuntimeException", "java/lang/Exception"]).filter goodWord, w ∈ lw_tbl := by decide +kernel
theorem wsL_law_in : ∀ w ∈ wsL_law, w ∈ lw_tbl := fun w h => (List.mem_append.mp h).elim (fun h => (List.mem_append.mp h).elim (fun h => (List.mem_append.mp h).elim (fun h => wsL_law_in0 w h) (fun h => wsL_law_x0 w h)) (fun h => wsL_law_x1 w h)) (fun h => wsL_law_x2 w h)
theorem inlX0 : ∀ w ∈ wsX00, w ∈ wsL_law := fun _ h => List.mem_append_left _ (List.mem_append_left _ (List.mem_append_left _ (List.mem_append_left _ (List.mem_append_left _ (List.mem_append_right _ h)))))
theorem inX0 : ∀ w ∈ wsX00, w ∈ lw_tbl := fun w h => wsL_law_in w (inlX0 w h)
theorem inlX1 : ∀ w ∈ wsX10, w ∈ wsL_law := fun _ h => List.mem_append_left _ (List.mem_append_left _ (List.mem_append_left _ (List.mem_append_left _ (List.mem_append_left _ (List.mem_append_left _ (List.mem_append_right _ h))))))
theorem inX1 : ∀ w ∈ wsX10, w ∈ lw_tbl := fun w h => wsL_law_in w (inlX1 w h)
theorem inlX2 : ∀ w ∈ wsX20, w ∈ wsL_law := fun _ h => List.mem_append_left _ (List.mem_append_left _ (List.mem_append_left _ (List.mem_append_left _ (List.mem_append_right _ h))))
theorem inX2 : ∀ w ∈ wsX20, w ∈ lw_tbl := fun w h => wsL_law_in w (inlX2 w h)
theorem inX3 : ∀ w ∈ wsX30, w ∈ lw_tbl := by decide +kernel
set_option maxRecDepth 20000 in
theorem ggL_law_X1_init : GoodIn wsL_law wsX1_init := goodIn_r _ [6, 7, 8, 9, 10, 11, 12, 13, 14, 15, 16, 17, 18, 19, 20, 347, 348, 349, 350, 351, 352, 353, 354, 355, 356] (by decide +kernel) (by decide +kernel)
set_option maxRecDepth 20000 in
theorem gL_law_X1_init : GoodIn wsL_law (wsX1_init) := ggL_law_X1_init
set_option maxRecDepth 20000 in
theorem ggL_law_L_build : GoodIn wsL_law wsL_build := goodIn_ca (goodIn_ca (goodIn_ca (goodIn_r _ [24, 25, 26, 27, 28, 29, 30, 31, 32, 33, 34, 8, 9, 35, 36, 37, 38, 39, 40, 23, 41, 42, 43, 44, 45, 46, 47, 48, 49, 2, 50, 51, 52, 53, 11, 54, 55, 56, 57, 58, 18, 59, 60, 61, 62, 63, 64, 65, 66, 67, 68, 69, 70, 71, 72, 73, 74, 75, 76, 77, 78, 79, 80, 13, 81, 82, 19, 20, 83, 84, 85, 86, 357, 358, 359, 360, 361, 362, 347, 348, 349, 350, 351, 352, 353, 354, 355, 356] (by decide +kernel) (by decide +kernel)) (goodIn_sub (fun _ h => List.mem_append_left _ (List.mem_append_left _ (List.mem_append_right _ h))) (by decide +kernel))) (goodIn_sub (fun _ h => List.mem_append_left _ (List.mem_append_right _ h)) (by decide +kernel))) (goodIn_sub (fun _ h => List.mem_append_right _ h) (by decide +kernel))
set_option maxRecDepth 20000 in
theorem gL_law_L_build : GoodIn wsL_law (va_wsS RL 75 yL_build wsL_build) := goodIn_app (goodIn_of _ (by decide +kernel)) ggL_law_L_build
set_option maxRecDepth 20000 in
theorem ggL_law_L_cell : GoodIn wsL_law wsL_cell := goodIn_r _ [41, 42] (by decide +kernel) (by decide +kernel)
set_option maxRecDepth 20000 in
theorem gL_law_L_cell : GoodIn wsL_law (va_wsS RL 70 yL_cell wsL_cell) := goodIn_app (goodIn_of _ (by decide +kernel)) ggL_law_L_cell
set_option maxRecDepth 20000 in
theorem ggL_law_L_act : GoodIn wsL_law wsL_act := goodIn_ca (goodIn_ca (goodIn_ca (goodIn_r _ [89, 90, 29, 28, 91, 30, 31, 43, 44, 23, 45, 46, 47, 48, 49, 2, 50, 51, 52, 53, 11, 54, 55, 56, 27, 57, 38, 58, 18, 59, 60, 61, 62, 63, 64, 65, 66, 67, 68, 69, 70, 71, 72, 73, 74, 75, 76, 77, 78, 79, 80, 13, 81, 82, 19, 20, 92, 93, 94, 95, 96, 97, 98, 99, 100, 101, 102, 103, 104, 105, 106, 107, 108, 109, 110, 111, 83, 84, 85, 86, 112, 113, 114, 115, 116, 117, 118, 119, 120, 121, 122, 123, 124, 125, 126, 127, 128, 129, 130, 131, 132, 133, 134, 135, 136, 137, 138, 139, 140, 141, 142, 143, 144, 145, 146, 147, 148, 149, 150, 357, 358, 359, 360, 361, 362, 347, 348, 349, 350, 351, 352, 353, 354, 355, 356] (by decide +kernel) (by decide +kernel)) (goodIn_sub (fun _ h => List.mem_append_left _ (List.mem_append_left _ (List.mem_append_right _ h))) (by decide +kernel))) (goodIn_sub (fun _ h => List.mem_append_left _ (List.mem_append_right _ h)) (by decide +kernel))) (goodIn_sub (fun _ h => List.mem_append_right _ h) (by decide +kernel))
set_option maxRecDepth 20000 in
theorem gL_law_L_act : GoodIn wsL_law (va_wsS RL 79 yL_act wsL_act) := goodIn_app (goodIn_of _ (by decide +kernel)) ggL_law_L_act
set_option maxRecDepth 20000 in
theorem ggL_law_X1_digest : GoodIn wsL_law wsX1_digest := goodIn_r _ [154, 155, 53, 116, 117, 11, 156, 157, 2, 158, 159, 160, 161, 162, 163, 164, 165, 166, 13, 167, 168, 169, 170, 171, 172, 82, 19, 20, 173, 174, 175, 176, 133, 134, 135, 177, 178, 179, 180, 181, 182, 183, 184, 185, 186, 187, 188, 189, 190, 191, 192, 193, 194, 195, 196, 197, 198, 199, 200, 201, 202, 203, 126, 127, 128, 129, 130, 131, 132, 347, 348, 349, 350, 351, 352, 353, 354, 355, 356] (by decide +kernel) (by decide +kernel)
set_option maxRecDepth 20000 in
theorem gL_law_X1_digest : GoodIn wsL_law (wsV RL 83 RX1 yX1_digest wsX1_digest) := goodIn_app (goodIn_of _ (by decide +kernel)) ggL_law_X1_digest
set_option maxRecDepth 20000 in
theorem ggL_law_X1_lamps : GoodIn wsL_law wsX1_lamps := goodIn_r _ [207, 53, 347, 348, 349, 350, 351] (by decide +kernel) (by decide +kernel)
set_option maxRecDepth 20000 in
theorem gL_law_X1_lamps : GoodIn wsL_law (wsV RL 87 RX1 yX1_lamps wsX1_lamps) := goodIn_app (goodIn_of _ (by decide +kernel)) ggL_law_X1_lamps
set_option maxRecDepth 20000 in
theorem ggL_law_X1_now : GoodIn wsL_law wsX1_now := goodIn_r _ [211, 116, 347, 348, 349, 350, 351] (by decide +kernel) (by decide +kernel)
set_option maxRecDepth 20000 in
theorem gL_law_X1_now : GoodIn wsL_law (wsV RL 90 RX1 yX1_now wsX1_now) := goodIn_app (goodIn_of _ (by decide +kernel)) ggL_law_X1_now
set_option maxRecDepth 20000 in
theorem ggL_law_X1_isLit : GoodIn wsL_law wsX1_isLit := goodIn_ca (goodIn_r _ [215, 11, 116, 63, 64, 65, 2, 66, 67, 68, 53, 164, 165, 166, 13, 167, 168, 169, 170, 171, 172, 82, 19, 20, 173, 174, 175, 176, 133, 134, 135, 347, 348, 349, 350, 351, 352, 353, 354, 355, 356] (by decide +kernel) (by decide +kernel)) (goodIn_sub (fun _ h => List.mem_append_left _ (List.mem_append_right _ h)) (by decide +kernel))
set_option maxRecDepth 20000 in
theorem gL_law_X1_isLit : GoodIn wsL_law (wsV RL 93 RX1 yX1_isLit wsX1_isLit) := goodIn_app (goodIn_of _ (by decide +kernel)) ggL_law_X1_isLit
set_option maxRecDepth 20000 in
theorem ggL_law_X1_momentsUntilChange : GoodIn wsL_law wsX1_momentsUntilChange := goodIn_ca (goodIn_r _ [219, 11, 116, 63, 64, 65, 2, 66, 67, 68, 53, 199, 200, 201, 13, 202, 190, 191, 192, 193, 194, 195, 196, 197, 82, 19, 20, 203, 126, 127, 128, 129, 130, 131, 132, 133, 134, 135, 347, 348, 349, 350, 351, 352, 353, 354, 355, 356] (by decide +kernel) (by decide +kernel)) (goodIn_sub (fun _ h => List.mem_append_left _ (List.mem_append_right _ h)) (by decide +kernel))
set_option maxRecDepth 20000 in
theorem gL_law_X1_momentsUntilChange : GoodIn wsL_law (wsV RL 96 RX1 yX1_momentsUntilChange wsX1_momentsUntilChange) := goodIn_app (goodIn_of _ (by decide +kernel)) ggL_law_X1_momentsUntilChange
set_option maxRecDepth 20000 in
theorem ggL_law_X1_isOn : GoodIn wsL_law wsX1_isOn := goodIn_ca (goodIn_r _ [223, 11, 116, 63, 64, 65, 2, 66, 67, 68, 53, 181, 170, 171, 13, 172, 82, 19, 20, 173, 174, 175, 176, 133, 134, 135, 347, 348, 349, 350, 351, 352, 353, 354, 355, 356] (by decide +kernel) (by decide +kernel)) (goodIn_sub (fun _ h => List.mem_append_left _ (List.mem_append_right _ h)) (by decide +kernel))
set_option maxRecDepth 20000 in
theorem gL_law_X1_isOn : GoodIn wsL_law (wsV RL 99 RX1 yX1_isOn wsX1_isOn) := goodIn_app (goodIn_of _ (by decide +kernel)) ggL_law_X1_isOn
set_option maxRecDepth 20000 in
theorem ggL_law_X1_isCovered : GoodIn wsL_law wsX1_isCovered := goodIn_ca (goodIn_r _ [227, 11, 63, 64, 65, 2, 66, 67, 68, 53, 347, 348, 349, 350, 351, 352, 353, 354, 355, 356] (by decide +kernel) (by decide +kernel)) (goodIn_sub (fun _ h => List.mem_append_left _ (List.mem_append_right _ h)) (by decide +kernel))
set_option maxRecDepth 20000 in
theorem gL_law_X1_isCovered : GoodIn wsL_law (wsV RL 102 RX1 yX1_isCovered wsX1_isCovered) := goodIn_app (goodIn_of _ (by decide +kernel)) ggL_law_X1_isCovered
set_option maxRecDepth 20000 in
theorem ggL_law_X1_isSteady : GoodIn wsL_law wsX1_isSteady := goodIn_ca (goodIn_r _ [231, 11, 63, 64, 65, 2, 66, 67, 68, 53, 182, 183, 184, 13, 185, 186, 187, 188, 189, 173, 190, 191, 192, 193, 194, 195, 196, 197, 82, 19, 20, 169, 170, 171, 172, 174, 175, 176, 133, 134, 135, 347, 348, 349, 350, 351, 352, 353, 354, 355, 356] (by decide +kernel) (by decide +kernel)) (goodIn_sub (fun _ h => List.mem_append_left _ (List.mem_append_right _ h)) (by decide +kernel))
set_option maxRecDepth 20000 in
theorem gL_law_X1_isSteady : GoodIn wsL_law (wsV RL 105 RX1 yX1_isSteady wsX1_isSteady) := goodIn_app (goodIn_of _ (by decide +kernel)) ggL_law_X1_isSteady
set_option maxRecDepth 20000 in
theorem ggL_law_X1_isOnAt : GoodIn wsL_law wsX1_isOnAt := goodIn_ca (goodIn_ca (goodIn_r _ [235, 11, 63, 64, 65, 2, 66, 67, 68, 53, 236, 237, 238, 72, 73, 239, 181, 170, 171, 13, 172, 82, 19, 20, 173, 174, 175, 176, 133, 134, 135, 347, 348, 349, 350, 351, 352, 353, 354, 355, 356] (by decide +kernel) (by decide +kernel)) (goodIn_sub (fun _ h => List.mem_append_left _ (List.mem_append_right _ h)) (by decide +kernel))) (goodIn_sub (fun _ h => List.mem_append_right _ h) (by decide +kernel))
set_option maxRecDepth 20000 in
theorem gL_law_X1_isOnAt : GoodIn wsL_law (wsV RL 108 RX1 yX1_isOnAt wsX1_isOnAt) := goodIn_app (goodIn_of _ (by decide +kernel)) ggL_law_X1_isOnAt
set_option maxRecDepth 20000 in
theorem ggL_law_X1_strikesAt : GoodIn wsL_law wsX1_strikesAt := goodIn_ca (goodIn_ca (goodIn_r _ [243, 11, 63, 64, 65, 2, 66, 67, 68, 53, 236, 237, 238, 72, 73, 239, 244, 130, 131, 13, 132, 82, 19, 20, 347, 348, 349, 350, 351, 352, 353, 354, 355, 356] (by decide +kernel) (by decide +kernel)) (goodIn_sub (fun _ h => List.mem_append_left _ (List.mem_append_right _ h)) (by decide +kernel))) (goodIn_sub (fun _ h => List.mem_append_right _ h) (by decide +kernel))
set_option maxRecDepth 20000 in
theorem gL_law_X1_strikesAt : GoodIn wsL_law (wsV RL 112 RX1 yX1_strikesAt wsX1_strikesAt) := goodIn_app (goodIn_of _ (by decide +kernel)) ggL_law_X1_strikesAt
set_option maxRecDepth 20000 in
theorem ggL_law_L_below : GoodIn wsL_law wsL_below := goodIn_r _ [45, 46] (by decide +kernel) (by decide +kernel)
set_option maxRecDepth 20000 in
theorem gL_law_L_below : GoodIn wsL_law (va_wsS RL 15 yL_below wsL_below) := goodIn_app (goodIn_of _ (by decide +kernel)) ggL_law_L_below
set_option maxRecDepth 20000 in
theorem ggL_law_X1_cycleOf : GoodIn wsL_law wsX1_cycleOf := goodIn_ca (goodIn_r _ [248, 11, 63, 64, 65, 2, 66, 67, 68, 53, 198, 187, 188, 13, 189, 173, 190, 191, 192, 193, 194, 195, 196, 197, 82, 19, 20, 169, 170, 171, 172, 174, 175, 176, 133, 134, 135, 347, 348, 349, 350, 351, 352, 353, 354, 355, 356] (by decide +kernel) (by decide +kernel)) (goodIn_sub (fun _ h => List.mem_append_left _ (List.mem_append_right _ h)) (by decide +kernel))
set_option maxRecDepth 20000 in
theorem gL_law_X1_cycleOf : GoodIn wsL_law (wsV RL 115 RX1 yX1_cycleOf wsX1_cycleOf) := goodIn_app (goodIn_of _ (by decide +kernel)) ggL_law_X1_cycleOf
set_option maxRecDepth 20000 in
theorem ggL_law_X1_shows : GoodIn wsL_law wsX1_shows := goodIn_ca (goodIn_ca (goodIn_r _ [252, 11, 116, 63, 64, 65, 2, 66, 67, 68, 53, 118, 119, 120, 72, 73, 181, 170, 171, 13, 172, 82, 19, 20, 173, 174, 175, 176, 133, 134, 135, 347, 348, 349, 350, 351, 352, 353, 354, 355, 356] (by decide +kernel) (by decide +kernel)) (goodIn_sub (fun _ h => List.mem_append_left _ (List.mem_append_right _ h)) (by decide +kernel))) (goodIn_sub (fun _ h => List.mem_append_right _ h) (by decide +kernel))
set_option maxRecDepth 20000 in
theorem gL_law_X1_shows : GoodIn wsL_law (wsV RL 118 RX1 yX1_shows wsX1_shows) := goodIn_app (goodIn_of _ (by decide +kernel)) ggL_law_X1_shows
set_option maxRecDepth 20000 in
theorem ggL_law_X1_litLamps : GoodIn wsL_law wsX1_litLamps := goodIn_r _ [256, 116, 160, 161, 162, 2, 163, 53, 11, 164, 165, 166, 13, 167, 168, 169, 170, 171, 172, 82, 19, 20, 173, 174, 175, 176, 133, 134, 135, 347, 348, 349, 350, 351, 352, 353, 354, 355, 356] (by decide +kernel) (by decide +kernel)
set_option maxRecDepth 20000 in
theorem gL_law_X1_litLamps : GoodIn wsL_law (wsV RL 121 RX1 yX1_litLamps wsX1_litLamps) := goodIn_app (goodIn_of _ (by decide +kernel)) ggL_law_X1_litLamps
set_option maxRecDepth 20000 in
theorem ggL_law_X1_isDark : GoodIn wsL_law wsX1_isDark := goodIn_r _ [260, 116, 261, 262, 263, 2, 264, 53, 11, 164, 165, 166, 13, 167, 168, 169, 170, 171, 172, 82, 19, 20, 173, 174, 175, 176, 133, 134, 135, 347, 348, 349, 350, 351, 352, 353, 354, 355, 356] (by decide +kernel) (by decide +kernel)
set_option maxRecDepth 20000 in
theorem gL_law_X1_isDark : GoodIn wsL_law (wsV RL 124 RX1 yX1_isDark wsX1_isDark) := goodIn_app (goodIn_of _ (by decide +kernel)) ggL_law_X1_isDark
set_option maxRecDepth 20000 in
theorem ggL_law_X1_momentsUntilDark : GoodIn wsL_law wsX1_momentsUntilDark := goodIn_r _ [268, 116, 261, 262, 263, 2, 264, 53, 11, 164, 165, 166, 13, 167, 168, 169, 170, 171, 172, 82, 19, 20, 173, 174, 175, 176, 133, 134, 135, 347, 348, 349, 350, 351, 352, 353, 354, 355, 356] (by decide +kernel) (by decide +kernel)
set_option maxRecDepth 20000 in
theorem gL_law_X1_momentsUntilDark : GoodIn wsL_law (wsV RL 128 RX1 yX1_momentsUntilDark wsX1_momentsUntilDark) := goodIn_app (goodIn_of _ (by decide +kernel)) ggL_law_X1_momentsUntilDark
set_option maxRecDepth 20000 in
theorem ggL_law_X1_momentsUntilCollision : GoodIn wsL_law wsX1_momentsUntilCollision := goodIn_ca (goodIn_ca (goodIn_r _ [272, 116, 273, 274, 275, 2, 276, 72, 73, 63, 64, 65, 66, 67, 68, 53, 277, 278, 279, 280, 11, 125, 126, 127, 13, 128, 129, 130, 131, 132, 82, 19, 20, 133, 134, 135, 347, 348, 349, 350, 351, 352, 353, 354, 355, 356] (by decide +kernel) (by decide +kernel)) (goodIn_sub (fun _ h => List.mem_append_right _ h) (by decide +kernel))) (goodIn_sub (fun _ h => List.mem_append_left _ (List.mem_append_right _ h)) (by decide +kernel))
set_option maxRecDepth 20000 in
theorem gL_law_X1_momentsUntilCollision : GoodIn wsL_law (wsV RL 131 RX1 yX1_momentsUntilCollision wsX1_momentsUntilCollision) := goodIn_app (goodIn_of _ (by decide +kernel)) ggL_law_X1_momentsUntilCollision
set_option maxRecDepth 20000 in
theorem ggL_law_X1_collisionsWithin : GoodIn wsL_law wsX1_collisionsWithin := goodIn_ca (goodIn_ca (goodIn_r _ [284, 116, 273, 274, 275, 2, 276, 72, 73, 63, 64, 65, 66, 67, 68, 53, 118, 119, 120, 277, 278, 279, 280, 11, 125, 126, 127, 13, 128, 129, 130, 131, 132, 82, 19, 20, 133, 134, 135, 347, 348, 349, 350, 351, 352, 353, 354, 355, 356] (by decide +kernel) (by decide +kernel)) (goodIn_sub (fun _ h => List.mem_append_right _ h) (by decide +kernel))) (goodIn_sub (fun _ h => List.mem_append_left _ (List.mem_append_right _ h)) (by decide +kernel))
set_option maxRecDepth 20000 in
theorem gL_law_X1_collisionsWithin : GoodIn wsL_law (wsV RL 134 RX1 yX1_collisionsWithin wsX1_collisionsWithin) := goodIn_app (goodIn_of _ (by decide +kernel)) ggL_law_X1_collisionsWithin
set_option maxRecDepth 20000 in
theorem ggL_law_X1_momentsUntilToldApart : GoodIn wsL_law wsX1_momentsUntilToldApart := goodIn_ca (goodIn_ca (goodIn_r _ [288, 14, 11, 116, 273, 274, 275, 2, 276, 72, 73, 63, 64, 65, 66, 67, 68, 53, 289, 290, 291, 13, 292, 173, 82, 293, 294, 295, 296, 19, 20, 297, 79, 80, 81, 181, 170, 171, 172, 174, 175, 176, 133, 134, 135, 199, 200, 201, 202, 190, 191, 192, 193, 194, 195, 196, 197, 203, 126, 127, 128, 129, 130, 131, 132, 347, 348, 349, 350, 351, 352, 353, 354, 355, 356] (by decide +kernel) (by decide +kernel)) (goodIn_sub (fun _ h => List.mem_append_right _ h) (by decide +kernel))) (goodIn_sub (fun _ h => List.mem_append_left _ (List.mem_append_right _ h)) (by decide +kernel))
set_option maxRecDepth 20000 in
theorem gL_law_X1_momentsUntilToldApart : GoodIn wsL_law (wsV RL 137 RX1 yX1_momentsUntilToldApart wsX1_momentsUntilToldApart) := goodIn_app (goodIn_of _ (by decide +kernel)) ggL_law_X1_momentsUntilToldApart
set_option maxRecDepth 20000 in
theorem ggL_law_X1_darkWithin : GoodIn wsL_law wsX1_darkWithin := goodIn_ca (goodIn_r _ [301, 118, 119, 2, 120, 72, 73, 302, 303, 304, 305, 116, 261, 262, 263, 264, 53, 11, 164, 165, 166, 13, 167, 168, 169, 170, 171, 172, 82, 19, 20, 173, 174, 175, 176, 133, 134, 135, 347, 348, 349, 350, 351, 352, 353, 354, 355, 356] (by decide +kernel) (by decide +kernel)) (goodIn_sub (fun _ h => List.mem_append_right _ h) (by decide +kernel))
set_option maxRecDepth 20000 in
theorem gL_law_X1_darkWithin : GoodIn wsL_law (wsV RL 141 RX1 yX1_darkWithin wsX1_darkWithin) := goodIn_app (goodIn_of _ (by decide +kernel)) ggL_law_X1_darkWithin
set_option maxRecDepth 20000 in
theorem ggL_law_X1_bestCover : GoodIn wsL_law wsX1_bestCover := goodIn_ca (goodIn_r _ [309, 53, 11, 118, 119, 2, 120, 72, 73, 302, 303, 304, 305, 116, 261, 262, 263, 264, 164, 165, 166, 13, 167, 168, 169, 170, 171, 172, 82, 19, 20, 173, 174, 175, 176, 133, 134, 135, 347, 348, 349, 350, 351, 352, 353, 354, 355, 356] (by decide +kernel) (by decide +kernel)) (goodIn_sub (fun _ h => List.mem_append_right _ h) (by decide +kernel))
set_option maxRecDepth 20000 in
theorem gL_law_X1_bestCover : GoodIn wsL_law (wsV RL 144 RX1 yX1_bestCover wsX1_bestCover) := goodIn_app (goodIn_of _ (by decide +kernel)) ggL_law_X1_bestCover
set_option maxRecDepth 20000 in
theorem ggL_law_X1_turnShutter : GoodIn wsL_law wsX1_turnShutter := goodIn_ca (goodIn_r _ [86, 11, 63, 64, 65, 2, 66, 67, 68, 53, 347, 348, 349, 350, 351, 352, 353, 354, 355, 356] (by decide +kernel) (by decide +kernel)) (goodIn_sub (fun _ h => List.mem_append_left _ (List.mem_append_right _ h)) (by decide +kernel))
set_option maxRecDepth 20000 in
theorem gL_law_X1_turnShutter : GoodIn wsL_law (wsV RL 60 RX1 yX1_turnShutter wsX1_turnShutter) := goodIn_app (goodIn_of _ (by decide +kernel)) ggL_law_X1_turnShutter
set_option maxRecDepth 20000 in
theorem ggL_law_X1_pass : GoodIn wsL_law wsX1_pass := goodIn_ca (goodIn_r _ [115, 116, 117, 118, 119, 2, 120, 72, 73, 121, 122, 123, 124, 53, 11, 125, 126, 127, 13, 128, 129, 130, 131, 132, 82, 19, 20, 133, 134, 135, 347, 348, 349, 350, 351, 352, 353, 354, 355, 356] (by decide +kernel) (by decide +kernel)) (goodIn_sub (fun _ h => List.mem_append_right _ h) (by decide +kernel))
set_option maxRecDepth 20000 in
theorem gL_law_X1_pass : GoodIn wsL_law (wsV RL 64 RX1 yX1_pass wsX1_pass) := goodIn_app (goodIn_of _ (by decide +kernel)) ggL_law_X1_pass
set_option maxRecDepth 20000 in
theorem ggL_law_X2_pass : GoodIn wsL_law wsX2_pass := goodIn_r _ [139, 140, 141, 142, 143, 144, 145, 27, 146, 147, 148, 149, 150, 38, 357, 358, 359, 360, 361, 362] (by decide +kernel) (by decide +kernel)
set_option maxRecDepth 20000 in
theorem gL_law_X2_pass : GoodIn wsL_law (wsV RL 68 RX2 yX2_pass wsX2_pass) := goodIn_app (goodIn_of _ (by decide +kernel)) ggL_law_X2_pass
set_option maxRecDepth 20000 in
theorem ggL_law_X2_isSame : GoodIn wsL_law wsX2_isSame := goodIn_ca (goodIn_ca (goodIn_r _ [313, 142, 141, 37, 38, 140, 314, 315, 316, 27, 317, 35, 36, 143, 144, 145, 146, 147, 148, 149, 150, 318, 319, 320, 2, 321, 11, 63, 64, 65, 66, 67, 68, 53, 322, 225, 226, 227, 323, 221, 222, 223, 116, 181, 170, 171, 13, 172, 82, 19, 20, 173, 174, 175, 176, 133, 134, 135, 324, 213, 214, 215, 164, 165, 166, 167, 168, 169, 325, 233, 234, 235, 236, 237, 238, 72, 73, 239, 326, 241, 242, 243, 244, 130, 131, 132, 327, 328, 329, 330, 96, 97, 98, 99, 331, 332, 333, 334, 335, 205, 206, 207, 336, 209, 210, 211, 337, 338, 339, 340, 117, 341, 254, 255, 256, 160, 161, 162, 163, 342, 258, 259, 260, 261, 262, 263, 264, 343, 344, 345, 346, 357, 358, 359, 360, 361, 362, 347, 348, 349, 350, 351, 352, 353, 354, 355, 356] (by decide +kernel) (by decide +kernel)) (goodIn_sub (fun _ h => List.mem_append_left _ (List.mem_append_right _ h)) (by decide +kernel))) (goodIn_sub (fun _ h => List.mem_append_right _ h) (by decide +kernel))
set_option maxRecDepth 20000 in
theorem gL_law_X2_isSame : GoodIn wsL_law (wsV RL 147 RX2 yX2_isSame wsX2_isSame) := goodIn_app (goodIn_of _ (by decide +kernel)) ggL_law_X2_isSame
