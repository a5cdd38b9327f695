theorem dL_piece_0 : decode cL_piece 0 = .ok (.aload 7, 2) := by decide +kernel
theorem dL_piece_2 : decode cL_piece 2 = .ok (.iconst 0, 1) := by decide +kernel
theorem dL_piece_3 : decode cL_piece 3 = .ok (.aload_n 0, 1) := by decide +kernel
theorem dL_piece_4 : decode cL_piece 4 = .ok (.iload_n 1, 1) := by decide +kernel
theorem dL_piece_5 : decode cL_piece 5 = .ok (.iload_n 2, 1) := by decide +kernel
theorem dL_piece_6 : decode cL_piece 6 = .ok (.lload_n 3, 1) := by decide +kernel
theorem dL_piece_7 : decode cL_piece 7 = .ok (.lload 5, 2) := by decide +kernel
theorem dL_piece_9 : decode cL_piece 9 = .ok (.invokevirtual 7, 3) := by decide +kernel
theorem dL_piece_12 : decode cL_piece 12 = .ok (.i2l, 1) := by decide +kernel
theorem dL_piece_13 : decode cL_piece 13 = .ok (.lastore, 1) := by decide +kernel
theorem dL_piece_14 : decode cL_piece 14 = .ok (.goto 7, 3) := by decide +kernel
theorem dL_piece_17 : decode cL_piece 17 = .ok (.astore 8, 2) := by decide +kernel
theorem dL_piece_19 : decode cL_piece 19 = .ok (.iconst 1, 1) := by decide +kernel
theorem dL_piece_20 : decode cL_piece 20 = .ok (.ireturn, 1) := by decide +kernel
theorem dL_piece_21 : decode cL_piece 21 = .ok (.iconst 0, 1) := by decide +kernel
theorem dL_piece_22 : decode cL_piece 22 = .ok (.ireturn, 1) := by decide +kernel
set_option maxRecDepth 20000 in
theorem ggL_piece2_X0_piece2 : GoodIn wsL_piece2 wsX0_piece2 := goodIn_r _ [5, 6, 7, 8, 9, 10, 11, 12, 13, 4, 14, 15, 16, 17, 18, 19, 20, 21, 22, 23, 24, 25, 26, 27, 28, 29, 30, 31, 32, 33, 34, 35, 36, 37, 38, 39] (by decide +kernel) (by decide +kernel)
set_option maxRecDepth 20000 in
theorem gL_piece2_X0_piece2 : GoodIn wsL_piece2 (wsV RL 15 RX0 yX0_piece2 wsX0_piece2) := goodIn_app (goodIn_of _ (by decide +kernel)) ggL_piece2_X0_piece2
theorem dL_piece2_0 : decode cL_piece2 0 = .ok (.aload_n 2, 1) := by decide +kernel
theorem dL_piece2_1 : decode cL_piece2 1 = .ok (.iconst 0, 1) := by decide +kernel
theorem dL_piece2_2 : decode cL_piece2 2 = .ok (.aload_n 0, 1) := by decide +kernel
theorem dL_piece2_3 : decode cL_piece2 3 = .ok (.iload_n 1, 1) := by decide +kernel
theorem dL_piece2_4 : decode cL_piece2 4 = .ok (.invokevirtual 15, 3) := by decide +kernel
theorem dL_piece2_7 : decode cL_piece2 7 = .ok (.i2l, 1) := by decide +kernel
theorem dL_piece2_8 : decode cL_piece2 8 = .ok (.lastore, 1) := by decide +kernel
theorem dL_piece2_9 : decode cL_piece2 9 = .ok (.goto 6, 3) := by decide +kernel
theorem dL_piece2_12 : decode cL_piece2 12 = .ok (.astore_n 3, 1) := by decide +kernel
theorem dL_piece2_13 : decode cL_piece2 13 = .ok (.iconst 1, 1) := by decide +kernel
theorem dL_piece2_14 : decode cL_piece2 14 = .ok (.ireturn, 1) := by decide +kernel
theorem dL_piece2_15 : decode cL_piece2 15 = .ok (.iconst 0, 1) := by decide +kernel
theorem dL_piece2_16 : decode cL_piece2 16 = .ok (.ireturn, 1) := by decide +kernel
set_option maxRecDepth 20000 in
theorem ggL_law_X0_init : GoodIn wsL_law wsX0_init := goodIn_r _ [10, 11, 12, 13, 14, 15, 16, 6, 17, 18, 19, 20, 21, 22, 23, 24, 25, 26, 27, 28, 29, 308, 309, 310, 311, 312, 313, 314, 315, 316, 317, 318, 319, 320, 321, 322, 323, 324, 325] (by decide +kernel) (by decide +kernel)
set_option maxRecDepth 20000 in
theorem gL_law_X0_init : GoodIn wsL_law (wsX0_init) := ggL_law_X0_init
set_option maxRecDepth 20000 in
theorem ggL_law_X1_init : GoodIn wsL_law wsX1_init := goodIn_r _ [32, 33, 12, 13, 14, 34, 35, 6, 36, 37, 38, 39, 27, 40, 41, 42, 43, 44, 45, 46, 326, 327, 328, 329, 330, 331, 332, 333, 334, 335, 336, 337, 338, 339, 340, 341, 342] (by decide +kernel) (by decide +kernel)
set_option maxRecDepth 20000 in
theorem gL_law_X1_init : GoodIn wsL_law (wsX1_init) := ggL_law_X1_init
set_option maxRecDepth 20000 in
theorem ggL_law_L_piece : GoodIn wsL_law wsL_piece := goodIn_ca (goodIn_r _ [50, 51, 52, 53, 54, 2, 55, 56, 57, 58, 59, 60, 15, 16, 17, 18, 61, 62, 63, 308, 309, 310, 311, 312, 313, 314, 315, 316, 317, 318, 319, 320, 321, 322, 323, 324, 325] (by decide +kernel) (by decide +kernel)) (goodIn_sub (fun _ h => List.mem_append_right _ h) (by decide +kernel))
set_option maxRecDepth 20000 in
theorem gL_law_L_piece : GoodIn wsL_law (va_wsS RL 27 yL_piece wsL_piece) := goodIn_app (goodIn_of _ (by decide +kernel)) ggL_law_L_piece
set_option maxRecDepth 20000 in
theorem ggL_law_X1_piece : GoodIn wsL_law wsX1_piece := goodIn_r _ [67, 68, 69, 70, 71, 72, 34, 35, 36, 37, 73, 74, 5, 75, 326, 327, 328, 329, 330, 331, 332, 333, 334, 335, 336, 337, 338, 339, 340, 341, 342] (by decide +kernel) (by decide +kernel)
set_option maxRecDepth 20000 in
theorem gL_law_X1_piece : GoodIn wsL_law (wsV RL 32 RX1 yX1_piece wsX1_piece) := goodIn_app (goodIn_of _ (by decide +kernel)) ggL_law_X1_piece
set_option maxRecDepth 20000 in
theorem ggL_law_X1_thrown : GoodIn wsL_law wsX1_thrown := goodIn_r _ [79, 68, 326, 327, 328, 329, 330, 331, 332, 333, 334, 335, 336, 337, 338, 339, 340, 341, 342] (by decide +kernel) (by decide +kernel)
set_option maxRecDepth 20000 in
theorem gL_law_X1_thrown : GoodIn wsL_law (wsV RL 33 RX1 yX1_thrown wsX1_thrown) := goodIn_app (goodIn_of _ (by decide +kernel)) ggL_law_X1_thrown
set_option maxRecDepth 20000 in
theorem ggL_law_X0_turn : GoodIn wsL_law wsX0_turn := goodIn_r _ [83, 16, 15, 21, 84, 85, 86, 87, 2, 88, 60, 89, 90, 91, 92, 93, 94, 95, 96, 97, 98, 308, 309, 310, 311, 312, 313, 314, 315, 316, 317, 318, 319, 320, 321, 322, 323, 324, 325] (by decide +kernel) (by decide +kernel)
set_option maxRecDepth 20000 in
theorem gL_law_X0_turn : GoodIn wsL_law (wsV RL 37 RX0 yX0_turn wsX0_turn) := goodIn_app (goodIn_of _ (by decide +kernel)) ggL_law_X0_turn
set_option maxRecDepth 20000 in
theorem ggL_law_X1_turn : GoodIn wsL_law wsX1_turn := goodIn_r _ [102, 68, 35, 34, 40, 103, 104, 105, 5, 106, 72, 326, 327, 328, 329, 330, 331, 332, 333, 334, 335, 336, 337, 338, 339, 340, 341, 342] (by decide +kernel) (by decide +kernel)
set_option maxRecDepth 20000 in
theorem gL_law_X1_turn : GoodIn wsL_law (wsV RL 41 RX1 yX1_turn wsX1_turn) := goodIn_app (goodIn_of _ (by decide +kernel)) ggL_law_X1_turn
set_option maxRecDepth 20000 in
theorem ggL_law_X0_stop : GoodIn wsL_law wsX0_stop := goodIn_r _ [110, 17, 111, 22, 23, 24, 85, 86, 87, 2, 88, 60, 308, 309, 310, 311, 312, 313, 314, 315, 316, 317, 318, 319, 320, 321, 322, 323, 324, 325] (by decide +kernel) (by decide +kernel)
set_option maxRecDepth 20000 in
theorem gL_law_X0_stop : GoodIn wsL_law (wsV RL 42 RX0 yX0_stop wsX0_stop) := goodIn_app (goodIn_of _ (by decide +kernel)) ggL_law_X0_stop
set_option maxRecDepth 20000 in
theorem ggL_law_X1_stop : GoodIn wsL_law wsX1_stop := goodIn_r _ [115, 68, 36, 116, 41, 42, 43, 103, 104, 105, 5, 106, 72, 73, 74, 75, 326, 327, 328, 329, 330, 331, 332, 333, 334, 335, 336, 337, 338, 339, 340, 341, 342] (by decide +kernel) (by decide +kernel)
set_option maxRecDepth 20000 in
theorem gL_law_X1_stop : GoodIn wsL_law (wsV RL 46 RX1 yX1_stop wsX1_stop) := goodIn_app (goodIn_of _ (by decide +kernel)) ggL_law_X1_stop
set_option maxRecDepth 20000 in
theorem ggL_law_X0_way : GoodIn wsL_law wsX0_way := goodIn_r _ [120, 121, 122, 123, 124, 125, 126, 127, 128, 2, 129, 111, 130, 131, 132, 133, 22, 24, 17, 25, 134, 135, 136, 137, 138, 23, 139, 140, 141, 142, 143, 144, 145, 146, 147, 18, 148, 149, 150, 151, 152, 153, 154, 155, 156, 26, 60, 28, 157, 158, 159, 160, 161, 162, 163, 164, 165, 166, 167, 168, 169, 170, 171, 172, 173, 174, 175, 16, 15, 89, 90, 91, 92, 21, 93, 94, 95, 96, 97, 98, 176, 177, 178, 179, 180, 19, 20, 181, 182, 183, 184, 185, 186, 187, 188, 29, 189, 190, 191, 192, 308, 309, 310, 311, 312, 313, 314, 315, 316, 317, 318, 319, 320, 321, 322, 323, 324, 325] (by decide +kernel) (by decide +kernel)
set_option maxRecDepth 20000 in
theorem gL_law_X0_way : GoodIn wsL_law (wsV RL 47 RX0 yX0_way wsX0_way) := goodIn_app (goodIn_of _ (by decide +kernel)) ggL_law_X0_way
set_option maxRecDepth 20000 in
theorem ggL_law_X1_way : GoodIn wsL_law wsX1_way := goodIn_r _ [196, 68, 197, 198, 199, 200, 201, 202, 46, 41, 45, 203, 204, 205, 5, 206, 116, 73, 74, 75, 207, 208, 209, 210, 44, 72, 36, 211, 212, 213, 214, 43, 215, 216, 217, 218, 42, 219, 220, 221, 222, 223, 224, 37, 225, 226, 227, 228, 35, 34, 40, 229, 230, 231, 232, 39, 233, 38, 234, 235, 236, 237, 238, 239, 240, 241, 242, 243, 244, 245, 326, 327, 328, 329, 330, 331, 332, 333, 334, 335, 336, 337, 338, 339, 340, 341, 342] (by decide +kernel) (by decide +kernel)
set_option maxRecDepth 20000 in
theorem gL_law_X1_way : GoodIn wsL_law (wsV RL 51 RX1 yX1_way wsX1_way) := goodIn_app (goodIn_of _ (by decide +kernel)) ggL_law_X1_way
set_option maxRecDepth 20000 in
theorem ggL_law_X0_step : GoodIn wsL_law wsX0_step := goodIn_r _ [249, 124, 29, 308, 309, 310, 311, 312, 313, 314, 315, 316, 317, 318, 319, 320, 321, 322, 323, 324, 325] (by decide +kernel) (by decide +kernel)
set_option maxRecDepth 20000 in
theorem gL_law_X0_step : GoodIn wsL_law (wsV RL 52 RX0 yX0_step wsX0_step) := goodIn_app (goodIn_of _ (by decide +kernel)) ggL_law_X0_step
set_option maxRecDepth 20000 in
theorem ggL_law_X1_step : GoodIn wsL_law wsX1_step := goodIn_r _ [253, 68, 200, 46, 326, 327, 328, 329, 330, 331, 332, 333, 334, 335, 336, 337, 338, 339, 340, 341, 342] (by decide +kernel) (by decide +kernel)
set_option maxRecDepth 20000 in
theorem gL_law_X1_step : GoodIn wsL_law (wsV RL 55 RX1 yX1_step wsX1_step) := goodIn_app (goodIn_of _ (by decide +kernel)) ggL_law_X1_step
set_option maxRecDepth 20000 in
theorem ggL_law_X0_gate : GoodIn wsL_law wsX0_gate := goodIn_r _ [257, 180, 19, 20, 85, 86, 87, 2, 88, 60, 308, 309, 310, 311, 312, 313, 314, 315, 316, 317, 318, 319, 320, 321, 322, 323, 324, 325] (by decide +kernel) (by decide +kernel)
set_option maxRecDepth 20000 in
theorem gL_law_X0_gate : GoodIn wsL_law (wsV RL 56 RX0 yX0_gate wsX0_gate) := goodIn_app (goodIn_of _ (by decide +kernel)) ggL_law_X0_gate
set_option maxRecDepth 20000 in
theorem ggL_law_X1_gate : GoodIn wsL_law wsX1_gate := goodIn_r _ [261, 68, 233, 38, 39, 103, 104, 105, 5, 106, 72, 326, 327, 328, 329, 330, 331, 332, 333, 334, 335, 336, 337, 338, 339, 340, 341, 342] (by decide +kernel) (by decide +kernel)
set_option maxRecDepth 20000 in
theorem gL_law_X1_gate : GoodIn wsL_law (wsV RL 60 RX1 yX1_gate wsX1_gate) := goodIn_app (goodIn_of _ (by decide +kernel)) ggL_law_X1_gate
set_option maxRecDepth 20000 in
theorem ggL_law_X0_change : GoodIn wsL_law wsX0_change := goodIn_r _ [265, 59, 18, 85, 86, 87, 2, 88, 60, 308, 309, 310, 311, 312, 313, 314, 315, 316, 317, 318, 319, 320, 321, 322, 323, 324, 325] (by decide +kernel) (by decide +kernel)
set_option maxRecDepth 20000 in
theorem gL_law_X0_change : GoodIn wsL_law (wsV RL 61 RX0 yX0_change wsX0_change) := goodIn_app (goodIn_of _ (by decide +kernel)) ggL_law_X0_change
set_option maxRecDepth 20000 in
theorem ggL_law_X1_change : GoodIn wsL_law wsX1_change := goodIn_r _ [269, 68, 71, 37, 103, 104, 105, 5, 106, 72, 73, 74, 75, 326, 327, 328, 329, 330, 331, 332, 333, 334, 335, 336, 337, 338, 339, 340, 341, 342] (by decide +kernel) (by decide +kernel)
set_option maxRecDepth 20000 in
theorem gL_law_X1_change : GoodIn wsL_law (wsV RL 65 RX1 yX1_change wsX1_change) := goodIn_app (goodIn_of _ (by decide +kernel)) ggL_law_X1_change
set_option maxRecDepth 20000 in
theorem ggL_law_X0_table : GoodIn wsL_law wsX0_table := goodIn_r _ [273, 121, 126, 127, 128, 2, 129, 111, 130, 131, 132, 133, 22, 24, 17, 25, 134, 125, 135, 136, 137, 138, 23, 139, 140, 141, 142, 143, 144, 145, 146, 147, 18, 148, 149, 150, 151, 152, 153, 154, 155, 156, 26, 60, 28, 157, 158, 159, 160, 161, 162, 163, 164, 165, 166, 167, 168, 169, 170, 171, 172, 173, 174, 175, 16, 15, 89, 90, 91, 92, 21, 93, 94, 95, 96, 97, 98, 176, 177, 178, 179, 180, 19, 20, 181, 182, 183, 184, 308, 309, 310, 311, 312, 313, 314, 315, 316, 317, 318, 319, 320, 321, 322, 323, 324, 325] (by decide +kernel) (by decide +kernel)
set_option maxRecDepth 20000 in
theorem gL_law_X0_table : GoodIn wsL_law (wsV RL 66 RX0 yX0_table wsX0_table) := goodIn_app (goodIn_of _ (by decide +kernel)) ggL_law_X0_table
set_option maxRecDepth 20000 in
theorem ggL_law_X1_table : GoodIn wsL_law wsX1_table := goodIn_r _ [277, 68, 197, 201, 202, 203, 204, 205, 5, 206, 116, 207, 208, 209, 210, 44, 45, 41, 72, 36, 211, 212, 213, 214, 43, 215, 216, 217, 218, 42, 219, 220, 221, 222, 223, 224, 37, 225, 226, 227, 228, 35, 34, 40, 229, 230, 231, 232, 39, 233, 38, 234, 235, 236, 237, 238, 239, 240, 241, 326, 327, 328, 329, 330, 331, 332, 333, 334, 335, 336, 337, 338, 339, 340, 341, 342] (by decide +kernel) (by decide +kernel)
set_option maxRecDepth 20000 in
theorem gL_law_X1_table : GoodIn wsL_law (wsV RL 70 RX1 yX1_table wsX1_table) := goodIn_app (goodIn_of _ (by decide +kernel)) ggL_law_X1_table
set_option maxRecDepth 20000 in
theorem ggL_law_L_piece2 : GoodIn wsL_law wsL_piece2 := goodIn_r _ [280, 281, 282, 283, 2, 284, 285, 286, 287, 15, 16, 85, 86, 87, 88, 60, 343, 344, 345, 346, 347, 348, 308, 309, 310, 311, 312, 313, 314, 315, 316, 317, 318, 319, 320, 321, 322, 323, 324, 325] (by decide +kernel) (by decide +kernel)
set_option maxRecDepth 20000 in
theorem gL_law_L_piece2 : GoodIn wsL_law (va_wsS RL 71 yL_piece2 wsL_piece2) := goodIn_app (goodIn_of _ (by decide +kernel)) ggL_law_L_piece2
set_option maxRecDepth 20000 in
theorem ggL_law_X1_piece2 : GoodIn wsL_law wsX1_piece2 := goodIn_r _ [291, 68, 34, 35, 103, 104, 105, 5, 106, 72, 326, 327, 328, 329, 330, 331, 332, 333, 334, 335, 336, 337, 338, 339, 340, 341, 342] (by decide +kernel) (by decide +kernel)
set_option maxRecDepth 20000 in
theorem gL_law_X1_piece2 : GoodIn wsL_law (wsV RL 74 RX1 yX1_piece2 wsX1_piece2) := goodIn_app (goodIn_of _ (by decide +kernel)) ggL_law_X1_piece2
set_option maxRecDepth 20000 in
theorem ggL_law_X0_service : GoodIn wsL_law wsX0_service := goodIn_r _ [295, 85, 86, 87, 2, 88, 60, 296, 297, 298, 299, 111, 22, 23, 181, 182, 183, 184, 20, 300, 301, 302, 303, 172, 173, 174, 175, 16, 15, 89, 90, 91, 92, 21, 93, 94, 95, 96, 97, 98, 308, 309, 310, 311, 312, 313, 314, 315, 316, 317, 318, 319, 320, 321, 322, 323, 324, 325] (by decide +kernel) (by decide +kernel)
set_option maxRecDepth 20000 in
theorem gL_law_X0_service : GoodIn wsL_law (wsV RL 75 RX0 yX0_service wsX0_service) := goodIn_app (goodIn_of _ (by decide +kernel)) ggL_law_X0_service
set_option maxRecDepth 20000 in
theorem ggL_law_X1_service : GoodIn wsL_law wsX1_service := goodIn_r _ [307, 68, 39, 116, 41, 42, 72, 103, 104, 105, 5, 106, 225, 226, 227, 228, 35, 34, 40, 326, 327, 328, 329, 330, 331, 332, 333, 334, 335, 336, 337, 338, 339, 340, 341, 342] (by decide +kernel) (by decide +kernel)
set_option maxRecDepth 20000 in
theorem gL_law_X1_service : GoodIn wsL_law (wsV RL 79 RX1 yX1_service wsX1_service) := goodIn_app (goodIn_of _ (by decide +kernel)) ggL_law_X1_service
theorem dL_law_0 : decode cL_law 0 = .ok (.new 8, 3) := by decide +kernel
theorem dL_law_3 : decode cL_law 3 = .ok (.dup, 1) := by decide +kernel
theorem dL_law_4 : decode cL_law 4 = .ok (.invokespecial 21, 3) := by decide +kernel
theorem dL_law_7 : decode cL_law 7 = .ok (.astore_n 1, 1) := by decide +kernel
theorem dL_law_8 : decode cL_law 8 = .ok (.new 22, 3) := by decide +kernel
theorem dL_law_11 : decode cL_law 11 = .ok (.dup, 1) := by decide +kernel
theorem dL_law_12 : decode cL_law 12 = .ok (.invokespecial 24, 3) := by decide +kernel
theorem dL_law_15 : decode cL_law 15 = .ok (.astore_n 2, 1) := by decide +kernel
theorem dL_law_16 : decode cL_law 16 = .ok (.iconst 1, 1) := by decide +kernel
theorem dL_law_17 : decode cL_law 17 = .ok (.newarray .long, 2) := by decide +kernel
theorem dL_law_19 : decode cL_law 19 = .ok (.astore_n 3, 1) := by decide +kernel
theorem dL_law_20 : decode cL_law 20 = .ok (.iconst 0, 1) := by decide +kernel
theorem dL_law_21 : decode cL_law 21 = .ok (.istore 4, 2) := by decide +kernel
theorem dL_law_23 : decode cL_law 23 = .ok (.iload 4, 2) := by decide +kernel
theorem dL_law_25 : decode cL_law 25 = .ok (.aload_n 0, 1) := by decide +kernel
theorem dL_law_26 : decode cL_law 26 = .ok (.arraylength, 1) := by decide +kernel
theorem dL_law_27 : decode cL_law 27 = .ok (.bipush 7, 2) := by decide +kernel
theorem dL_law_29 : decode cL_law 29 = .ok (.isub, 1) := by decide +kernel
theorem dL_law_30 : decode cL_law 30 = .ok (.if_icmp .gt 796, 3) := by decide +kernel
theorem dL_law_33 : decode cL_law 33 = .ok (.aload_n 0, 1) := by decide +kernel
theorem dL_law_34 : decode cL_law 34 = .ok (.iload 4, 2) := by decide +kernel
theorem dL_law_36 : decode cL_law 36 = .ok (.iaload, 1) := by decide +kernel
theorem dL_law_37 : decode cL_law 37 = .ok (.bipush 15, 2) := by decide +kernel
theorem dL_law_39 : decode cL_law 39 = .ok (.iand, 1) := by decide +kernel
theorem dL_law_40 : decode cL_law 40 = .ok (.tableswitch 780 0 9 #[56, 214, 279, 360, 442, 467, 580, 649, 687, 743], 56) := by decide +kernel
theorem dL_law_96 : decode cL_law 96 = .ok (.aload_n 1, 1) := by decide +kernel
theorem dL_law_97 : decode cL_law 97 = .ok (.aload_n 0, 1) := by decide +kernel
theorem dL_law_98 : decode cL_law 98 = .ok (.iload 4, 2) := by decide +kernel
theorem dL_law_100 : decode cL_law 100 = .ok (.iconst 1, 1) := by decide +kernel
theorem dL_law_101 : decode cL_law 101 = .ok (.iadd, 1) := by decide +kernel
theorem dL_law_102 : decode cL_law 102 = .ok (.iaload, 1) := by decide +kernel
theorem dL_law_103 : decode cL_law 103 = .ok (.aload_n 0, 1) := by decide +kernel
theorem dL_law_104 : decode cL_law 104 = .ok (.iload 4, 2) := by decide +kernel
theorem dL_law_106 : decode cL_law 106 = .ok (.iconst 2, 1) := by decide +kernel
theorem dL_law_107 : decode cL_law 107 = .ok (.iadd, 1) := by decide +kernel
theorem dL_law_108 : decode cL_law 108 = .ok (.iaload, 1) := by decide +kernel
theorem dL_law_109 : decode cL_law 109 = .ok (.aload_n 0, 1) := by decide +kernel
theorem dL_law_110 : decode cL_law 110 = .ok (.iload 4, 2) := by decide +kernel
theorem dL_law_112 : decode cL_law 112 = .ok (.iconst 3, 1) := by decide +kernel
theorem dL_law_113 : decode cL_law 113 = .ok (.iadd, 1) := by decide +kernel
theorem dL_law_114 : decode cL_law 114 = .ok (.iaload, 1) := by decide +kernel
theorem dL_law_115 : decode cL_law 115 = .ok (.i2l, 1) := by decide +kernel
theorem dL_law_116 : decode cL_law 116 = .ok (.bipush 32, 2) := by decide +kernel
theorem dL_law_118 : decode cL_law 118 = .ok (.lshl, 1) := by decide +kernel
theorem dL_law_119 : decode cL_law 119 = .ok (.aload_n 0, 1) := by decide +kernel
theorem dL_law_120 : decode cL_law 120 = .ok (.iload 4, 2) := by decide +kernel
theorem dL_law_122 : decode cL_law 122 = .ok (.iconst 4, 1) := by decide +kernel
theorem dL_law_123 : decode cL_law 123 = .ok (.iadd, 1) := by decide +kernel
theorem dL_law_124 : decode cL_law 124 = .ok (.iaload, 1) := by decide +kernel
theorem dL_law_125 : decode cL_law 125 = .ok (.i2l, 1) := by decide +kernel
theorem dL_law_126 : decode cL_law 126 = .ok (.ldc2_w 25, 3) := by decide +kernel
theorem dL_law_129 : decode cL_law 129 = .ok (.land, 1) := by decide +kernel
theorem dL_law_130 : decode cL_law 130 = .ok (.lor, 1) := by decide +kernel
theorem dL_law_131 : decode cL_law 131 = .ok (.aload_n 0, 1) := by decide +kernel
theorem dL_law_132 : decode cL_law 132 = .ok (.iload 4, 2) := by decide +kernel
theorem dL_law_134 : decode cL_law 134 = .ok (.iconst 5, 1) := by decide +kernel
theorem dL_law_135 : decode cL_law 135 = .ok (.iadd, 1) := by decide +kernel
theorem dL_law_136 : decode cL_law 136 = .ok (.iaload, 1) := by decide +kernel
theorem dL_law_137 : decode cL_law 137 = .ok (.i2l, 1) := by decide +kernel
theorem dL_law_138 : decode cL_law 138 = .ok (.bipush 32, 2) := by decide +kernel
theorem dL_law_140 : decode cL_law 140 = .ok (.lshl, 1) := by decide +kernel
theorem dL_law_141 : decode cL_law 141 = .ok (.aload_n 0, 1) := by decide +kernel
theorem dL_law_142 : decode cL_law 142 = .ok (.iload 4, 2) := by decide +kernel
theorem dL_law_144 : decode cL_law 144 = .ok (.bipush 6, 2) := by decide +kernel
theorem dL_law_146 : decode cL_law 146 = .ok (.iadd, 1) := by decide +kernel
theorem dL_law_147 : decode cL_law 147 = .ok (.iaload, 1) := by decide +kernel
theorem dL_law_148 : decode cL_law 148 = .ok (.i2l, 1) := by decide +kernel
theorem dL_law_149 : decode cL_law 149 = .ok (.ldc2_w 25, 3) := by decide +kernel
theorem dL_law_152 : decode cL_law 152 = .ok (.land, 1) := by decide +kernel
theorem dL_law_153 : decode cL_law 153 = .ok (.lor, 1) := by decide +kernel
theorem dL_law_154 : decode cL_law 154 = .ok (.aload_n 3, 1) := by decide +kernel
theorem dL_law_155 : decode cL_law 155 = .ok (.invokestatic 27, 3) := by decide +kernel
theorem dL_law_158 : decode cL_law 158 = .ok (.istore 5, 2) := by decide +kernel
theorem dL_law_160 : decode cL_law 160 = .ok (.aload_n 2, 1) := by decide +kernel
theorem dL_law_161 : decode cL_law 161 = .ok (.aload_n 0, 1) := by decide +kernel
theorem dL_law_162 : decode cL_law 162 = .ok (.iload 4, 2) := by decide +kernel
theorem dL_law_164 : decode cL_law 164 = .ok (.iconst 1, 1) := by decide +kernel
theorem dL_law_165 : decode cL_law 165 = .ok (.iadd, 1) := by decide +kernel
theorem dL_law_166 : decode cL_law 166 = .ok (.iaload, 1) := by decide +kernel
theorem dL_law_167 : decode cL_law 167 = .ok (.aload_n 0, 1) := by decide +kernel
theorem dL_law_168 : decode cL_law 168 = .ok (.iload 4, 2) := by decide +kernel
theorem dL_law_170 : decode cL_law 170 = .ok (.iconst 2, 1) := by decide +kernel
theorem dL_law_171 : decode cL_law 171 = .ok (.iadd, 1) := by decide +kernel
theorem dL_law_172 : decode cL_law 172 = .ok (.iaload, 1) := by decide +kernel
theorem dL_law_173 : decode cL_law 173 = .ok (.aload_n 0, 1) := by decide +kernel
theorem dL_law_174 : decode cL_law 174 = .ok (.iload 4, 2) := by decide +kernel
theorem dL_law_176 : decode cL_law 176 = .ok (.iconst 3, 1) := by decide +kernel
theorem dL_law_177 : decode cL_law 177 = .ok (.iadd, 1) := by decide +kernel
theorem dL_law_178 : decode cL_law 178 = .ok (.iaload, 1) := by decide +kernel
theorem dL_law_179 : decode cL_law 179 = .ok (.i2l, 1) := by decide +kernel
theorem dL_law_180 : decode cL_law 180 = .ok (.bipush 32, 2) := by decide +kernel
theorem dL_law_182 : decode cL_law 182 = .ok (.lshl, 1) := by decide +kernel
theorem dL_law_183 : decode cL_law 183 = .ok (.aload_n 0, 1) := by decide +kernel
theorem dL_law_184 : decode cL_law 184 = .ok (.iload 4, 2) := by decide +kernel
theorem dL_law_186 : decode cL_law 186 = .ok (.iconst 4, 1) := by decide +kernel
theorem dL_law_187 : decode cL_law 187 = .ok (.iadd, 1) := by decide +kernel
theorem dL_law_188 : decode cL_law 188 = .ok (.iaload, 1) := by decide +kernel
theorem dL_law_189 : decode cL_law 189 = .ok (.i2l, 1) := by decide +kernel
theorem dL_law_190 : decode cL_law 190 = .ok (.ldc2_w 25, 3) := by decide +kernel
theorem dL_law_193 : decode cL_law 193 = .ok (.land, 1) := by decide +kernel
theorem dL_law_194 : decode cL_law 194 = .ok (.lor, 1) := by decide +kernel
theorem dL_law_195 : decode cL_law 195 = .ok (.aload_n 0, 1) := by decide +kernel
theorem dL_law_196 : decode cL_law 196 = .ok (.iload 4, 2) := by decide +kernel
theorem dL_law_198 : decode cL_law 198 = .ok (.iconst 5, 1) := by decide +kernel
theorem dL_law_199 : decode cL_law 199 = .ok (.iadd, 1) := by decide +kernel
theorem dL_law_200 : decode cL_law 200 = .ok (.iaload, 1) := by decide +kernel
theorem dL_law_201 : decode cL_law 201 = .ok (.i2l, 1) := by decide +kernel
theorem dL_law_202 : decode cL_law 202 = .ok (.bipush 32, 2) := by decide +kernel
theorem dL_law_204 : decode cL_law 204 = .ok (.lshl, 1) := by decide +kernel
theorem dL_law_205 : decode cL_law 205 = .ok (.aload_n 0, 1) := by decide +kernel
theorem dL_law_206 : decode cL_law 206 = .ok (.iload 4, 2) := by decide +kernel
theorem dL_law_208 : decode cL_law 208 = .ok (.bipush 6, 2) := by decide +kernel
theorem dL_law_210 : decode cL_law 210 = .ok (.iadd, 1) := by decide +kernel
theorem dL_law_211 : decode cL_law 211 = .ok (.iaload, 1) := by decide +kernel
theorem dL_law_212 : decode cL_law 212 = .ok (.i2l, 1) := by decide +kernel
theorem dL_law_213 : decode cL_law 213 = .ok (.ldc2_w 25, 3) := by decide +kernel
theorem dL_law_216 : decode cL_law 216 = .ok (.land, 1) := by decide +kernel
theorem dL_law_217 : decode cL_law 217 = .ok (.lor, 1) := by decide +kernel
theorem dL_law_218 : decode cL_law 218 = .ok (.invokevirtual 32, 3) := by decide +kernel
theorem dL_law_221 : decode cL_law 221 = .ok (.istore 6, 2) := by decide +kernel
theorem dL_law_223 : decode cL_law 223 = .ok (.aload_n 2, 1) := by decide +kernel
theorem dL_law_224 : decode cL_law 224 = .ok (.invokevirtual 33, 3) := by decide +kernel
theorem dL_law_227 : decode cL_law 227 = .ok (.iload 5, 2) := by decide +kernel
theorem dL_law_229 : decode cL_law 229 = .ok (.if_icmp .eq 5, 3) := by decide +kernel
theorem dL_law_232 : decode cL_law 232 = .ok (.iconst 0, 1) := by decide +kernel
theorem dL_law_233 : decode cL_law 233 = .ok (.ireturn, 1) := by decide +kernel
theorem dL_law_234 : decode cL_law 234 = .ok (.iload 5, 2) := by decide +kernel
theorem dL_law_236 : decode cL_law 236 = .ok (.ifCond .ne 15, 3) := by decide +kernel
theorem dL_law_239 : decode cL_law 239 = .ok (.aload_n 3, 1) := by decide +kernel
theorem dL_law_240 : decode cL_law 240 = .ok (.iconst 0, 1) := by decide +kernel
theorem dL_law_241 : decode cL_law 241 = .ok (.laload, 1) := by decide +kernel
theorem dL_law_242 : decode cL_law 242 = .ok (.iload 6, 2) := by decide +kernel
theorem dL_law_244 : decode cL_law 244 = .ok (.i2l, 1) := by decide +kernel
theorem dL_law_245 : decode cL_law 245 = .ok (.lcmp, 1) := by decide +kernel
theorem dL_law_246 : decode cL_law 246 = .ok (.ifCond .eq 5, 3) := by decide +kernel
theorem dL_law_249 : decode cL_law 249 = .ok (.iconst 0, 1) := by decide +kernel
theorem dL_law_250 : decode cL_law 250 = .ok (.ireturn, 1) := by decide +kernel
theorem dL_law_251 : decode cL_law 251 = .ok (.goto 569, 3) := by decide +kernel
theorem dL_law_254 : decode cL_law 254 = .ok (.aload_n 1, 1) := by decide +kernel
theorem dL_law_255 : decode cL_law 255 = .ok (.aload_n 0, 1) := by decide +kernel
theorem dL_law_256 : decode cL_law 256 = .ok (.iload 4, 2) := by decide +kernel
theorem dL_law_258 : decode cL_law 258 = .ok (.iconst 1, 1) := by decide +kernel
theorem dL_law_259 : decode cL_law 259 = .ok (.iadd, 1) := by decide +kernel
theorem dL_law_260 : decode cL_law 260 = .ok (.iaload, 1) := by decide +kernel
theorem dL_law_261 : decode cL_law 261 = .ok (.aload_n 0, 1) := by decide +kernel
theorem dL_law_262 : decode cL_law 262 = .ok (.iload 4, 2) := by decide +kernel
theorem dL_law_264 : decode cL_law 264 = .ok (.iconst 2, 1) := by decide +kernel
theorem dL_law_265 : decode cL_law 265 = .ok (.iadd, 1) := by decide +kernel
theorem dL_law_266 : decode cL_law 266 = .ok (.iaload, 1) := by decide +kernel
theorem dL_law_267 : decode cL_law 267 = .ok (.aload_n 0, 1) := by decide +kernel
theorem dL_law_268 : decode cL_law 268 = .ok (.iload 4, 2) := by decide +kernel
theorem dL_law_270 : decode cL_law 270 = .ok (.iconst 3, 1) := by decide +kernel
theorem dL_law_271 : decode cL_law 271 = .ok (.iadd, 1) := by decide +kernel
