theorem dX0_init_0 : decode cX0_init 0 = .ok (.aload_n 0, 1) := by decide +kernel
theorem dX0_init_1 : decode cX0_init 1 = .ok (.invokespecial 3, 3) := by decide +kernel
theorem dX0_init_4 : decode cX0_init 4 = .ok (.aload_n 0, 1) := by decide +kernel
theorem dX0_init_5 : decode cX0_init 5 = .ok (.bipush 120, 2) := by decide +kernel
theorem dX0_init_7 : decode cX0_init 7 = .ok (.newarray .int, 2) := by decide +kernel
theorem dX0_init_9 : decode cX0_init 9 = .ok (.putfield 9, 3) := by decide +kernel
theorem dX0_init_12 : decode cX0_init 12 = .ok (.aload_n 0, 1) := by decide +kernel
theorem dX0_init_13 : decode cX0_init 13 = .ok (.bipush 120, 2) := by decide +kernel
theorem dX0_init_15 : decode cX0_init 15 = .ok (.newarray .int, 2) := by decide +kernel
theorem dX0_init_17 : decode cX0_init 17 = .ok (.putfield 13, 3) := by decide +kernel
theorem dX0_init_20 : decode cX0_init 20 = .ok (.aload_n 0, 1) := by decide +kernel
theorem dX0_init_21 : decode cX0_init 21 = .ok (.bipush 120, 2) := by decide +kernel
theorem dX0_init_23 : decode cX0_init 23 = .ok (.newarray .long, 2) := by decide +kernel
theorem dX0_init_25 : decode cX0_init 25 = .ok (.putfield 16, 3) := by decide +kernel
theorem dX0_init_28 : decode cX0_init 28 = .ok (.aload_n 0, 1) := by decide +kernel
theorem dX0_init_29 : decode cX0_init 29 = .ok (.bipush 120, 2) := by decide +kernel
theorem dX0_init_31 : decode cX0_init 31 = .ok (.newarray .long, 2) := by decide +kernel
theorem dX0_init_33 : decode cX0_init 33 = .ok (.putfield 20, 3) := by decide +kernel
theorem dX0_init_36 : decode cX0_init 36 = .ok (.aload_n 0, 1) := by decide +kernel
theorem dX0_init_37 : decode cX0_init 37 = .ok (.bipush 120, 2) := by decide +kernel
theorem dX0_init_39 : decode cX0_init 39 = .ok (.newarray .long, 2) := by decide +kernel
theorem dX0_init_41 : decode cX0_init 41 = .ok (.putfield 23, 3) := by decide +kernel
theorem dX0_init_44 : decode cX0_init 44 = .ok (.aload_n 0, 1) := by decide +kernel
theorem dX0_init_45 : decode cX0_init 45 = .ok (.bipush 120, 2) := by decide +kernel
theorem dX0_init_47 : decode cX0_init 47 = .ok (.newarray .long, 2) := by decide +kernel
theorem dX0_init_49 : decode cX0_init 49 = .ok (.putfield 26, 3) := by decide +kernel
theorem dX0_init_52 : decode cX0_init 52 = .ok (.aload_n 0, 1) := by decide +kernel
theorem dX0_init_53 : decode cX0_init 53 = .ok (.sipush 240, 3) := by decide +kernel
theorem dX0_init_56 : decode cX0_init 56 = .ok (.newarray .long, 2) := by decide +kernel
theorem dX0_init_58 : decode cX0_init 58 = .ok (.putfield 29, 3) := by decide +kernel
theorem dX0_init_61 : decode cX0_init 61 = .ok (.aload_n 0, 1) := by decide +kernel
theorem dX0_init_62 : decode cX0_init 62 = .ok (.bipush 100, 2) := by decide +kernel
theorem dX0_init_64 : decode cX0_init 64 = .ok (.newarray .int, 2) := by decide +kernel
theorem dX0_init_66 : decode cX0_init 66 = .ok (.putfield 32, 3) := by decide +kernel
theorem dX0_init_69 : decode cX0_init 69 = .ok (.aload_n 0, 1) := by decide +kernel
theorem dX0_init_70 : decode cX0_init 70 = .ok (.bipush 100, 2) := by decide +kernel
theorem dX0_init_72 : decode cX0_init 72 = .ok (.newarray .int, 2) := by decide +kernel
theorem dX0_init_74 : decode cX0_init 74 = .ok (.putfield 35, 3) := by decide +kernel
theorem dX0_init_77 : decode cX0_init 77 = .ok (.aload_n 0, 1) := by decide +kernel
theorem dX0_init_78 : decode cX0_init 78 = .ok (.bipush 100, 2) := by decide +kernel
theorem dX0_init_80 : decode cX0_init 80 = .ok (.newarray .long, 2) := by decide +kernel
theorem dX0_init_82 : decode cX0_init 82 = .ok (.putfield 38, 3) := by decide +kernel
theorem dX0_init_85 : decode cX0_init 85 = .ok (.aload_n 0, 1) := by decide +kernel
theorem dX0_init_86 : decode cX0_init 86 = .ok (.bipush 120, 2) := by decide +kernel
theorem dX0_init_88 : decode cX0_init 88 = .ok (.newarray .long, 2) := by decide +kernel
theorem dX0_init_90 : decode cX0_init 90 = .ok (.putfield 41, 3) := by decide +kernel
theorem dX0_init_93 : decode cX0_init 93 = .ok (.aload_n 0, 1) := by decide +kernel
theorem dX0_init_94 : decode cX0_init 94 = .ok (.bipush 120, 2) := by decide +kernel
theorem dX0_init_96 : decode cX0_init 96 = .ok (.newarray .long, 2) := by decide +kernel
theorem dX0_init_98 : decode cX0_init 98 = .ok (.putfield 44, 3) := by decide +kernel
theorem dX0_init_101 : decode cX0_init 101 = .ok (.aload_n 0, 1) := by decide +kernel
theorem dX0_init_102 : decode cX0_init 102 = .ok (.bipush 120, 2) := by decide +kernel
theorem dX0_init_104 : decode cX0_init 104 = .ok (.newarray .boolean, 2) := by decide +kernel
theorem dX0_init_106 : decode cX0_init 106 = .ok (.putfield 47, 3) := by decide +kernel
theorem dX0_init_109 : decode cX0_init 109 = .ok (.aload_n 0, 1) := by decide +kernel
theorem dX0_init_110 : decode cX0_init 110 = .ok (.bipush 121, 2) := by decide +kernel
theorem dX0_init_112 : decode cX0_init 112 = .ok (.newarray .int, 2) := by decide +kernel
theorem dX0_init_114 : decode cX0_init 114 = .ok (.putfield 51, 3) := by decide +kernel
theorem dX0_init_117 : decode cX0_init 117 = .ok (.return_, 1) := by decide +kernel
set_option maxRecDepth 20000 in
theorem ggX0_piece_X0_isCrossing : GoodIn wsX0_piece wsX0_isCrossing := goodIn_r _ [13] (by decide +kernel) (by decide +kernel)
set_option maxRecDepth 20000 in
theorem gX0_piece_X0_isCrossing : GoodIn wsX0_piece (va_wsS RX0 54 yX0_isCrossing wsX0_isCrossing) := goodIn_app (goodIn_of _ (by decide +kernel)) ggX0_piece_X0_isCrossing
theorem dX0_piece_0 : decode cX0_piece 0 = .ok (.iload_n 1, 1) := by decide +kernel
theorem dX0_piece_1 : decode cX0_piece 1 = .ok (.invokestatic 54, 3) := by decide +kernel
theorem dX0_piece_4 : decode cX0_piece 4 = .ok (.ifCond .eq 10, 3) := by decide +kernel
theorem dX0_piece_7 : decode cX0_piece 7 = .ok (.iload_n 2, 1) := by decide +kernel
theorem dX0_piece_8 : decode cX0_piece 8 = .ok (.invokestatic 54, 3) := by decide +kernel
theorem dX0_piece_11 : decode cX0_piece 11 = .ok (.ifCond .ne 6, 3) := by decide +kernel
theorem dX0_piece_14 : decode cX0_piece 14 = .ok (.bipush (-11), 2) := by decide +kernel
theorem dX0_piece_16 : decode cX0_piece 16 = .ok (.ireturn, 1) := by decide +kernel
theorem dX0_piece_17 : decode cX0_piece 17 = .ok (.lload_n 3, 1) := by decide +kernel
theorem dX0_piece_18 : decode cX0_piece 18 = .ok (.lconst 1, 1) := by decide +kernel
theorem dX0_piece_19 : decode cX0_piece 19 = .ok (.lcmp, 1) := by decide +kernel
theorem dX0_piece_20 : decode cX0_piece 20 = .ok (.ifCond .lt 27, 3) := by decide +kernel
theorem dX0_piece_23 : decode cX0_piece 23 = .ok (.lload_n 3, 1) := by decide +kernel
theorem dX0_piece_24 : decode cX0_piece 24 = .ok (.ldc2_w 58, 3) := by decide +kernel
theorem dX0_piece_27 : decode cX0_piece 27 = .ok (.lcmp, 1) := by decide +kernel
theorem dX0_piece_28 : decode cX0_piece 28 = .ok (.ifCond .gt 19, 3) := by decide +kernel
theorem dX0_piece_31 : decode cX0_piece 31 = .ok (.lload 5, 2) := by decide +kernel
theorem dX0_piece_33 : decode cX0_piece 33 = .ok (.lconst 0, 1) := by decide +kernel
theorem dX0_piece_34 : decode cX0_piece 34 = .ok (.lcmp, 1) := by decide +kernel
theorem dX0_piece_35 : decode cX0_piece 35 = .ok (.ifCond .lt 12, 3) := by decide +kernel
theorem dX0_piece_38 : decode cX0_piece 38 = .ok (.lload 5, 2) := by decide +kernel
theorem dX0_piece_40 : decode cX0_piece 40 = .ok (.ldc2_w 60, 3) := by decide +kernel
theorem dX0_piece_43 : decode cX0_piece 43 = .ok (.lcmp, 1) := by decide +kernel
theorem dX0_piece_44 : decode cX0_piece 44 = .ok (.ifCond .le 6, 3) := by decide +kernel
theorem dX0_piece_47 : decode cX0_piece 47 = .ok (.bipush (-12), 2) := by decide +kernel
theorem dX0_piece_49 : decode cX0_piece 49 = .ok (.ireturn, 1) := by decide +kernel
theorem dX0_piece_50 : decode cX0_piece 50 = .ok (.aload_n 0, 1) := by decide +kernel
theorem dX0_piece_51 : decode cX0_piece 51 = .ok (.getfield 62, 3) := by decide +kernel
theorem dX0_piece_54 : decode cX0_piece 54 = .ok (.bipush 120, 2) := by decide +kernel
theorem dX0_piece_56 : decode cX0_piece 56 = .ok (.if_icmp .lt 6, 3) := by decide +kernel
theorem dX0_piece_59 : decode cX0_piece 59 = .ok (.bipush (-14), 2) := by decide +kernel
theorem dX0_piece_61 : decode cX0_piece 61 = .ok (.ireturn, 1) := by decide +kernel
theorem dX0_piece_62 : decode cX0_piece 62 = .ok (.lload 5, 2) := by decide +kernel
theorem dX0_piece_64 : decode cX0_piece 64 = .ok (.lconst 0, 1) := by decide +kernel
theorem dX0_piece_65 : decode cX0_piece 65 = .ok (.lcmp, 1) := by decide +kernel
theorem dX0_piece_66 : decode cX0_piece 66 = .ok (.ifCond .ne 13, 3) := by decide +kernel
theorem dX0_piece_69 : decode cX0_piece 69 = .ok (.new 66, 3) := by decide +kernel
theorem dX0_piece_72 : decode cX0_piece 72 = .ok (.dup, 1) := by decide +kernel
theorem dX0_piece_73 : decode cX0_piece 73 = .ok (.ldc 68, 2) := by decide +kernel
theorem dX0_piece_75 : decode cX0_piece 75 = .ok (.invokespecial 70, 3) := by decide +kernel
theorem dX0_piece_78 : decode cX0_piece 78 = .ok (.athrow, 1) := by decide +kernel
theorem dX0_piece_79 : decode cX0_piece 79 = .ok (.aload_n 0, 1) := by decide +kernel
theorem dX0_piece_80 : decode cX0_piece 80 = .ok (.getfield 9, 3) := by decide +kernel
theorem dX0_piece_83 : decode cX0_piece 83 = .ok (.aload_n 0, 1) := by decide +kernel
theorem dX0_piece_84 : decode cX0_piece 84 = .ok (.getfield 62, 3) := by decide +kernel
theorem dX0_piece_87 : decode cX0_piece 87 = .ok (.iload_n 1, 1) := by decide +kernel
theorem dX0_piece_88 : decode cX0_piece 88 = .ok (.iastore, 1) := by decide +kernel
theorem dX0_piece_89 : decode cX0_piece 89 = .ok (.aload_n 0, 1) := by decide +kernel
theorem dX0_piece_90 : decode cX0_piece 90 = .ok (.getfield 13, 3) := by decide +kernel
theorem dX0_piece_93 : decode cX0_piece 93 = .ok (.aload_n 0, 1) := by decide +kernel
theorem dX0_piece_94 : decode cX0_piece 94 = .ok (.getfield 62, 3) := by decide +kernel
theorem dX0_piece_97 : decode cX0_piece 97 = .ok (.iload_n 2, 1) := by decide +kernel
theorem dX0_piece_98 : decode cX0_piece 98 = .ok (.iastore, 1) := by decide +kernel
theorem dX0_piece_99 : decode cX0_piece 99 = .ok (.aload_n 0, 1) := by decide +kernel
theorem dX0_piece_100 : decode cX0_piece 100 = .ok (.getfield 16, 3) := by decide +kernel
theorem dX0_piece_103 : decode cX0_piece 103 = .ok (.aload_n 0, 1) := by decide +kernel
theorem dX0_piece_104 : decode cX0_piece 104 = .ok (.getfield 62, 3) := by decide +kernel
theorem dX0_piece_107 : decode cX0_piece 107 = .ok (.lload_n 3, 1) := by decide +kernel
theorem dX0_piece_108 : decode cX0_piece 108 = .ok (.lastore, 1) := by decide +kernel
theorem dX0_piece_109 : decode cX0_piece 109 = .ok (.aload_n 0, 1) := by decide +kernel
theorem dX0_piece_110 : decode cX0_piece 110 = .ok (.getfield 20, 3) := by decide +kernel
theorem dX0_piece_113 : decode cX0_piece 113 = .ok (.aload_n 0, 1) := by decide +kernel
theorem dX0_piece_114 : decode cX0_piece 114 = .ok (.getfield 62, 3) := by decide +kernel
theorem dX0_piece_117 : decode cX0_piece 117 = .ok (.lload 5, 2) := by decide +kernel
theorem dX0_piece_119 : decode cX0_piece 119 = .ok (.lastore, 1) := by decide +kernel
theorem dX0_piece_120 : decode cX0_piece 120 = .ok (.aload_n 0, 1) := by decide +kernel
theorem dX0_piece_121 : decode cX0_piece 121 = .ok (.dup, 1) := by decide +kernel
theorem dX0_piece_122 : decode cX0_piece 122 = .ok (.getfield 62, 3) := by decide +kernel
theorem dX0_piece_125 : decode cX0_piece 125 = .ok (.iconst 1, 1) := by decide +kernel
theorem dX0_piece_126 : decode cX0_piece 126 = .ok (.iadd, 1) := by decide +kernel
theorem dX0_piece_127 : decode cX0_piece 127 = .ok (.putfield 62, 3) := by decide +kernel
theorem dX0_piece_130 : decode cX0_piece 130 = .ok (.aload_n 0, 1) := by decide +kernel
theorem dX0_piece_131 : decode cX0_piece 131 = .ok (.getfield 62, 3) := by decide +kernel
theorem dX0_piece_134 : decode cX0_piece 134 = .ok (.iconst 1, 1) := by decide +kernel
theorem dX0_piece_135 : decode cX0_piece 135 = .ok (.isub, 1) := by decide +kernel
theorem dX0_piece_136 : decode cX0_piece 136 = .ok (.ireturn, 1) := by decide +kernel
set_option maxRecDepth 20000 in
theorem ggX0_turn_X0_isPiece : GoodIn wsX0_turn wsX0_isPiece := goodIn_r _ [9, 10, 21, 22, 23, 24, 25, 26, 27, 28, 29, 30, 31, 32, 33, 34, 35, 36, 37, 38] (by decide +kernel) (by decide +kernel)
set_option maxRecDepth 20000 in
theorem gX0_turn_X0_isPiece : GoodIn wsX0_turn (wsV RX0 73 RX0 yX0_isPiece wsX0_isPiece) := goodIn_app (goodIn_of _ (by decide +kernel)) ggX0_turn_X0_isPiece
set_option maxRecDepth 20000 in
theorem ggX0_turn_X0_isBarred : GoodIn wsX0_turn wsX0_isBarred := goodIn_r _ [14, 3, 15, 16, 8, 17, 18, 19, 20, 21, 22, 23, 24, 25, 26, 27, 28, 29, 30, 31, 32, 33, 34, 35, 36, 37, 38] (by decide +kernel) (by decide +kernel)
set_option maxRecDepth 20000 in
theorem gX0_turn_X0_isBarred : GoodIn wsX0_turn (wsV RX0 76 RX0 yX0_isBarred wsX0_isBarred) := goodIn_app (goodIn_of _ (by decide +kernel)) ggX0_turn_X0_isBarred
set_option maxRecDepth 20000 in
theorem ggX0_turn_X0_wordOfTurn : GoodIn wsX0_turn wsX0_wordOfTurn := goodIn_r _ [17] (by decide +kernel) (by decide +kernel)
set_option maxRecDepth 20000 in
theorem gX0_turn_X0_wordOfTurn : GoodIn wsX0_turn (va_wsS RX0 80 yX0_wordOfTurn wsX0_wordOfTurn) := goodIn_app (goodIn_of _ (by decide +kernel)) ggX0_turn_X0_wordOfTurn
set_option maxRecDepth 20000 in
theorem ggX0_turn_X0_bitOfTurn : GoodIn wsX0_turn wsX0_bitOfTurn := goodIn_r _ [20] (by decide +kernel) (by decide +kernel)
set_option maxRecDepth 20000 in
theorem gX0_turn_X0_bitOfTurn : GoodIn wsX0_turn (va_wsS RX0 84 yX0_bitOfTurn wsX0_bitOfTurn) := goodIn_app (goodIn_of _ (by decide +kernel)) ggX0_turn_X0_bitOfTurn
theorem dX0_turn_0 : decode cX0_turn 0 = .ok (.aload_n 0, 1) := by decide +kernel
theorem dX0_turn_1 : decode cX0_turn 1 = .ok (.iload_n 1, 1) := by decide +kernel
theorem dX0_turn_2 : decode cX0_turn 2 = .ok (.invokevirtual 73, 3) := by decide +kernel
theorem dX0_turn_5 : decode cX0_turn 5 = .ok (.ifCond .eq 11, 3) := by decide +kernel
theorem dX0_turn_8 : decode cX0_turn 8 = .ok (.aload_n 0, 1) := by decide +kernel
theorem dX0_turn_9 : decode cX0_turn 9 = .ok (.iload_n 2, 1) := by decide +kernel
theorem dX0_turn_10 : decode cX0_turn 10 = .ok (.invokevirtual 73, 3) := by decide +kernel
theorem dX0_turn_13 : decode cX0_turn 13 = .ok (.ifCond .ne 6, 3) := by decide +kernel
theorem dX0_turn_16 : decode cX0_turn 16 = .ok (.bipush (-11), 2) := by decide +kernel
theorem dX0_turn_18 : decode cX0_turn 18 = .ok (.ireturn, 1) := by decide +kernel
theorem dX0_turn_19 : decode cX0_turn 19 = .ok (.aload_n 0, 1) := by decide +kernel
theorem dX0_turn_20 : decode cX0_turn 20 = .ok (.getfield 13, 3) := by decide +kernel
theorem dX0_turn_23 : decode cX0_turn 23 = .ok (.iload_n 1, 1) := by decide +kernel
theorem dX0_turn_24 : decode cX0_turn 24 = .ok (.iaload, 1) := by decide +kernel
theorem dX0_turn_25 : decode cX0_turn 25 = .ok (.aload_n 0, 1) := by decide +kernel
theorem dX0_turn_26 : decode cX0_turn 26 = .ok (.getfield 9, 3) := by decide +kernel
theorem dX0_turn_29 : decode cX0_turn 29 = .ok (.iload_n 2, 1) := by decide +kernel
theorem dX0_turn_30 : decode cX0_turn 30 = .ok (.iaload, 1) := by decide +kernel
theorem dX0_turn_31 : decode cX0_turn 31 = .ok (.if_icmp .eq 6, 3) := by decide +kernel
theorem dX0_turn_34 : decode cX0_turn 34 = .ok (.bipush (-13), 2) := by decide +kernel
theorem dX0_turn_36 : decode cX0_turn 36 = .ok (.ireturn, 1) := by decide +kernel
theorem dX0_turn_37 : decode cX0_turn 37 = .ok (.aload_n 0, 1) := by decide +kernel
theorem dX0_turn_38 : decode cX0_turn 38 = .ok (.iload_n 1, 1) := by decide +kernel
theorem dX0_turn_39 : decode cX0_turn 39 = .ok (.iload_n 2, 1) := by decide +kernel
theorem dX0_turn_40 : decode cX0_turn 40 = .ok (.invokevirtual 76, 3) := by decide +kernel
theorem dX0_turn_43 : decode cX0_turn 43 = .ok (.iload_n 3, 1) := by decide +kernel
theorem dX0_turn_44 : decode cX0_turn 44 = .ok (.if_icmp .eq 38, 3) := by decide +kernel
theorem dX0_turn_47 : decode cX0_turn 47 = .ok (.aload_n 0, 1) := by decide +kernel
theorem dX0_turn_48 : decode cX0_turn 48 = .ok (.getfield 29, 3) := by decide +kernel
theorem dX0_turn_51 : decode cX0_turn 51 = .ok (.iload_n 1, 1) := by decide +kernel
theorem dX0_turn_52 : decode cX0_turn 52 = .ok (.iload_n 2, 1) := by decide +kernel
theorem dX0_turn_53 : decode cX0_turn 53 = .ok (.invokestatic 80, 3) := by decide +kernel
theorem dX0_turn_56 : decode cX0_turn 56 = .ok (.dup2, 1) := by decide +kernel
theorem dX0_turn_57 : decode cX0_turn 57 = .ok (.laload, 1) := by decide +kernel
theorem dX0_turn_58 : decode cX0_turn 58 = .ok (.iload_n 2, 1) := by decide +kernel
theorem dX0_turn_59 : decode cX0_turn 59 = .ok (.invokestatic 84, 3) := by decide +kernel
theorem dX0_turn_62 : decode cX0_turn 62 = .ok (.lxor, 1) := by decide +kernel
theorem dX0_turn_63 : decode cX0_turn 63 = .ok (.lastore, 1) := by decide +kernel
theorem dX0_turn_64 : decode cX0_turn 64 = .ok (.aload_n 0, 1) := by decide +kernel
theorem dX0_turn_65 : decode cX0_turn 65 = .ok (.dup, 1) := by decide +kernel
theorem dX0_turn_66 : decode cX0_turn 66 = .ok (.getfield 88, 3) := by decide +kernel
theorem dX0_turn_69 : decode cX0_turn 69 = .ok (.iload_n 3, 1) := by decide +kernel
theorem dX0_turn_70 : decode cX0_turn 70 = .ok (.ifCond .eq 7, 3) := by decide +kernel
theorem dX0_turn_73 : decode cX0_turn 73 = .ok (.iconst 1, 1) := by decide +kernel
theorem dX0_turn_74 : decode cX0_turn 74 = .ok (.goto 4, 3) := by decide +kernel
theorem dX0_turn_77 : decode cX0_turn 77 = .ok (.iconst (-1), 1) := by decide +kernel
theorem dX0_turn_78 : decode cX0_turn 78 = .ok (.iadd, 1) := by decide +kernel
theorem dX0_turn_79 : decode cX0_turn 79 = .ok (.putfield 88, 3) := by decide +kernel
theorem dX0_turn_82 : decode cX0_turn 82 = .ok (.aload_n 0, 1) := by decide +kernel
theorem dX0_turn_83 : decode cX0_turn 83 = .ok (.getfield 88, 3) := by decide +kernel
theorem dX0_turn_86 : decode cX0_turn 86 = .ok (.ireturn, 1) := by decide +kernel
set_option maxRecDepth 20000 in
theorem ggX0_stop_X0_isPiece : GoodIn wsX0_stop wsX0_isPiece := goodIn_r _ [10, 11, 12, 13, 14, 15, 16, 17, 18, 19, 20, 21, 22, 23, 24, 25, 26, 27, 28, 29] (by decide +kernel) (by decide +kernel)
set_option maxRecDepth 20000 in
theorem gX0_stop_X0_isPiece : GoodIn wsX0_stop (wsV RX0 73 RX0 yX0_isPiece wsX0_isPiece) := goodIn_app (goodIn_of _ (by decide +kernel)) ggX0_stop_X0_isPiece
theorem dX0_stop_0 : decode cX0_stop 0 = .ok (.aload_n 0, 1) := by decide +kernel
theorem dX0_stop_1 : decode cX0_stop 1 = .ok (.iload_n 1, 1) := by decide +kernel
theorem dX0_stop_2 : decode cX0_stop 2 = .ok (.invokevirtual 73, 3) := by decide +kernel
theorem dX0_stop_5 : decode cX0_stop 5 = .ok (.ifCond .ne 6, 3) := by decide +kernel
theorem dX0_stop_8 : decode cX0_stop 8 = .ok (.bipush (-11), 2) := by decide +kernel
theorem dX0_stop_10 : decode cX0_stop 10 = .ok (.ireturn, 1) := by decide +kernel
theorem dX0_stop_11 : decode cX0_stop 11 = .ok (.iload_n 2, 1) := by decide +kernel
theorem dX0_stop_12 : decode cX0_stop 12 = .ok (.ifCond .lt 25, 3) := by decide +kernel
theorem dX0_stop_15 : decode cX0_stop 15 = .ok (.iload_n 2, 1) := by decide +kernel
theorem dX0_stop_16 : decode cX0_stop 16 = .ok (.iconst 1, 1) := by decide +kernel
theorem dX0_stop_17 : decode cX0_stop 17 = .ok (.if_icmp .gt 20, 3) := by decide +kernel
theorem dX0_stop_20 : decode cX0_stop 20 = .ok (.lload_n 3, 1) := by decide +kernel
theorem dX0_stop_21 : decode cX0_stop 21 = .ok (.lconst 0, 1) := by decide +kernel
theorem dX0_stop_22 : decode cX0_stop 22 = .ok (.lcmp, 1) := by decide +kernel
theorem dX0_stop_23 : decode cX0_stop 23 = .ok (.ifCond .lt 14, 3) := by decide +kernel
theorem dX0_stop_26 : decode cX0_stop 26 = .ok (.lload_n 3, 1) := by decide +kernel
theorem dX0_stop_27 : decode cX0_stop 27 = .ok (.aload_n 0, 1) := by decide +kernel
theorem dX0_stop_28 : decode cX0_stop 28 = .ok (.getfield 16, 3) := by decide +kernel
theorem dX0_stop_31 : decode cX0_stop 31 = .ok (.iload_n 1, 1) := by decide +kernel
theorem dX0_stop_32 : decode cX0_stop 32 = .ok (.laload, 1) := by decide +kernel
theorem dX0_stop_33 : decode cX0_stop 33 = .ok (.lcmp, 1) := by decide +kernel
theorem dX0_stop_34 : decode cX0_stop 34 = .ok (.ifCond .le 6, 3) := by decide +kernel
theorem dX0_stop_37 : decode cX0_stop 37 = .ok (.bipush (-12), 2) := by decide +kernel
theorem dX0_stop_39 : decode cX0_stop 39 = .ok (.ireturn, 1) := by decide +kernel
theorem dX0_stop_40 : decode cX0_stop 40 = .ok (.aload_n 0, 1) := by decide +kernel
theorem dX0_stop_41 : decode cX0_stop 41 = .ok (.getfield 91, 3) := by decide +kernel
theorem dX0_stop_44 : decode cX0_stop 44 = .ok (.bipush 100, 2) := by decide +kernel
theorem dX0_stop_46 : decode cX0_stop 46 = .ok (.if_icmp .lt 6, 3) := by decide +kernel
theorem dX0_stop_49 : decode cX0_stop 49 = .ok (.bipush (-14), 2) := by decide +kernel
theorem dX0_stop_51 : decode cX0_stop 51 = .ok (.ireturn, 1) := by decide +kernel
theorem dX0_stop_52 : decode cX0_stop 52 = .ok (.aload_n 0, 1) := by decide +kernel
theorem dX0_stop_53 : decode cX0_stop 53 = .ok (.getfield 32, 3) := by decide +kernel
theorem dX0_stop_56 : decode cX0_stop 56 = .ok (.aload_n 0, 1) := by decide +kernel
theorem dX0_stop_57 : decode cX0_stop 57 = .ok (.getfield 91, 3) := by decide +kernel
theorem dX0_stop_60 : decode cX0_stop 60 = .ok (.iload_n 1, 1) := by decide +kernel
theorem dX0_stop_61 : decode cX0_stop 61 = .ok (.iastore, 1) := by decide +kernel
theorem dX0_stop_62 : decode cX0_stop 62 = .ok (.aload_n 0, 1) := by decide +kernel
theorem dX0_stop_63 : decode cX0_stop 63 = .ok (.getfield 35, 3) := by decide +kernel
theorem dX0_stop_66 : decode cX0_stop 66 = .ok (.aload_n 0, 1) := by decide +kernel
theorem dX0_stop_67 : decode cX0_stop 67 = .ok (.getfield 91, 3) := by decide +kernel
theorem dX0_stop_70 : decode cX0_stop 70 = .ok (.iload_n 2, 1) := by decide +kernel
theorem dX0_stop_71 : decode cX0_stop 71 = .ok (.iastore, 1) := by decide +kernel
theorem dX0_stop_72 : decode cX0_stop 72 = .ok (.aload_n 0, 1) := by decide +kernel
theorem dX0_stop_73 : decode cX0_stop 73 = .ok (.getfield 38, 3) := by decide +kernel
theorem dX0_stop_76 : decode cX0_stop 76 = .ok (.aload_n 0, 1) := by decide +kernel
theorem dX0_stop_77 : decode cX0_stop 77 = .ok (.getfield 91, 3) := by decide +kernel
theorem dX0_stop_80 : decode cX0_stop 80 = .ok (.lload_n 3, 1) := by decide +kernel
theorem dX0_stop_81 : decode cX0_stop 81 = .ok (.lastore, 1) := by decide +kernel
theorem dX0_stop_82 : decode cX0_stop 82 = .ok (.aload_n 0, 1) := by decide +kernel
theorem dX0_stop_83 : decode cX0_stop 83 = .ok (.dup, 1) := by decide +kernel
theorem dX0_stop_84 : decode cX0_stop 84 = .ok (.getfield 91, 3) := by decide +kernel
theorem dX0_stop_87 : decode cX0_stop 87 = .ok (.iconst 1, 1) := by decide +kernel
theorem dX0_stop_88 : decode cX0_stop 88 = .ok (.iadd, 1) := by decide +kernel
theorem dX0_stop_89 : decode cX0_stop 89 = .ok (.putfield 91, 3) := by decide +kernel
theorem dX0_stop_92 : decode cX0_stop 92 = .ok (.aload_n 0, 1) := by decide +kernel
theorem dX0_stop_93 : decode cX0_stop 93 = .ok (.getfield 91, 3) := by decide +kernel
theorem dX0_stop_96 : decode cX0_stop 96 = .ok (.iconst 1, 1) := by decide +kernel
theorem dX0_stop_97 : decode cX0_stop 97 = .ok (.isub, 1) := by decide +kernel
theorem dX0_stop_98 : decode cX0_stop 98 = .ok (.ireturn, 1) := by decide +kernel
set_option maxRecDepth 20000 in
theorem ggX0_way_X0_isStop : GoodIn wsX0_way wsX0_isStop := goodIn_r _ [10, 11, 100, 101, 102, 103, 104, 105, 106, 107, 108, 109, 110, 111, 112, 113, 114, 115, 116, 117] (by decide +kernel) (by decide +kernel)
set_option maxRecDepth 20000 in
theorem gX0_way_X0_isStop : GoodIn wsX0_way (wsV RX0 94 RX0 yX0_isStop wsX0_isStop) := goodIn_app (goodIn_of _ (by decide +kernel)) ggX0_way_X0_isStop
set_option maxRecDepth 20000 in
theorem ggX0_way_X0_leastArrival : GoodIn wsX0_way wsX0_leastArrival := goodIn_r _ [15, 16, 17, 18, 19, 20, 5, 21, 22, 23, 9, 24, 25, 26, 27, 28, 29, 30, 31, 32, 33, 34, 35, 36, 37, 38, 39, 40, 41, 42, 43, 44, 45, 46, 47, 48, 49, 50, 51, 52, 53, 54, 55, 56, 57, 58, 59, 60, 61, 62, 63, 64, 65, 66, 67, 68, 69, 70, 71, 72, 73, 74, 75, 76, 77, 78, 79, 80, 81, 82, 83, 84, 85, 86, 87, 88, 89, 90, 100, 101, 102, 103, 104, 105, 106, 107, 108, 109, 110, 111, 112, 113, 114, 115, 116, 117] (by decide +kernel) (by decide +kernel)
set_option maxRecDepth 20000 in
theorem gX0_way_X0_leastArrival : GoodIn wsX0_way (wsV RX0 103 RX0 yX0_leastArrival wsX0_leastArrival) := goodIn_app (goodIn_of _ (by decide +kernel)) ggX0_way_X0_leastArrival
set_option maxRecDepth 20000 in
theorem ggX0_way_X0_keepSteps : GoodIn wsX0_way wsX0_keepSteps := goodIn_r _ [94, 16, 95, 4, 27, 28, 29, 9, 30, 17, 96, 97, 98, 99, 46, 45, 19, 63, 64, 65, 66, 67, 68, 69, 70, 71, 72, 73, 74, 75, 76, 77, 78, 79, 80, 81, 82, 83, 84, 85, 86, 87, 88, 89, 90, 100, 101, 102, 103, 104, 105, 106, 107, 108, 109, 110, 111, 112, 113, 114, 115, 116, 117] (by decide +kernel) (by decide +kernel)
set_option maxRecDepth 20000 in
theorem gX0_way_X0_keepSteps : GoodIn wsX0_way (wsV RX0 112 RX0 yX0_keepSteps wsX0_keepSteps) := goodIn_app (goodIn_of _ (by decide +kernel)) ggX0_way_X0_keepSteps
theorem dX0_way_0 : decode cX0_way 0 = .ok (.aload_n 0, 1) := by decide +kernel
theorem dX0_way_1 : decode cX0_way 1 = .ok (.iload_n 1, 1) := by decide +kernel
theorem dX0_way_2 : decode cX0_way 2 = .ok (.invokevirtual 94, 3) := by decide +kernel
theorem dX0_way_5 : decode cX0_way 5 = .ok (.ifCond .eq 11, 3) := by decide +kernel
theorem dX0_way_8 : decode cX0_way 8 = .ok (.aload_n 0, 1) := by decide +kernel
theorem dX0_way_9 : decode cX0_way 9 = .ok (.iload_n 2, 1) := by decide +kernel
theorem dX0_way_10 : decode cX0_way 10 = .ok (.invokevirtual 94, 3) := by decide +kernel
theorem dX0_way_13 : decode cX0_way 13 = .ok (.ifCond .ne 7, 3) := by decide +kernel
theorem dX0_way_16 : decode cX0_way 16 = .ok (.ldc2_w 97, 3) := by decide +kernel
theorem dX0_way_19 : decode cX0_way 19 = .ok (.lreturn, 1) := by decide +kernel
theorem dX0_way_20 : decode cX0_way 20 = .ok (.lload_n 3, 1) := by decide +kernel
theorem dX0_way_21 : decode cX0_way 21 = .ok (.lconst 0, 1) := by decide +kernel
theorem dX0_way_22 : decode cX0_way 22 = .ok (.lcmp, 1) := by decide +kernel
theorem dX0_way_23 : decode cX0_way 23 = .ok (.ifCond .lt 11, 3) := by decide +kernel
theorem dX0_way_26 : decode cX0_way 26 = .ok (.lload_n 3, 1) := by decide +kernel
theorem dX0_way_27 : decode cX0_way 27 = .ok (.ldc2_w 99, 3) := by decide +kernel
theorem dX0_way_30 : decode cX0_way 30 = .ok (.lcmp, 1) := by decide +kernel
theorem dX0_way_31 : decode cX0_way 31 = .ok (.ifCond .le 7, 3) := by decide +kernel
theorem dX0_way_34 : decode cX0_way 34 = .ok (.ldc2_w 101, 3) := by decide +kernel
theorem dX0_way_37 : decode cX0_way 37 = .ok (.lreturn, 1) := by decide +kernel
theorem dX0_way_38 : decode cX0_way 38 = .ok (.aload_n 0, 1) := by decide +kernel
theorem dX0_way_39 : decode cX0_way 39 = .ok (.iload_n 1, 1) := by decide +kernel
theorem dX0_way_40 : decode cX0_way 40 = .ok (.iload_n 2, 1) := by decide +kernel
theorem dX0_way_41 : decode cX0_way 41 = .ok (.lload_n 3, 1) := by decide +kernel
theorem dX0_way_42 : decode cX0_way 42 = .ok (.invokevirtual 103, 3) := by decide +kernel
theorem dX0_way_45 : decode cX0_way 45 = .ok (.lstore 5, 2) := by decide +kernel
theorem dX0_way_47 : decode cX0_way 47 = .ok (.aload_n 0, 1) := by decide +kernel
theorem dX0_way_48 : decode cX0_way 48 = .ok (.iconst 0, 1) := by decide +kernel
theorem dX0_way_49 : decode cX0_way 49 = .ok (.putfield 107, 3) := by decide +kernel
theorem dX0_way_52 : decode cX0_way 52 = .ok (.lload 5, 2) := by decide +kernel
theorem dX0_way_54 : decode cX0_way 54 = .ok (.ldc2_w 110, 3) := by decide +kernel
theorem dX0_way_57 : decode cX0_way 57 = .ok (.lcmp, 1) := by decide +kernel
theorem dX0_way_58 : decode cX0_way 58 = .ok (.ifCond .eq 9, 3) := by decide +kernel
theorem dX0_way_61 : decode cX0_way 61 = .ok (.aload_n 0, 1) := by decide +kernel
theorem dX0_way_62 : decode cX0_way 62 = .ok (.iload_n 1, 1) := by decide +kernel
theorem dX0_way_63 : decode cX0_way 63 = .ok (.iload_n 2, 1) := by decide +kernel
theorem dX0_way_64 : decode cX0_way 64 = .ok (.invokevirtual 112, 3) := by decide +kernel
theorem dX0_way_67 : decode cX0_way 67 = .ok (.lload 5, 2) := by decide +kernel
theorem dX0_way_69 : decode cX0_way 69 = .ok (.lreturn, 1) := by decide +kernel
theorem dX0_step_0 : decode cX0_step 0 = .ok (.iload_n 1, 1) := by decide +kernel
theorem dX0_step_1 : decode cX0_step 1 = .ok (.ifCond .lt 11, 3) := by decide +kernel
theorem dX0_step_4 : decode cX0_step 4 = .ok (.iload_n 1, 1) := by decide +kernel
theorem dX0_step_5 : decode cX0_step 5 = .ok (.aload_n 0, 1) := by decide +kernel
theorem dX0_step_6 : decode cX0_step 6 = .ok (.getfield 107, 3) := by decide +kernel
theorem dX0_step_9 : decode cX0_step 9 = .ok (.if_icmp .lt 5, 3) := by decide +kernel
theorem dX0_step_12 : decode cX0_step 12 = .ok (.iconst (-1), 1) := by decide +kernel
theorem dX0_step_13 : decode cX0_step 13 = .ok (.ireturn, 1) := by decide +kernel
theorem dX0_step_14 : decode cX0_step 14 = .ok (.aload_n 0, 1) := by decide +kernel
theorem dX0_step_15 : decode cX0_step 15 = .ok (.getfield 51, 3) := by decide +kernel
theorem dX0_step_18 : decode cX0_step 18 = .ok (.aload_n 0, 1) := by decide +kernel
theorem dX0_step_19 : decode cX0_step 19 = .ok (.getfield 107, 3) := by decide +kernel
theorem dX0_step_22 : decode cX0_step 22 = .ok (.iconst 1, 1) := by decide +kernel
theorem dX0_step_23 : decode cX0_step 23 = .ok (.isub, 1) := by decide +kernel
theorem dX0_step_24 : decode cX0_step 24 = .ok (.iload_n 1, 1) := by decide +kernel
theorem dX0_step_25 : decode cX0_step 25 = .ok (.isub, 1) := by decide +kernel
theorem dX0_step_26 : decode cX0_step 26 = .ok (.iaload, 1) := by decide +kernel
theorem dX0_step_27 : decode cX0_step 27 = .ok (.ireturn, 1) := by decide +kernel
set_option maxRecDepth 20000 in
theorem ggX0_gate_X0_isPiece : GoodIn wsX0_gate wsX0_isPiece := goodIn_r _ [8, 9, 10, 11, 12, 13, 14, 15, 16, 17, 18, 19, 20, 21, 22, 23, 24, 25, 26, 27] (by decide +kernel) (by decide +kernel)
set_option maxRecDepth 20000 in
theorem gX0_gate_X0_isPiece : GoodIn wsX0_gate (wsV RX0 73 RX0 yX0_isPiece wsX0_isPiece) := goodIn_app (goodIn_of _ (by decide +kernel)) ggX0_gate_X0_isPiece
theorem dX0_gate_0 : decode cX0_gate 0 = .ok (.aload_n 0, 1) := by decide +kernel
theorem dX0_gate_1 : decode cX0_gate 1 = .ok (.iload_n 1, 1) := by decide +kernel
theorem dX0_gate_2 : decode cX0_gate 2 = .ok (.invokevirtual 73, 3) := by decide +kernel
theorem dX0_gate_5 : decode cX0_gate 5 = .ok (.ifCond .ne 6, 3) := by decide +kernel
theorem dX0_gate_8 : decode cX0_gate 8 = .ok (.bipush (-11), 2) := by decide +kernel
theorem dX0_gate_10 : decode cX0_gate 10 = .ok (.ireturn, 1) := by decide +kernel
theorem dX0_gate_11 : decode cX0_gate 11 = .ok (.lload_n 2, 1) := by decide +kernel
theorem dX0_gate_12 : decode cX0_gate 12 = .ok (.lconst 0, 1) := by decide +kernel
theorem dX0_gate_13 : decode cX0_gate 13 = .ok (.lcmp, 1) := by decide +kernel
theorem dX0_gate_14 : decode cX0_gate 14 = .ok (.ifCond .ne 14, 3) := by decide +kernel
theorem dX0_gate_17 : decode cX0_gate 17 = .ok (.lload 4, 2) := by decide +kernel
theorem dX0_gate_19 : decode cX0_gate 19 = .ok (.lconst 0, 1) := by decide +kernel
theorem dX0_gate_20 : decode cX0_gate 20 = .ok (.lcmp, 1) := by decide +kernel
theorem dX0_gate_21 : decode cX0_gate 21 = .ok (.ifCond .ne 7, 3) := by decide +kernel
theorem dX0_gate_24 : decode cX0_gate 24 = .ok (.iconst 1, 1) := by decide +kernel
theorem dX0_gate_25 : decode cX0_gate 25 = .ok (.goto 4, 3) := by decide +kernel
theorem dX0_gate_28 : decode cX0_gate 28 = .ok (.iconst 0, 1) := by decide +kernel
theorem dX0_gate_29 : decode cX0_gate 29 = .ok (.istore 6, 2) := by decide +kernel
theorem dX0_gate_31 : decode cX0_gate 31 = .ok (.iload 6, 2) := by decide +kernel
theorem dX0_gate_33 : decode cX0_gate 33 = .ok (.ifCond .ne 28, 3) := by decide +kernel
theorem dX0_gate_36 : decode cX0_gate 36 = .ok (.lload_n 2, 1) := by decide +kernel
theorem dX0_gate_37 : decode cX0_gate 37 = .ok (.lconst 0, 1) := by decide +kernel
theorem dX0_gate_38 : decode cX0_gate 38 = .ok (.lcmp, 1) := by decide +kernel
theorem dX0_gate_39 : decode cX0_gate 39 = .ok (.ifCond .lt 19, 3) := by decide +kernel
theorem dX0_gate_42 : decode cX0_gate 42 = .ok (.lload_n 2, 1) := by decide +kernel
theorem dX0_gate_43 : decode cX0_gate 43 = .ok (.lload 4, 2) := by decide +kernel
theorem dX0_gate_45 : decode cX0_gate 45 = .ok (.lcmp, 1) := by decide +kernel
theorem dX0_gate_46 : decode cX0_gate 46 = .ok (.ifCond .ge 12, 3) := by decide +kernel
theorem dX0_gate_49 : decode cX0_gate 49 = .ok (.lload 4, 2) := by decide +kernel
theorem dX0_gate_51 : decode cX0_gate 51 = .ok (.ldc2_w 116, 3) := by decide +kernel
theorem dX0_gate_54 : decode cX0_gate 54 = .ok (.lcmp, 1) := by decide +kernel
theorem dX0_gate_55 : decode cX0_gate 55 = .ok (.ifCond .le 6, 3) := by decide +kernel
theorem dX0_gate_58 : decode cX0_gate 58 = .ok (.bipush (-12), 2) := by decide +kernel
theorem dX0_gate_60 : decode cX0_gate 60 = .ok (.ireturn, 1) := by decide +kernel
theorem dX0_gate_61 : decode cX0_gate 61 = .ok (.aload_n 0, 1) := by decide +kernel
theorem dX0_gate_62 : decode cX0_gate 62 = .ok (.getfield 23, 3) := by decide +kernel
theorem dX0_gate_65 : decode cX0_gate 65 = .ok (.iload_n 1, 1) := by decide +kernel
theorem dX0_gate_66 : decode cX0_gate 66 = .ok (.lload_n 2, 1) := by decide +kernel
theorem dX0_gate_67 : decode cX0_gate 67 = .ok (.lastore, 1) := by decide +kernel
theorem dX0_gate_68 : decode cX0_gate 68 = .ok (.aload_n 0, 1) := by decide +kernel
theorem dX0_gate_69 : decode cX0_gate 69 = .ok (.getfield 26, 3) := by decide +kernel
theorem dX0_gate_72 : decode cX0_gate 72 = .ok (.iload_n 1, 1) := by decide +kernel
theorem dX0_gate_73 : decode cX0_gate 73 = .ok (.lload 4, 2) := by decide +kernel
theorem dX0_gate_75 : decode cX0_gate 75 = .ok (.lastore, 1) := by decide +kernel
theorem dX0_gate_76 : decode cX0_gate 76 = .ok (.iload 6, 2) := by decide +kernel
theorem dX0_gate_78 : decode cX0_gate 78 = .ok (.ifCond .eq 7, 3) := by decide +kernel
theorem dX0_gate_81 : decode cX0_gate 81 = .ok (.iconst 0, 1) := by decide +kernel
theorem dX0_gate_82 : decode cX0_gate 82 = .ok (.goto 4, 3) := by decide +kernel
theorem dX0_gate_85 : decode cX0_gate 85 = .ok (.iconst 1, 1) := by decide +kernel
theorem dX0_gate_86 : decode cX0_gate 86 = .ok (.ireturn, 1) := by decide +kernel
set_option maxRecDepth 20000 in
theorem ggX0_change_X0_isPiece : GoodIn wsX0_change wsX0_isPiece := goodIn_r _ [7, 8, 9, 10, 11, 12, 13, 14, 15, 16, 17, 18, 19, 20, 21, 22, 23, 24, 25, 26] (by decide +kernel) (by decide +kernel)
set_option maxRecDepth 20000 in
theorem gX0_change_X0_isPiece : GoodIn wsX0_change (wsV RX0 73 RX0 yX0_isPiece wsX0_isPiece) := goodIn_app (goodIn_of _ (by decide +kernel)) ggX0_change_X0_isPiece
theorem dX0_change_0 : decode cX0_change 0 = .ok (.aload_n 0, 1) := by decide +kernel
theorem dX0_change_1 : decode cX0_change 1 = .ok (.iload_n 1, 1) := by decide +kernel
theorem dX0_change_2 : decode cX0_change 2 = .ok (.invokevirtual 73, 3) := by decide +kernel
theorem dX0_change_5 : decode cX0_change 5 = .ok (.ifCond .ne 6, 3) := by decide +kernel
theorem dX0_change_8 : decode cX0_change 8 = .ok (.bipush (-11), 2) := by decide +kernel
theorem dX0_change_10 : decode cX0_change 10 = .ok (.ireturn, 1) := by decide +kernel
theorem dX0_change_11 : decode cX0_change 11 = .ok (.lload_n 2, 1) := by decide +kernel
theorem dX0_change_12 : decode cX0_change 12 = .ok (.lconst 1, 1) := by decide +kernel
theorem dX0_change_13 : decode cX0_change 13 = .ok (.lcmp, 1) := by decide +kernel
theorem dX0_change_14 : decode cX0_change 14 = .ok (.ifCond .lt 11, 3) := by decide +kernel
theorem dX0_change_17 : decode cX0_change 17 = .ok (.lload_n 2, 1) := by decide +kernel
theorem dX0_change_18 : decode cX0_change 18 = .ok (.ldc2_w 60, 3) := by decide +kernel
theorem dX0_change_21 : decode cX0_change 21 = .ok (.lcmp, 1) := by decide +kernel
theorem dX0_change_22 : decode cX0_change 22 = .ok (.ifCond .le 6, 3) := by decide +kernel
theorem dX0_change_25 : decode cX0_change 25 = .ok (.bipush (-12), 2) := by decide +kernel
theorem dX0_change_27 : decode cX0_change 27 = .ok (.ireturn, 1) := by decide +kernel
theorem dX0_change_28 : decode cX0_change 28 = .ok (.aload_n 0, 1) := by decide +kernel
theorem dX0_change_29 : decode cX0_change 29 = .ok (.getfield 20, 3) := by decide +kernel
theorem dX0_change_32 : decode cX0_change 32 = .ok (.iload_n 1, 1) := by decide +kernel
theorem dX0_change_33 : decode cX0_change 33 = .ok (.laload, 1) := by decide +kernel
theorem dX0_change_34 : decode cX0_change 34 = .ok (.l2i, 1) := by decide +kernel
theorem dX0_change_35 : decode cX0_change 35 = .ok (.istore 4, 2) := by decide +kernel
theorem dX0_change_37 : decode cX0_change 37 = .ok (.aload_n 0, 1) := by decide +kernel
theorem dX0_change_38 : decode cX0_change 38 = .ok (.getfield 20, 3) := by decide +kernel
theorem dX0_change_41 : decode cX0_change 41 = .ok (.iload_n 1, 1) := by decide +kernel
theorem dX0_change_42 : decode cX0_change 42 = .ok (.lload_n 2, 1) := by decide +kernel
theorem dX0_change_43 : decode cX0_change 43 = .ok (.lastore, 1) := by decide +kernel
theorem dX0_change_44 : decode cX0_change 44 = .ok (.iload 4, 2) := by decide +kernel
theorem dX0_change_46 : decode cX0_change 46 = .ok (.ireturn, 1) := by decide +kernel
set_option maxRecDepth 20000 in
theorem ggX0_table_X0_isStop : GoodIn wsX0_table wsX0_isStop := goodIn_r _ [6, 7, 88, 89, 90, 91, 92, 93, 94, 95, 96, 97, 98, 99, 100, 101, 102, 103, 104, 105] (by decide +kernel) (by decide +kernel)
set_option maxRecDepth 20000 in
theorem gX0_table_X0_isStop : GoodIn wsX0_table (wsV RX0 94 RX0 yX0_isStop wsX0_isStop) := goodIn_app (goodIn_of _ (by decide +kernel)) ggX0_table_X0_isStop
set_option maxRecDepth 20000 in
theorem ggX0_table_X0_leastArrival : GoodIn wsX0_table wsX0_leastArrival := goodIn_r _ [11, 12, 13, 14, 15, 16, 17, 18, 19, 20, 5, 21, 22, 23, 24, 25, 26, 27, 28, 29, 30, 31, 32, 33, 34, 35, 36, 37, 38, 39, 40, 41, 42, 43, 44, 45, 46, 47, 48, 49, 50, 51, 52, 53, 54, 55, 56, 57, 58, 59, 60, 61, 62, 63, 64, 65, 66, 67, 68, 69, 70, 71, 72, 73, 74, 75, 76, 77, 78, 79, 80, 81, 82, 83, 84, 85, 86, 87, 88, 89, 90, 91, 92, 93, 94, 95, 96, 97, 98, 99, 100, 101, 102, 103, 104, 105] (by decide +kernel) (by decide +kernel)
set_option maxRecDepth 20000 in
theorem gX0_table_X0_leastArrival : GoodIn wsX0_table (wsV RX0 103 RX0 yX0_leastArrival wsX0_leastArrival) := goodIn_app (goodIn_of _ (by decide +kernel)) ggX0_table_X0_leastArrival
theorem dX0_table_0 : decode cX0_table 0 = .ok (.aload_n 0, 1) := by decide +kernel
theorem dX0_table_1 : decode cX0_table 1 = .ok (.iload_n 1, 1) := by decide +kernel
theorem dX0_table_2 : decode cX0_table 2 = .ok (.invokevirtual 94, 3) := by decide +kernel
theorem dX0_table_5 : decode cX0_table 5 = .ok (.ifCond .eq 11, 3) := by decide +kernel
theorem dX0_table_8 : decode cX0_table 8 = .ok (.aload_n 0, 1) := by decide +kernel
theorem dX0_table_9 : decode cX0_table 9 = .ok (.iload_n 2, 1) := by decide +kernel
theorem dX0_table_10 : decode cX0_table 10 = .ok (.invokevirtual 94, 3) := by decide +kernel
theorem dX0_table_13 : decode cX0_table 13 = .ok (.ifCond .ne 7, 3) := by decide +kernel
theorem dX0_table_16 : decode cX0_table 16 = .ok (.ldc2_w 97, 3) := by decide +kernel
theorem dX0_table_19 : decode cX0_table 19 = .ok (.lreturn, 1) := by decide +kernel
theorem dX0_table_20 : decode cX0_table 20 = .ok (.aload_n 0, 1) := by decide +kernel
theorem dX0_table_21 : decode cX0_table 21 = .ok (.iload_n 1, 1) := by decide +kernel
theorem dX0_table_22 : decode cX0_table 22 = .ok (.iload_n 2, 1) := by decide +kernel
theorem dX0_table_23 : decode cX0_table 23 = .ok (.lconst 0, 1) := by decide +kernel
theorem dX0_table_24 : decode cX0_table 24 = .ok (.invokevirtual 103, 3) := by decide +kernel
theorem dX0_table_27 : decode cX0_table 27 = .ok (.lreturn, 1) := by decide +kernel
set_option maxRecDepth 20000 in
theorem ggX0_piece2_X0_isPiece : GoodIn wsX0_piece2 wsX0_isPiece := goodIn_r _ [10, 11, 18, 19, 20, 21, 22, 23, 24, 25, 26, 27, 28, 29, 30, 31, 32, 33, 34, 35] (by decide +kernel) (by decide +kernel)
set_option maxRecDepth 20000 in
theorem gX0_piece2_X0_isPiece : GoodIn wsX0_piece2 (wsV RX0 73 RX0 yX0_isPiece wsX0_isPiece) := goodIn_app (goodIn_of _ (by decide +kernel)) ggX0_piece2_X0_isPiece
theorem dX0_piece2_0 : decode cX0_piece2 0 = .ok (.aload_n 0, 1) := by decide +kernel
theorem dX0_piece2_1 : decode cX0_piece2 1 = .ok (.iload_n 1, 1) := by decide +kernel
theorem dX0_piece2_2 : decode cX0_piece2 2 = .ok (.invokevirtual 73, 3) := by decide +kernel
theorem dX0_piece2_5 : decode cX0_piece2 5 = .ok (.ifCond .ne 13, 3) := by decide +kernel
theorem dX0_piece2_8 : decode cX0_piece2 8 = .ok (.new 118, 3) := by decide +kernel
theorem dX0_piece2_11 : decode cX0_piece2 11 = .ok (.dup, 1) := by decide +kernel
theorem dX0_piece2_12 : decode cX0_piece2 12 = .ok (.ldc 120, 2) := by decide +kernel
theorem dX0_piece2_14 : decode cX0_piece2 14 = .ok (.invokespecial 122, 3) := by decide +kernel
theorem dX0_piece2_17 : decode cX0_piece2 17 = .ok (.athrow, 1) := by decide +kernel
theorem dX0_piece2_18 : decode cX0_piece2 18 = .ok (.bipush 60, 2) := by decide +kernel
theorem dX0_piece2_20 : decode cX0_piece2 20 = .ok (.aload_n 0, 1) := by decide +kernel
theorem dX0_piece2_21 : decode cX0_piece2 21 = .ok (.getfield 9, 3) := by decide +kernel
theorem dX0_piece2_24 : decode cX0_piece2 24 = .ok (.iload_n 1, 1) := by decide +kernel
theorem dX0_piece2_25 : decode cX0_piece2 25 = .ok (.iaload, 1) := by decide +kernel
theorem dX0_piece2_26 : decode cX0_piece2 26 = .ok (.imul, 1) := by decide +kernel
theorem dX0_piece2_27 : decode cX0_piece2 27 = .ok (.aload_n 0, 1) := by decide +kernel
theorem dX0_piece2_28 : decode cX0_piece2 28 = .ok (.getfield 13, 3) := by decide +kernel
theorem dX0_piece2_31 : decode cX0_piece2 31 = .ok (.iload_n 1, 1) := by decide +kernel
theorem dX0_piece2_32 : decode cX0_piece2 32 = .ok (.iaload, 1) := by decide +kernel
theorem dX0_piece2_33 : decode cX0_piece2 33 = .ok (.iadd, 1) := by decide +kernel
theorem dX0_piece2_34 : decode cX0_piece2 34 = .ok (.ireturn, 1) := by decide +kernel
set_option maxRecDepth 20000 in
theorem ggX0_service_X0_isPiece : GoodIn wsX0_service wsX0_isPiece := goodIn_r _ [5, 6, 40, 41, 42, 43, 44, 45, 46, 47, 48, 49, 50, 51, 52, 53, 54, 55, 56, 57] (by decide +kernel) (by decide +kernel)
set_option maxRecDepth 20000 in
theorem gX0_service_X0_isPiece : GoodIn wsX0_service (wsV RX0 73 RX0 yX0_isPiece wsX0_isPiece) := goodIn_app (goodIn_of _ (by decide +kernel)) ggX0_service_X0_isPiece
set_option maxRecDepth 20000 in
theorem ggX0_service_X0_hasStopAtSide : GoodIn wsX0_service wsX0_hasStopAtSide := goodIn_r _ [10, 11, 12, 13, 40, 41, 42, 43, 44, 45, 46, 47, 48, 49, 50, 51, 52, 53, 54, 55, 56, 57] (by decide +kernel) (by decide +kernel)
set_option maxRecDepth 20000 in
theorem gX0_service_X0_hasStopAtSide : GoodIn wsX0_service (wsV RX0 123 RX0 yX0_hasStopAtSide wsX0_hasStopAtSide) := goodIn_app (goodIn_of _ (by decide +kernel)) ggX0_service_X0_hasStopAtSide
set_option maxRecDepth 20000 in
theorem ggX0_service_X0_hasGate : GoodIn wsX0_service wsX0_hasGate := goodIn_r _ [17, 18, 40, 41, 42, 43, 44, 45, 46, 47, 48, 49, 50, 51, 52, 53, 54, 55, 56, 57] (by decide +kernel) (by decide +kernel)
set_option maxRecDepth 20000 in
theorem gX0_service_X0_hasGate : GoodIn wsX0_service (wsV RX0 126 RX0 yX0_hasGate wsX0_hasGate) := goodIn_app (goodIn_of _ (by decide +kernel)) ggX0_service_X0_hasGate
set_option maxRecDepth 20000 in
theorem ggX0_service_X0_mayGoOnFrom : GoodIn wsX0_service wsX0_mayGoOnFrom := goodIn_r _ [22, 6, 23, 24, 25, 4, 26, 27, 28, 29, 30, 31, 32, 33, 34, 35, 36, 37, 38, 39, 40, 41, 42, 43, 44, 45, 46, 47, 48, 49, 50, 51, 52, 53, 54, 55, 56, 57] (by decide +kernel) (by decide +kernel)
set_option maxRecDepth 20000 in
theorem gX0_service_X0_mayGoOnFrom : GoodIn wsX0_service (wsV RX0 129 RX0 yX0_mayGoOnFrom wsX0_mayGoOnFrom) := goodIn_app (goodIn_of _ (by decide +kernel)) ggX0_service_X0_mayGoOnFrom
theorem dX0_service_0 : decode cX0_service 0 = .ok (.aload_n 0, 1) := by decide +kernel
theorem dX0_service_1 : decode cX0_service 1 = .ok (.iload_n 1, 1) := by decide +kernel
theorem dX0_service_2 : decode cX0_service 2 = .ok (.invokevirtual 73, 3) := by decide +kernel
theorem dX0_service_5 : decode cX0_service 5 = .ok (.ifCond .ne 5, 3) := by decide +kernel
theorem dX0_service_8 : decode cX0_service 8 = .ok (.iconst 0, 1) := by decide +kernel
theorem dX0_service_9 : decode cX0_service 9 = .ok (.ireturn, 1) := by decide +kernel
theorem dX0_service_10 : decode cX0_service 10 = .ok (.iload_n 2, 1) := by decide +kernel
theorem dX0_service_11 : decode cX0_service 11 = .ok (.tableswitch 48 0 3 #[29, 29, 36, 42], 29) := by decide +kernel
theorem dX0_service_40 : decode cX0_service 40 = .ok (.aload_n 0, 1) := by decide +kernel
theorem dX0_service_41 : decode cX0_service 41 = .ok (.iload_n 1, 1) := by decide +kernel
theorem dX0_service_42 : decode cX0_service 42 = .ok (.iload_n 2, 1) := by decide +kernel
theorem dX0_service_43 : decode cX0_service 43 = .ok (.invokevirtual 123, 3) := by decide +kernel
theorem dX0_service_46 : decode cX0_service 46 = .ok (.ireturn, 1) := by decide +kernel
theorem dX0_service_47 : decode cX0_service 47 = .ok (.aload_n 0, 1) := by decide +kernel
theorem dX0_service_48 : decode cX0_service 48 = .ok (.iload_n 1, 1) := by decide +kernel
theorem dX0_service_49 : decode cX0_service 49 = .ok (.invokevirtual 126, 3) := by decide +kernel
theorem dX0_service_52 : decode cX0_service 52 = .ok (.ireturn, 1) := by decide +kernel
theorem dX0_service_53 : decode cX0_service 53 = .ok (.aload_n 0, 1) := by decide +kernel
theorem dX0_service_54 : decode cX0_service 54 = .ok (.iload_n 1, 1) := by decide +kernel
theorem dX0_service_55 : decode cX0_service 55 = .ok (.invokevirtual 129, 3) := by decide +kernel
theorem dX0_service_58 : decode cX0_service 58 = .ok (.ireturn, 1) := by decide +kernel
theorem dX0_service_59 : decode cX0_service 59 = .ok (.iconst 0, 1) := by decide +kernel
theorem dX0_service_60 : decode cX0_service 60 = .ok (.ireturn, 1) := by decide +kernel
theorem dX0_isCrossing_0 : decode cX0_isCrossing 0 = .ok (.iload_n 0, 1) := by decide +kernel
theorem dX0_isCrossing_1 : decode cX0_isCrossing 1 = .ok (.ifCond .lt 13, 3) := by decide +kernel
theorem dX0_isCrossing_4 : decode cX0_isCrossing 4 = .ok (.iload_n 0, 1) := by decide +kernel
theorem dX0_isCrossing_5 : decode cX0_isCrossing 5 = .ok (.bipush 60, 2) := by decide +kernel
theorem dX0_isCrossing_7 : decode cX0_isCrossing 7 = .ok (.if_icmp .ge 7, 3) := by decide +kernel
theorem dX0_isCrossing_10 : decode cX0_isCrossing 10 = .ok (.iconst 1, 1) := by decide +kernel
theorem dX0_isCrossing_11 : decode cX0_isCrossing 11 = .ok (.goto 4, 3) := by decide +kernel
theorem dX0_isCrossing_14 : decode cX0_isCrossing 14 = .ok (.iconst 0, 1) := by decide +kernel
theorem dX0_isCrossing_15 : decode cX0_isCrossing 15 = .ok (.ireturn, 1) := by decide +kernel
theorem dX0_isPiece_0 : decode cX0_isPiece 0 = .ok (.iload_n 1, 1) := by decide +kernel
theorem dX0_isPiece_1 : decode cX0_isPiece 1 = .ok (.ifCond .lt 15, 3) := by decide +kernel
theorem dX0_isPiece_4 : decode cX0_isPiece 4 = .ok (.iload_n 1, 1) := by decide +kernel
theorem dX0_isPiece_5 : decode cX0_isPiece 5 = .ok (.aload_n 0, 1) := by decide +kernel
theorem dX0_isPiece_6 : decode cX0_isPiece 6 = .ok (.getfield 62, 3) := by decide +kernel
theorem dX0_isPiece_9 : decode cX0_isPiece 9 = .ok (.if_icmp .ge 7, 3) := by decide +kernel
theorem dX0_isPiece_12 : decode cX0_isPiece 12 = .ok (.iconst 1, 1) := by decide +kernel
theorem dX0_isPiece_13 : decode cX0_isPiece 13 = .ok (.goto 4, 3) := by decide +kernel
theorem dX0_isPiece_16 : decode cX0_isPiece 16 = .ok (.iconst 0, 1) := by decide +kernel
theorem dX0_isPiece_17 : decode cX0_isPiece 17 = .ok (.ireturn, 1) := by decide +kernel
theorem dX0_isStop_0 : decode cX0_isStop 0 = .ok (.iload_n 1, 1) := by decide +kernel
theorem dX0_isStop_1 : decode cX0_isStop 1 = .ok (.ifCond .lt 15, 3) := by decide +kernel
theorem dX0_isStop_4 : decode cX0_isStop 4 = .ok (.iload_n 1, 1) := by decide +kernel
theorem dX0_isStop_5 : decode cX0_isStop 5 = .ok (.aload_n 0, 1) := by decide +kernel
theorem dX0_isStop_6 : decode cX0_isStop 6 = .ok (.getfield 91, 3) := by decide +kernel
theorem dX0_isStop_9 : decode cX0_isStop 9 = .ok (.if_icmp .ge 7, 3) := by decide +kernel
theorem dX0_isStop_12 : decode cX0_isStop 12 = .ok (.iconst 1, 1) := by decide +kernel
theorem dX0_isStop_13 : decode cX0_isStop 13 = .ok (.goto 4, 3) := by decide +kernel
theorem dX0_isStop_16 : decode cX0_isStop 16 = .ok (.iconst 0, 1) := by decide +kernel
theorem dX0_isStop_17 : decode cX0_isStop 17 = .ok (.ireturn, 1) := by decide +kernel
theorem dX0_wordOfTurn_0 : decode cX0_wordOfTurn 0 = .ok (.iload_n 0, 1) := by decide +kernel
theorem dX0_wordOfTurn_1 : decode cX0_wordOfTurn 1 = .ok (.iconst 2, 1) := by decide +kernel
theorem dX0_wordOfTurn_2 : decode cX0_wordOfTurn 2 = .ok (.imul, 1) := by decide +kernel
theorem dX0_wordOfTurn_3 : decode cX0_wordOfTurn 3 = .ok (.iload_n 1, 1) := by decide +kernel
theorem dX0_wordOfTurn_4 : decode cX0_wordOfTurn 4 = .ok (.bipush 64, 2) := by decide +kernel
theorem dX0_wordOfTurn_6 : decode cX0_wordOfTurn 6 = .ok (.idiv, 1) := by decide +kernel
theorem dX0_wordOfTurn_7 : decode cX0_wordOfTurn 7 = .ok (.iadd, 1) := by decide +kernel
theorem dX0_wordOfTurn_8 : decode cX0_wordOfTurn 8 = .ok (.ireturn, 1) := by decide +kernel
theorem dX0_bitOfTurn_0 : decode cX0_bitOfTurn 0 = .ok (.lconst 1, 1) := by decide +kernel
theorem dX0_bitOfTurn_1 : decode cX0_bitOfTurn 1 = .ok (.iload_n 0, 1) := by decide +kernel
theorem dX0_bitOfTurn_2 : decode cX0_bitOfTurn 2 = .ok (.bipush 64, 2) := by decide +kernel
theorem dX0_bitOfTurn_4 : decode cX0_bitOfTurn 4 = .ok (.irem, 1) := by decide +kernel
theorem dX0_bitOfTurn_5 : decode cX0_bitOfTurn 5 = .ok (.lshl, 1) := by decide +kernel
