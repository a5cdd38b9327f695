theorem dX1_init_0 : decode cX1_init 0 = .ok (.aload_n 0, 1) := by decide +kernel
theorem dX1_init_1 : decode cX1_init 1 = .ok (.invokespecial 1, 3) := by decide +kernel
theorem dX1_init_4 : decode cX1_init 4 = .ok (.aload_n 0, 1) := by decide +kernel
theorem dX1_init_5 : decode cX1_init 5 = .ok (.bipush 120, 2) := by decide +kernel
theorem dX1_init_7 : decode cX1_init 7 = .ok (.newarray .int, 2) := by decide +kernel
theorem dX1_init_9 : decode cX1_init 9 = .ok (.putfield 7, 3) := by decide +kernel
theorem dX1_init_12 : decode cX1_init 12 = .ok (.aload_n 0, 1) := by decide +kernel
theorem dX1_init_13 : decode cX1_init 13 = .ok (.bipush 120, 2) := by decide +kernel
theorem dX1_init_15 : decode cX1_init 15 = .ok (.newarray .int, 2) := by decide +kernel
theorem dX1_init_17 : decode cX1_init 17 = .ok (.putfield 13, 3) := by decide +kernel
theorem dX1_init_20 : decode cX1_init 20 = .ok (.aload_n 0, 1) := by decide +kernel
theorem dX1_init_21 : decode cX1_init 21 = .ok (.bipush 120, 2) := by decide +kernel
theorem dX1_init_23 : decode cX1_init 23 = .ok (.newarray .long, 2) := by decide +kernel
theorem dX1_init_25 : decode cX1_init 25 = .ok (.putfield 16, 3) := by decide +kernel
theorem dX1_init_28 : decode cX1_init 28 = .ok (.aload_n 0, 1) := by decide +kernel
theorem dX1_init_29 : decode cX1_init 29 = .ok (.bipush 120, 2) := by decide +kernel
theorem dX1_init_31 : decode cX1_init 31 = .ok (.newarray .long, 2) := by decide +kernel
theorem dX1_init_33 : decode cX1_init 33 = .ok (.putfield 20, 3) := by decide +kernel
theorem dX1_init_36 : decode cX1_init 36 = .ok (.aload_n 0, 1) := by decide +kernel
theorem dX1_init_37 : decode cX1_init 37 = .ok (.bipush 120, 2) := by decide +kernel
theorem dX1_init_39 : decode cX1_init 39 = .ok (.newarray .long, 2) := by decide +kernel
theorem dX1_init_41 : decode cX1_init 41 = .ok (.putfield 23, 3) := by decide +kernel
theorem dX1_init_44 : decode cX1_init 44 = .ok (.aload_n 0, 1) := by decide +kernel
theorem dX1_init_45 : decode cX1_init 45 = .ok (.bipush 120, 2) := by decide +kernel
theorem dX1_init_47 : decode cX1_init 47 = .ok (.newarray .long, 2) := by decide +kernel
theorem dX1_init_49 : decode cX1_init 49 = .ok (.putfield 26, 3) := by decide +kernel
theorem dX1_init_52 : decode cX1_init 52 = .ok (.aload_n 0, 1) := by decide +kernel
theorem dX1_init_53 : decode cX1_init 53 = .ok (.sipush 14400, 3) := by decide +kernel
theorem dX1_init_56 : decode cX1_init 56 = .ok (.newarray .boolean, 2) := by decide +kernel
theorem dX1_init_58 : decode cX1_init 58 = .ok (.putfield 29, 3) := by decide +kernel
theorem dX1_init_61 : decode cX1_init 61 = .ok (.aload_n 0, 1) := by decide +kernel
theorem dX1_init_62 : decode cX1_init 62 = .ok (.bipush 100, 2) := by decide +kernel
theorem dX1_init_64 : decode cX1_init 64 = .ok (.newarray .int, 2) := by decide +kernel
theorem dX1_init_66 : decode cX1_init 66 = .ok (.putfield 33, 3) := by decide +kernel
theorem dX1_init_69 : decode cX1_init 69 = .ok (.aload_n 0, 1) := by decide +kernel
theorem dX1_init_70 : decode cX1_init 70 = .ok (.bipush 100, 2) := by decide +kernel
theorem dX1_init_72 : decode cX1_init 72 = .ok (.newarray .int, 2) := by decide +kernel
theorem dX1_init_74 : decode cX1_init 74 = .ok (.putfield 36, 3) := by decide +kernel
theorem dX1_init_77 : decode cX1_init 77 = .ok (.aload_n 0, 1) := by decide +kernel
theorem dX1_init_78 : decode cX1_init 78 = .ok (.bipush 100, 2) := by decide +kernel
theorem dX1_init_80 : decode cX1_init 80 = .ok (.newarray .long, 2) := by decide +kernel
theorem dX1_init_82 : decode cX1_init 82 = .ok (.putfield 39, 3) := by decide +kernel
theorem dX1_init_85 : decode cX1_init 85 = .ok (.aload_n 0, 1) := by decide +kernel
theorem dX1_init_86 : decode cX1_init 86 = .ok (.bipush 120, 2) := by decide +kernel
theorem dX1_init_88 : decode cX1_init 88 = .ok (.newarray .long, 2) := by decide +kernel
theorem dX1_init_90 : decode cX1_init 90 = .ok (.putfield 42, 3) := by decide +kernel
theorem dX1_init_93 : decode cX1_init 93 = .ok (.aload_n 0, 1) := by decide +kernel
theorem dX1_init_94 : decode cX1_init 94 = .ok (.bipush 120, 2) := by decide +kernel
theorem dX1_init_96 : decode cX1_init 96 = .ok (.newarray .long, 2) := by decide +kernel
theorem dX1_init_98 : decode cX1_init 98 = .ok (.putfield 45, 3) := by decide +kernel
theorem dX1_init_101 : decode cX1_init 101 = .ok (.aload_n 0, 1) := by decide +kernel
theorem dX1_init_102 : decode cX1_init 102 = .ok (.sipush 200, 3) := by decide +kernel
theorem dX1_init_105 : decode cX1_init 105 = .ok (.newarray .int, 2) := by decide +kernel
theorem dX1_init_107 : decode cX1_init 107 = .ok (.putfield 48, 3) := by decide +kernel
theorem dX1_init_110 : decode cX1_init 110 = .ok (.return_, 1) := by decide +kernel
theorem dX1_thrown_0 : decode cX1_thrown 0 = .ok (.aload_n 0, 1) := by decide +kernel
theorem dX1_thrown_1 : decode cX1_thrown 1 = .ok (.getfield 51, 3) := by decide +kernel
theorem dX1_thrown_4 : decode cX1_thrown 4 = .ok (.ireturn, 1) := by decide +kernel
theorem dX1_in_0 : decode cX1_in 0 = .ok (.lload_n 0, 1) := by decide +kernel
theorem dX1_in_1 : decode cX1_in 1 = .ok (.lload_n 2, 1) := by decide +kernel
theorem dX1_in_2 : decode cX1_in 2 = .ok (.lcmp, 1) := by decide +kernel
theorem dX1_in_3 : decode cX1_in 3 = .ok (.ifCond .lt 14, 3) := by decide +kernel
theorem dX1_in_6 : decode cX1_in 6 = .ok (.lload_n 0, 1) := by decide +kernel
theorem dX1_in_7 : decode cX1_in 7 = .ok (.lload 4, 2) := by decide +kernel
theorem dX1_in_9 : decode cX1_in 9 = .ok (.lcmp, 1) := by decide +kernel
theorem dX1_in_10 : decode cX1_in 10 = .ok (.ifCond .gt 7, 3) := by decide +kernel
theorem dX1_in_13 : decode cX1_in 13 = .ok (.iconst 1, 1) := by decide +kernel
theorem dX1_in_14 : decode cX1_in 14 = .ok (.goto 4, 3) := by decide +kernel
theorem dX1_in_17 : decode cX1_in 17 = .ok (.iconst 0, 1) := by decide +kernel
theorem dX1_in_18 : decode cX1_in 18 = .ok (.ireturn, 1) := by decide +kernel
theorem dX1_isPiece_0 : decode cX1_isPiece 0 = .ok (.iload_n 1, 1) := by decide +kernel
theorem dX1_isPiece_1 : decode cX1_isPiece 1 = .ok (.ifCond .lt 15, 3) := by decide +kernel
theorem dX1_isPiece_4 : decode cX1_isPiece 4 = .ok (.iload_n 1, 1) := by decide +kernel
theorem dX1_isPiece_5 : decode cX1_isPiece 5 = .ok (.aload_n 0, 1) := by decide +kernel
theorem dX1_isPiece_6 : decode cX1_isPiece 6 = .ok (.getfield 55, 3) := by decide +kernel
theorem dX1_isPiece_9 : decode cX1_isPiece 9 = .ok (.if_icmp .ge 7, 3) := by decide +kernel
theorem dX1_isPiece_12 : decode cX1_isPiece 12 = .ok (.iconst 1, 1) := by decide +kernel
theorem dX1_isPiece_13 : decode cX1_isPiece 13 = .ok (.goto 4, 3) := by decide +kernel
theorem dX1_isPiece_16 : decode cX1_isPiece 16 = .ok (.iconst 0, 1) := by decide +kernel
theorem dX1_isPiece_17 : decode cX1_isPiece 17 = .ok (.ireturn, 1) := by decide +kernel
theorem dX1_isStop_0 : decode cX1_isStop 0 = .ok (.iload_n 1, 1) := by decide +kernel
theorem dX1_isStop_1 : decode cX1_isStop 1 = .ok (.ifCond .lt 15, 3) := by decide +kernel
theorem dX1_isStop_4 : decode cX1_isStop 4 = .ok (.iload_n 1, 1) := by decide +kernel
theorem dX1_isStop_5 : decode cX1_isStop 5 = .ok (.aload_n 0, 1) := by decide +kernel
theorem dX1_isStop_6 : decode cX1_isStop 6 = .ok (.getfield 58, 3) := by decide +kernel
theorem dX1_isStop_9 : decode cX1_isStop 9 = .ok (.if_icmp .ge 7, 3) := by decide +kernel
theorem dX1_isStop_12 : decode cX1_isStop 12 = .ok (.iconst 1, 1) := by decide +kernel
theorem dX1_isStop_13 : decode cX1_isStop 13 = .ok (.goto 4, 3) := by decide +kernel
theorem dX1_isStop_16 : decode cX1_isStop 16 = .ok (.iconst 0, 1) := by decide +kernel
theorem dX1_isStop_17 : decode cX1_isStop 17 = .ok (.ireturn, 1) := by decide +kernel
theorem dX1_seconds_0 : decode cX1_seconds 0 = .ok (.ldc2_w 61, 3) := by decide +kernel
theorem dX1_seconds_3 : decode cX1_seconds 3 = .ok (.lload_n 2, 1) := by decide +kernel
theorem dX1_seconds_4 : decode cX1_seconds 4 = .ok (.lmul, 1) := by decide +kernel
theorem dX1_seconds_5 : decode cX1_seconds 5 = .ok (.lstore 4, 2) := by decide +kernel
theorem dX1_seconds_7 : decode cX1_seconds 7 = .ok (.lload 4, 2) := by decide +kernel
theorem dX1_seconds_9 : decode cX1_seconds 9 = .ok (.aload_n 0, 1) := by decide +kernel
theorem dX1_seconds_10 : decode cX1_seconds 10 = .ok (.getfield 20, 3) := by decide +kernel
theorem dX1_seconds_13 : decode cX1_seconds 13 = .ok (.iload_n 1, 1) := by decide +kernel
theorem dX1_seconds_14 : decode cX1_seconds 14 = .ok (.laload, 1) := by decide +kernel
theorem dX1_seconds_15 : decode cX1_seconds 15 = .ok (.ldiv, 1) := by decide +kernel
theorem dX1_seconds_16 : decode cX1_seconds 16 = .ok (.lstore 6, 2) := by decide +kernel
theorem dX1_seconds_18 : decode cX1_seconds 18 = .ok (.lload 6, 2) := by decide +kernel
theorem dX1_seconds_20 : decode cX1_seconds 20 = .ok (.aload_n 0, 1) := by decide +kernel
theorem dX1_seconds_21 : decode cX1_seconds 21 = .ok (.getfield 20, 3) := by decide +kernel
theorem dX1_seconds_24 : decode cX1_seconds 24 = .ok (.iload_n 1, 1) := by decide +kernel
theorem dX1_seconds_25 : decode cX1_seconds 25 = .ok (.laload, 1) := by decide +kernel
theorem dX1_seconds_26 : decode cX1_seconds 26 = .ok (.lmul, 1) := by decide +kernel
theorem dX1_seconds_27 : decode cX1_seconds 27 = .ok (.lload 4, 2) := by decide +kernel
theorem dX1_seconds_29 : decode cX1_seconds 29 = .ok (.lcmp, 1) := by decide +kernel
theorem dX1_seconds_30 : decode cX1_seconds 30 = .ok (.ifCond .ge 10, 3) := by decide +kernel
theorem dX1_seconds_33 : decode cX1_seconds 33 = .ok (.lload 6, 2) := by decide +kernel
theorem dX1_seconds_35 : decode cX1_seconds 35 = .ok (.lconst 1, 1) := by decide +kernel
theorem dX1_seconds_36 : decode cX1_seconds 36 = .ok (.ladd, 1) := by decide +kernel
theorem dX1_seconds_37 : decode cX1_seconds 37 = .ok (.goto 5, 3) := by decide +kernel
theorem dX1_seconds_40 : decode cX1_seconds 40 = .ok (.lload 6, 2) := by decide +kernel
theorem dX1_seconds_42 : decode cX1_seconds 42 = .ok (.lreturn, 1) := by decide +kernel
set_option maxRecDepth 20000 in
theorem ggX1_piece_X1_in : GoodIn wsX1_piece wsX1_in := goodIn_r _ [13] (by decide +kernel) (by decide +kernel)
set_option maxRecDepth 20000 in
theorem gX1_piece_X1_in : GoodIn wsX1_piece (va_wsS RX1 65 yX1_in wsX1_in) := goodIn_app (goodIn_of _ (by decide +kernel)) ggX1_piece_X1_in
theorem dX1_piece_0 : decode cX1_piece 0 = .ok (.aload_n 0, 1) := by decide +kernel
theorem dX1_piece_1 : decode cX1_piece 1 = .ok (.iconst 0, 1) := by decide +kernel
theorem dX1_piece_2 : decode cX1_piece 2 = .ok (.putfield 51, 3) := by decide +kernel
theorem dX1_piece_5 : decode cX1_piece 5 = .ok (.iload_n 1, 1) := by decide +kernel
theorem dX1_piece_6 : decode cX1_piece 6 = .ok (.i2l, 1) := by decide +kernel
theorem dX1_piece_7 : decode cX1_piece 7 = .ok (.lconst 0, 1) := by decide +kernel
theorem dX1_piece_8 : decode cX1_piece 8 = .ok (.ldc2_w 63, 3) := by decide +kernel
theorem dX1_piece_11 : decode cX1_piece 11 = .ok (.invokestatic 65, 3) := by decide +kernel
theorem dX1_piece_14 : decode cX1_piece 14 = .ok (.ifCond .eq 15, 3) := by decide +kernel
theorem dX1_piece_17 : decode cX1_piece 17 = .ok (.iload_n 2, 1) := by decide +kernel
theorem dX1_piece_18 : decode cX1_piece 18 = .ok (.i2l, 1) := by decide +kernel
theorem dX1_piece_19 : decode cX1_piece 19 = .ok (.lconst 0, 1) := by decide +kernel
theorem dX1_piece_20 : decode cX1_piece 20 = .ok (.ldc2_w 63, 3) := by decide +kernel
theorem dX1_piece_23 : decode cX1_piece 23 = .ok (.invokestatic 65, 3) := by decide +kernel
theorem dX1_piece_26 : decode cX1_piece 26 = .ok (.ifCond .ne 6, 3) := by decide +kernel
theorem dX1_piece_29 : decode cX1_piece 29 = .ok (.bipush (-11), 2) := by decide +kernel
theorem dX1_piece_31 : decode cX1_piece 31 = .ok (.ireturn, 1) := by decide +kernel
theorem dX1_piece_32 : decode cX1_piece 32 = .ok (.lload_n 3, 1) := by decide +kernel
theorem dX1_piece_33 : decode cX1_piece 33 = .ok (.lconst 1, 1) := by decide +kernel
theorem dX1_piece_34 : decode cX1_piece 34 = .ok (.ldc2_w 69, 3) := by decide +kernel
theorem dX1_piece_37 : decode cX1_piece 37 = .ok (.invokestatic 65, 3) := by decide +kernel
theorem dX1_piece_40 : decode cX1_piece 40 = .ok (.ifCond .eq 15, 3) := by decide +kernel
theorem dX1_piece_43 : decode cX1_piece 43 = .ok (.lload 5, 2) := by decide +kernel
theorem dX1_piece_45 : decode cX1_piece 45 = .ok (.lconst 0, 1) := by decide +kernel
theorem dX1_piece_46 : decode cX1_piece 46 = .ok (.ldc2_w 71, 3) := by decide +kernel
theorem dX1_piece_49 : decode cX1_piece 49 = .ok (.invokestatic 65, 3) := by decide +kernel
theorem dX1_piece_52 : decode cX1_piece 52 = .ok (.ifCond .ne 6, 3) := by decide +kernel
theorem dX1_piece_55 : decode cX1_piece 55 = .ok (.bipush (-12), 2) := by decide +kernel
theorem dX1_piece_57 : decode cX1_piece 57 = .ok (.ireturn, 1) := by decide +kernel
theorem dX1_piece_58 : decode cX1_piece 58 = .ok (.aload_n 0, 1) := by decide +kernel
theorem dX1_piece_59 : decode cX1_piece 59 = .ok (.getfield 55, 3) := by decide +kernel
theorem dX1_piece_62 : decode cX1_piece 62 = .ok (.bipush 120, 2) := by decide +kernel
theorem dX1_piece_64 : decode cX1_piece 64 = .ok (.if_icmp .ne 6, 3) := by decide +kernel
theorem dX1_piece_67 : decode cX1_piece 67 = .ok (.bipush (-14), 2) := by decide +kernel
theorem dX1_piece_69 : decode cX1_piece 69 = .ok (.ireturn, 1) := by decide +kernel
theorem dX1_piece_70 : decode cX1_piece 70 = .ok (.aload_n 0, 1) := by decide +kernel
theorem dX1_piece_71 : decode cX1_piece 71 = .ok (.lload 5, 2) := by decide +kernel
theorem dX1_piece_73 : decode cX1_piece 73 = .ok (.lconst 0, 1) := by decide +kernel
theorem dX1_piece_74 : decode cX1_piece 74 = .ok (.lcmp, 1) := by decide +kernel
theorem dX1_piece_75 : decode cX1_piece 75 = .ok (.ifCond .ne 7, 3) := by decide +kernel
theorem dX1_piece_78 : decode cX1_piece 78 = .ok (.iconst 1, 1) := by decide +kernel
theorem dX1_piece_79 : decode cX1_piece 79 = .ok (.goto 4, 3) := by decide +kernel
theorem dX1_piece_82 : decode cX1_piece 82 = .ok (.iconst 0, 1) := by decide +kernel
theorem dX1_piece_83 : decode cX1_piece 83 = .ok (.putfield 51, 3) := by decide +kernel
theorem dX1_piece_86 : decode cX1_piece 86 = .ok (.aload_n 0, 1) := by decide +kernel
theorem dX1_piece_87 : decode cX1_piece 87 = .ok (.getfield 51, 3) := by decide +kernel
theorem dX1_piece_90 : decode cX1_piece 90 = .ok (.ifCond .le 5, 3) := by decide +kernel
theorem dX1_piece_93 : decode cX1_piece 93 = .ok (.iconst 0, 1) := by decide +kernel
theorem dX1_piece_94 : decode cX1_piece 94 = .ok (.ireturn, 1) := by decide +kernel
theorem dX1_piece_95 : decode cX1_piece 95 = .ok (.aload_n 0, 1) := by decide +kernel
theorem dX1_piece_96 : decode cX1_piece 96 = .ok (.getfield 7, 3) := by decide +kernel
theorem dX1_piece_99 : decode cX1_piece 99 = .ok (.aload_n 0, 1) := by decide +kernel
theorem dX1_piece_100 : decode cX1_piece 100 = .ok (.getfield 55, 3) := by decide +kernel
theorem dX1_piece_103 : decode cX1_piece 103 = .ok (.iload_n 1, 1) := by decide +kernel
theorem dX1_piece_104 : decode cX1_piece 104 = .ok (.iastore, 1) := by decide +kernel
theorem dX1_piece_105 : decode cX1_piece 105 = .ok (.aload_n 0, 1) := by decide +kernel
theorem dX1_piece_106 : decode cX1_piece 106 = .ok (.getfield 13, 3) := by decide +kernel
theorem dX1_piece_109 : decode cX1_piece 109 = .ok (.aload_n 0, 1) := by decide +kernel
theorem dX1_piece_110 : decode cX1_piece 110 = .ok (.getfield 55, 3) := by decide +kernel
theorem dX1_piece_113 : decode cX1_piece 113 = .ok (.iload_n 2, 1) := by decide +kernel
theorem dX1_piece_114 : decode cX1_piece 114 = .ok (.iastore, 1) := by decide +kernel
theorem dX1_piece_115 : decode cX1_piece 115 = .ok (.aload_n 0, 1) := by decide +kernel
theorem dX1_piece_116 : decode cX1_piece 116 = .ok (.getfield 16, 3) := by decide +kernel
theorem dX1_piece_119 : decode cX1_piece 119 = .ok (.aload_n 0, 1) := by decide +kernel
theorem dX1_piece_120 : decode cX1_piece 120 = .ok (.getfield 55, 3) := by decide +kernel
theorem dX1_piece_123 : decode cX1_piece 123 = .ok (.lload_n 3, 1) := by decide +kernel
theorem dX1_piece_124 : decode cX1_piece 124 = .ok (.lastore, 1) := by decide +kernel
theorem dX1_piece_125 : decode cX1_piece 125 = .ok (.aload_n 0, 1) := by decide +kernel
theorem dX1_piece_126 : decode cX1_piece 126 = .ok (.getfield 20, 3) := by decide +kernel
theorem dX1_piece_129 : decode cX1_piece 129 = .ok (.aload_n 0, 1) := by decide +kernel
theorem dX1_piece_130 : decode cX1_piece 130 = .ok (.getfield 55, 3) := by decide +kernel
theorem dX1_piece_133 : decode cX1_piece 133 = .ok (.lload 5, 2) := by decide +kernel
theorem dX1_piece_135 : decode cX1_piece 135 = .ok (.lastore, 1) := by decide +kernel
theorem dX1_piece_136 : decode cX1_piece 136 = .ok (.aload_n 0, 1) := by decide +kernel
theorem dX1_piece_137 : decode cX1_piece 137 = .ok (.dup, 1) := by decide +kernel
theorem dX1_piece_138 : decode cX1_piece 138 = .ok (.getfield 55, 3) := by decide +kernel
theorem dX1_piece_141 : decode cX1_piece 141 = .ok (.iconst 1, 1) := by decide +kernel
theorem dX1_piece_142 : decode cX1_piece 142 = .ok (.iadd, 1) := by decide +kernel
theorem dX1_piece_143 : decode cX1_piece 143 = .ok (.putfield 55, 3) := by decide +kernel
theorem dX1_piece_146 : decode cX1_piece 146 = .ok (.aload_n 0, 1) := by decide +kernel
theorem dX1_piece_147 : decode cX1_piece 147 = .ok (.getfield 55, 3) := by decide +kernel
theorem dX1_piece_150 : decode cX1_piece 150 = .ok (.iconst 1, 1) := by decide +kernel
theorem dX1_piece_151 : decode cX1_piece 151 = .ok (.isub, 1) := by decide +kernel
theorem dX1_piece_152 : decode cX1_piece 152 = .ok (.ireturn, 1) := by decide +kernel
set_option maxRecDepth 20000 in
theorem ggX1_piece2_X1_isPiece : GoodIn wsX1_piece2 wsX1_isPiece := goodIn_r _ [8, 9, 10, 11, 12, 13, 14, 15, 16, 17, 18, 19, 20, 21, 22, 23, 24, 25, 26] (by decide +kernel) (by decide +kernel)
set_option maxRecDepth 20000 in
theorem gX1_piece2_X1_isPiece : GoodIn wsX1_piece2 (wsV RX1 73 RX1 yX1_isPiece wsX1_isPiece) := goodIn_app (goodIn_of _ (by decide +kernel)) ggX1_piece2_X1_isPiece
theorem dX1_piece2_0 : decode cX1_piece2 0 = .ok (.aload_n 0, 1) := by decide +kernel
theorem dX1_piece2_1 : decode cX1_piece2 1 = .ok (.aload_n 0, 1) := by decide +kernel
theorem dX1_piece2_2 : decode cX1_piece2 2 = .ok (.iload_n 1, 1) := by decide +kernel
theorem dX1_piece2_3 : decode cX1_piece2 3 = .ok (.invokevirtual 73, 3) := by decide +kernel
theorem dX1_piece2_6 : decode cX1_piece2 6 = .ok (.ifCond .eq 7, 3) := by decide +kernel
theorem dX1_piece2_9 : decode cX1_piece2 9 = .ok (.iconst 0, 1) := by decide +kernel
theorem dX1_piece2_10 : decode cX1_piece2 10 = .ok (.goto 4, 3) := by decide +kernel
theorem dX1_piece2_13 : decode cX1_piece2 13 = .ok (.iconst 1, 1) := by decide +kernel
theorem dX1_piece2_14 : decode cX1_piece2 14 = .ok (.putfield 51, 3) := by decide +kernel
theorem dX1_piece2_17 : decode cX1_piece2 17 = .ok (.aload_n 0, 1) := by decide +kernel
theorem dX1_piece2_18 : decode cX1_piece2 18 = .ok (.getfield 51, 3) := by decide +kernel
theorem dX1_piece2_21 : decode cX1_piece2 21 = .ok (.ifCond .le 7, 3) := by decide +kernel
theorem dX1_piece2_24 : decode cX1_piece2 24 = .ok (.iconst 0, 1) := by decide +kernel
theorem dX1_piece2_25 : decode cX1_piece2 25 = .ok (.goto 19, 3) := by decide +kernel
theorem dX1_piece2_28 : decode cX1_piece2 28 = .ok (.bipush 60, 2) := by decide +kernel
theorem dX1_piece2_30 : decode cX1_piece2 30 = .ok (.aload_n 0, 1) := by decide +kernel
theorem dX1_piece2_31 : decode cX1_piece2 31 = .ok (.getfield 7, 3) := by decide +kernel
theorem dX1_piece2_34 : decode cX1_piece2 34 = .ok (.iload_n 1, 1) := by decide +kernel
theorem dX1_piece2_35 : decode cX1_piece2 35 = .ok (.iaload, 1) := by decide +kernel
theorem dX1_piece2_36 : decode cX1_piece2 36 = .ok (.imul, 1) := by decide +kernel
theorem dX1_piece2_37 : decode cX1_piece2 37 = .ok (.aload_n 0, 1) := by decide +kernel
theorem dX1_piece2_38 : decode cX1_piece2 38 = .ok (.getfield 13, 3) := by decide +kernel
theorem dX1_piece2_41 : decode cX1_piece2 41 = .ok (.iload_n 1, 1) := by decide +kernel
theorem dX1_piece2_42 : decode cX1_piece2 42 = .ok (.iaload, 1) := by decide +kernel
theorem dX1_piece2_43 : decode cX1_piece2 43 = .ok (.iadd, 1) := by decide +kernel
theorem dX1_piece2_44 : decode cX1_piece2 44 = .ok (.ireturn, 1) := by decide +kernel
set_option maxRecDepth 20000 in
theorem ggX1_turn_X1_isPiece : GoodIn wsX1_turn wsX1_isPiece := goodIn_r _ [9, 10, 11, 12, 13, 14, 15, 16, 17, 18, 19, 20, 21, 22, 23, 24, 25, 26, 27] (by decide +kernel) (by decide +kernel)
set_option maxRecDepth 20000 in
theorem gX1_turn_X1_isPiece : GoodIn wsX1_turn (wsV RX1 73 RX1 yX1_isPiece wsX1_isPiece) := goodIn_app (goodIn_of _ (by decide +kernel)) ggX1_turn_X1_isPiece
theorem dX1_turn_0 : decode cX1_turn 0 = .ok (.aload_n 0, 1) := by decide +kernel
theorem dX1_turn_1 : decode cX1_turn 1 = .ok (.iconst 0, 1) := by decide +kernel
theorem dX1_turn_2 : decode cX1_turn 2 = .ok (.putfield 51, 3) := by decide +kernel
theorem dX1_turn_5 : decode cX1_turn 5 = .ok (.aload_n 0, 1) := by decide +kernel
theorem dX1_turn_6 : decode cX1_turn 6 = .ok (.iload_n 1, 1) := by decide +kernel
theorem dX1_turn_7 : decode cX1_turn 7 = .ok (.invokevirtual 73, 3) := by decide +kernel
theorem dX1_turn_10 : decode cX1_turn 10 = .ok (.ifCond .eq 11, 3) := by decide +kernel
theorem dX1_turn_13 : decode cX1_turn 13 = .ok (.aload_n 0, 1) := by decide +kernel
theorem dX1_turn_14 : decode cX1_turn 14 = .ok (.iload_n 2, 1) := by decide +kernel
theorem dX1_turn_15 : decode cX1_turn 15 = .ok (.invokevirtual 73, 3) := by decide +kernel
theorem dX1_turn_18 : decode cX1_turn 18 = .ok (.ifCond .ne 6, 3) := by decide +kernel
theorem dX1_turn_21 : decode cX1_turn 21 = .ok (.bipush (-11), 2) := by decide +kernel
theorem dX1_turn_23 : decode cX1_turn 23 = .ok (.ireturn, 1) := by decide +kernel
theorem dX1_turn_24 : decode cX1_turn 24 = .ok (.aload_n 0, 1) := by decide +kernel
theorem dX1_turn_25 : decode cX1_turn 25 = .ok (.getfield 13, 3) := by decide +kernel
theorem dX1_turn_28 : decode cX1_turn 28 = .ok (.iload_n 1, 1) := by decide +kernel
theorem dX1_turn_29 : decode cX1_turn 29 = .ok (.iaload, 1) := by decide +kernel
theorem dX1_turn_30 : decode cX1_turn 30 = .ok (.aload_n 0, 1) := by decide +kernel
theorem dX1_turn_31 : decode cX1_turn 31 = .ok (.getfield 7, 3) := by decide +kernel
theorem dX1_turn_34 : decode cX1_turn 34 = .ok (.iload_n 2, 1) := by decide +kernel
theorem dX1_turn_35 : decode cX1_turn 35 = .ok (.iaload, 1) := by decide +kernel
theorem dX1_turn_36 : decode cX1_turn 36 = .ok (.if_icmp .eq 6, 3) := by decide +kernel
theorem dX1_turn_39 : decode cX1_turn 39 = .ok (.bipush (-13), 2) := by decide +kernel
theorem dX1_turn_41 : decode cX1_turn 41 = .ok (.ireturn, 1) := by decide +kernel
theorem dX1_turn_42 : decode cX1_turn 42 = .ok (.aload_n 0, 1) := by decide +kernel
theorem dX1_turn_43 : decode cX1_turn 43 = .ok (.getfield 29, 3) := by decide +kernel
theorem dX1_turn_46 : decode cX1_turn 46 = .ok (.bipush 120, 2) := by decide +kernel
theorem dX1_turn_48 : decode cX1_turn 48 = .ok (.iload_n 1, 1) := by decide +kernel
theorem dX1_turn_49 : decode cX1_turn 49 = .ok (.imul, 1) := by decide +kernel
theorem dX1_turn_50 : decode cX1_turn 50 = .ok (.iload_n 2, 1) := by decide +kernel
theorem dX1_turn_51 : decode cX1_turn 51 = .ok (.iadd, 1) := by decide +kernel
theorem dX1_turn_52 : decode cX1_turn 52 = .ok (.iload_n 3, 1) := by decide +kernel
theorem dX1_turn_53 : decode cX1_turn 53 = .ok (.bastore, 1) := by decide +kernel
theorem dX1_turn_54 : decode cX1_turn 54 = .ok (.iconst 0, 1) := by decide +kernel
theorem dX1_turn_55 : decode cX1_turn 55 = .ok (.istore 4, 2) := by decide +kernel
theorem dX1_turn_57 : decode cX1_turn 57 = .ok (.iconst 0, 1) := by decide +kernel
theorem dX1_turn_58 : decode cX1_turn 58 = .ok (.istore 5, 2) := by decide +kernel
theorem dX1_turn_60 : decode cX1_turn 60 = .ok (.iload 5, 2) := by decide +kernel
theorem dX1_turn_62 : decode cX1_turn 62 = .ok (.sipush 14400, 3) := by decide +kernel
theorem dX1_turn_65 : decode cX1_turn 65 = .ok (.if_icmp .ge 30, 3) := by decide +kernel
theorem dX1_turn_68 : decode cX1_turn 68 = .ok (.aload_n 0, 1) := by decide +kernel
theorem dX1_turn_69 : decode cX1_turn 69 = .ok (.getfield 29, 3) := by decide +kernel
theorem dX1_turn_72 : decode cX1_turn 72 = .ok (.iload 5, 2) := by decide +kernel
theorem dX1_turn_74 : decode cX1_turn 74 = .ok (.baload, 1) := by decide +kernel
theorem dX1_turn_75 : decode cX1_turn 75 = .ok (.ifCond .eq 10, 3) := by decide +kernel
theorem dX1_turn_78 : decode cX1_turn 78 = .ok (.iload 4, 2) := by decide +kernel
theorem dX1_turn_80 : decode cX1_turn 80 = .ok (.iconst 1, 1) := by decide +kernel
theorem dX1_turn_81 : decode cX1_turn 81 = .ok (.iadd, 1) := by decide +kernel
theorem dX1_turn_82 : decode cX1_turn 82 = .ok (.goto 5, 3) := by decide +kernel
theorem dX1_turn_85 : decode cX1_turn 85 = .ok (.iload 4, 2) := by decide +kernel
theorem dX1_turn_87 : decode cX1_turn 87 = .ok (.istore 4, 2) := by decide +kernel
theorem dX1_turn_89 : decode cX1_turn 89 = .ok (.iinc 5 1, 3) := by decide +kernel
theorem dX1_turn_92 : decode cX1_turn 92 = .ok (.goto (-32), 3) := by decide +kernel
theorem dX1_turn_95 : decode cX1_turn 95 = .ok (.iload 4, 2) := by decide +kernel
theorem dX1_turn_97 : decode cX1_turn 97 = .ok (.ireturn, 1) := by decide +kernel
set_option maxRecDepth 20000 in
theorem ggX1_stop_X1_isPiece : GoodIn wsX1_stop wsX1_isPiece := goodIn_r _ [11, 12, 16, 17, 18, 19, 20, 21, 22, 23, 24, 25, 26, 27, 28, 29, 30, 31, 32] (by decide +kernel) (by decide +kernel)
set_option maxRecDepth 20000 in
theorem gX1_stop_X1_isPiece : GoodIn wsX1_stop (wsV RX1 73 RX1 yX1_isPiece wsX1_isPiece) := goodIn_app (goodIn_of _ (by decide +kernel)) ggX1_stop_X1_isPiece
set_option maxRecDepth 20000 in
theorem ggX1_stop_X1_in : GoodIn wsX1_stop wsX1_in := goodIn_r _ [15] (by decide +kernel) (by decide +kernel)
set_option maxRecDepth 20000 in
theorem gX1_stop_X1_in : GoodIn wsX1_stop (va_wsS RX1 65 yX1_in wsX1_in) := goodIn_app (goodIn_of _ (by decide +kernel)) ggX1_stop_X1_in
theorem dX1_stop_0 : decode cX1_stop 0 = .ok (.aload_n 0, 1) := by decide +kernel
theorem dX1_stop_1 : decode cX1_stop 1 = .ok (.iconst 0, 1) := by decide +kernel
theorem dX1_stop_2 : decode cX1_stop 2 = .ok (.putfield 51, 3) := by decide +kernel
theorem dX1_stop_5 : decode cX1_stop 5 = .ok (.aload_n 0, 1) := by decide +kernel
theorem dX1_stop_6 : decode cX1_stop 6 = .ok (.iload_n 1, 1) := by decide +kernel
theorem dX1_stop_7 : decode cX1_stop 7 = .ok (.invokevirtual 73, 3) := by decide +kernel
theorem dX1_stop_10 : decode cX1_stop 10 = .ok (.ifCond .ne 6, 3) := by decide +kernel
theorem dX1_stop_13 : decode cX1_stop 13 = .ok (.bipush (-11), 2) := by decide +kernel
theorem dX1_stop_15 : decode cX1_stop 15 = .ok (.ireturn, 1) := by decide +kernel
theorem dX1_stop_16 : decode cX1_stop 16 = .ok (.iload_n 2, 1) := by decide +kernel
theorem dX1_stop_17 : decode cX1_stop 17 = .ok (.i2l, 1) := by decide +kernel
theorem dX1_stop_18 : decode cX1_stop 18 = .ok (.lconst 0, 1) := by decide +kernel
theorem dX1_stop_19 : decode cX1_stop 19 = .ok (.lconst 1, 1) := by decide +kernel
theorem dX1_stop_20 : decode cX1_stop 20 = .ok (.invokestatic 65, 3) := by decide +kernel
theorem dX1_stop_23 : decode cX1_stop 23 = .ok (.ifCond .eq 17, 3) := by decide +kernel
theorem dX1_stop_26 : decode cX1_stop 26 = .ok (.lload_n 3, 1) := by decide +kernel
theorem dX1_stop_27 : decode cX1_stop 27 = .ok (.lconst 0, 1) := by decide +kernel
theorem dX1_stop_28 : decode cX1_stop 28 = .ok (.aload_n 0, 1) := by decide +kernel
theorem dX1_stop_29 : decode cX1_stop 29 = .ok (.getfield 16, 3) := by decide +kernel
theorem dX1_stop_32 : decode cX1_stop 32 = .ok (.iload_n 1, 1) := by decide +kernel
theorem dX1_stop_33 : decode cX1_stop 33 = .ok (.laload, 1) := by decide +kernel
theorem dX1_stop_34 : decode cX1_stop 34 = .ok (.invokestatic 65, 3) := by decide +kernel
theorem dX1_stop_37 : decode cX1_stop 37 = .ok (.ifCond .ne 6, 3) := by decide +kernel
theorem dX1_stop_40 : decode cX1_stop 40 = .ok (.bipush (-12), 2) := by decide +kernel
theorem dX1_stop_42 : decode cX1_stop 42 = .ok (.ireturn, 1) := by decide +kernel
theorem dX1_stop_43 : decode cX1_stop 43 = .ok (.aload_n 0, 1) := by decide +kernel
theorem dX1_stop_44 : decode cX1_stop 44 = .ok (.getfield 58, 3) := by decide +kernel
theorem dX1_stop_47 : decode cX1_stop 47 = .ok (.bipush 100, 2) := by decide +kernel
theorem dX1_stop_49 : decode cX1_stop 49 = .ok (.if_icmp .ne 6, 3) := by decide +kernel
theorem dX1_stop_52 : decode cX1_stop 52 = .ok (.bipush (-14), 2) := by decide +kernel
theorem dX1_stop_54 : decode cX1_stop 54 = .ok (.ireturn, 1) := by decide +kernel
theorem dX1_stop_55 : decode cX1_stop 55 = .ok (.aload_n 0, 1) := by decide +kernel
theorem dX1_stop_56 : decode cX1_stop 56 = .ok (.getfield 33, 3) := by decide +kernel
theorem dX1_stop_59 : decode cX1_stop 59 = .ok (.aload_n 0, 1) := by decide +kernel
theorem dX1_stop_60 : decode cX1_stop 60 = .ok (.getfield 58, 3) := by decide +kernel
theorem dX1_stop_63 : decode cX1_stop 63 = .ok (.iload_n 1, 1) := by decide +kernel
theorem dX1_stop_64 : decode cX1_stop 64 = .ok (.iastore, 1) := by decide +kernel
theorem dX1_stop_65 : decode cX1_stop 65 = .ok (.aload_n 0, 1) := by decide +kernel
theorem dX1_stop_66 : decode cX1_stop 66 = .ok (.getfield 36, 3) := by decide +kernel
theorem dX1_stop_69 : decode cX1_stop 69 = .ok (.aload_n 0, 1) := by decide +kernel
theorem dX1_stop_70 : decode cX1_stop 70 = .ok (.getfield 58, 3) := by decide +kernel
theorem dX1_stop_73 : decode cX1_stop 73 = .ok (.iload_n 2, 1) := by decide +kernel
theorem dX1_stop_74 : decode cX1_stop 74 = .ok (.iastore, 1) := by decide +kernel
theorem dX1_stop_75 : decode cX1_stop 75 = .ok (.aload_n 0, 1) := by decide +kernel
theorem dX1_stop_76 : decode cX1_stop 76 = .ok (.getfield 39, 3) := by decide +kernel
theorem dX1_stop_79 : decode cX1_stop 79 = .ok (.aload_n 0, 1) := by decide +kernel
theorem dX1_stop_80 : decode cX1_stop 80 = .ok (.getfield 58, 3) := by decide +kernel
theorem dX1_stop_83 : decode cX1_stop 83 = .ok (.lload_n 3, 1) := by decide +kernel
theorem dX1_stop_84 : decode cX1_stop 84 = .ok (.lastore, 1) := by decide +kernel
theorem dX1_stop_85 : decode cX1_stop 85 = .ok (.aload_n 0, 1) := by decide +kernel
theorem dX1_stop_86 : decode cX1_stop 86 = .ok (.dup, 1) := by decide +kernel
theorem dX1_stop_87 : decode cX1_stop 87 = .ok (.getfield 58, 3) := by decide +kernel
theorem dX1_stop_90 : decode cX1_stop 90 = .ok (.iconst 1, 1) := by decide +kernel
theorem dX1_stop_91 : decode cX1_stop 91 = .ok (.iadd, 1) := by decide +kernel
theorem dX1_stop_92 : decode cX1_stop 92 = .ok (.putfield 58, 3) := by decide +kernel
theorem dX1_stop_95 : decode cX1_stop 95 = .ok (.aload_n 0, 1) := by decide +kernel
theorem dX1_stop_96 : decode cX1_stop 96 = .ok (.getfield 58, 3) := by decide +kernel
theorem dX1_stop_99 : decode cX1_stop 99 = .ok (.iconst 1, 1) := by decide +kernel
theorem dX1_stop_100 : decode cX1_stop 100 = .ok (.isub, 1) := by decide +kernel
theorem dX1_stop_101 : decode cX1_stop 101 = .ok (.ireturn, 1) := by decide +kernel
set_option maxRecDepth 20000 in
theorem ggX1_gate_X1_isPiece : GoodIn wsX1_gate wsX1_isPiece := goodIn_r _ [9, 10, 11, 12, 13, 14, 15, 16, 17, 18, 19, 20, 21, 22, 23, 24, 25, 26, 27] (by decide +kernel) (by decide +kernel)
set_option maxRecDepth 20000 in
theorem gX1_gate_X1_isPiece : GoodIn wsX1_gate (wsV RX1 73 RX1 yX1_isPiece wsX1_isPiece) := goodIn_app (goodIn_of _ (by decide +kernel)) ggX1_gate_X1_isPiece
theorem dX1_gate_0 : decode cX1_gate 0 = .ok (.aload_n 0, 1) := by decide +kernel
theorem dX1_gate_1 : decode cX1_gate 1 = .ok (.iconst 0, 1) := by decide +kernel
theorem dX1_gate_2 : decode cX1_gate 2 = .ok (.putfield 51, 3) := by decide +kernel
theorem dX1_gate_5 : decode cX1_gate 5 = .ok (.aload_n 0, 1) := by decide +kernel
theorem dX1_gate_6 : decode cX1_gate 6 = .ok (.iload_n 1, 1) := by decide +kernel
theorem dX1_gate_7 : decode cX1_gate 7 = .ok (.invokevirtual 73, 3) := by decide +kernel
theorem dX1_gate_10 : decode cX1_gate 10 = .ok (.ifCond .ne 6, 3) := by decide +kernel
theorem dX1_gate_13 : decode cX1_gate 13 = .ok (.bipush (-11), 2) := by decide +kernel
theorem dX1_gate_15 : decode cX1_gate 15 = .ok (.ireturn, 1) := by decide +kernel
theorem dX1_gate_16 : decode cX1_gate 16 = .ok (.lload_n 2, 1) := by decide +kernel
theorem dX1_gate_17 : decode cX1_gate 17 = .ok (.lconst 0, 1) := by decide +kernel
theorem dX1_gate_18 : decode cX1_gate 18 = .ok (.lcmp, 1) := by decide +kernel
theorem dX1_gate_19 : decode cX1_gate 19 = .ok (.ifCond .ne 14, 3) := by decide +kernel
theorem dX1_gate_22 : decode cX1_gate 22 = .ok (.lload 4, 2) := by decide +kernel
theorem dX1_gate_24 : decode cX1_gate 24 = .ok (.lconst 0, 1) := by decide +kernel
theorem dX1_gate_25 : decode cX1_gate 25 = .ok (.lcmp, 1) := by decide +kernel
theorem dX1_gate_26 : decode cX1_gate 26 = .ok (.ifCond .ne 7, 3) := by decide +kernel
theorem dX1_gate_29 : decode cX1_gate 29 = .ok (.iconst 1, 1) := by decide +kernel
theorem dX1_gate_30 : decode cX1_gate 30 = .ok (.goto 4, 3) := by decide +kernel
theorem dX1_gate_33 : decode cX1_gate 33 = .ok (.iconst 0, 1) := by decide +kernel
theorem dX1_gate_34 : decode cX1_gate 34 = .ok (.istore 6, 2) := by decide +kernel
theorem dX1_gate_36 : decode cX1_gate 36 = .ok (.iload 6, 2) := by decide +kernel
theorem dX1_gate_38 : decode cX1_gate 38 = .ok (.ifCond .ne 28, 3) := by decide +kernel
theorem dX1_gate_41 : decode cX1_gate 41 = .ok (.lload_n 2, 1) := by decide +kernel
theorem dX1_gate_42 : decode cX1_gate 42 = .ok (.lconst 0, 1) := by decide +kernel
theorem dX1_gate_43 : decode cX1_gate 43 = .ok (.lcmp, 1) := by decide +kernel
theorem dX1_gate_44 : decode cX1_gate 44 = .ok (.ifCond .lt 19, 3) := by decide +kernel
theorem dX1_gate_47 : decode cX1_gate 47 = .ok (.lload_n 2, 1) := by decide +kernel
theorem dX1_gate_48 : decode cX1_gate 48 = .ok (.lload 4, 2) := by decide +kernel
theorem dX1_gate_50 : decode cX1_gate 50 = .ok (.lcmp, 1) := by decide +kernel
theorem dX1_gate_51 : decode cX1_gate 51 = .ok (.ifCond .ge 12, 3) := by decide +kernel
theorem dX1_gate_54 : decode cX1_gate 54 = .ok (.lload 4, 2) := by decide +kernel
theorem dX1_gate_56 : decode cX1_gate 56 = .ok (.ldc2_w 77, 3) := by decide +kernel
theorem dX1_gate_59 : decode cX1_gate 59 = .ok (.lcmp, 1) := by decide +kernel
theorem dX1_gate_60 : decode cX1_gate 60 = .ok (.ifCond .le 6, 3) := by decide +kernel
theorem dX1_gate_63 : decode cX1_gate 63 = .ok (.bipush (-12), 2) := by decide +kernel
theorem dX1_gate_65 : decode cX1_gate 65 = .ok (.ireturn, 1) := by decide +kernel
theorem dX1_gate_66 : decode cX1_gate 66 = .ok (.aload_n 0, 1) := by decide +kernel
theorem dX1_gate_67 : decode cX1_gate 67 = .ok (.getfield 23, 3) := by decide +kernel
theorem dX1_gate_70 : decode cX1_gate 70 = .ok (.iload_n 1, 1) := by decide +kernel
theorem dX1_gate_71 : decode cX1_gate 71 = .ok (.lload_n 2, 1) := by decide +kernel
theorem dX1_gate_72 : decode cX1_gate 72 = .ok (.lastore, 1) := by decide +kernel
theorem dX1_gate_73 : decode cX1_gate 73 = .ok (.aload_n 0, 1) := by decide +kernel
theorem dX1_gate_74 : decode cX1_gate 74 = .ok (.getfield 26, 3) := by decide +kernel
theorem dX1_gate_77 : decode cX1_gate 77 = .ok (.iload_n 1, 1) := by decide +kernel
theorem dX1_gate_78 : decode cX1_gate 78 = .ok (.lload 4, 2) := by decide +kernel
theorem dX1_gate_80 : decode cX1_gate 80 = .ok (.lastore, 1) := by decide +kernel
theorem dX1_gate_81 : decode cX1_gate 81 = .ok (.iload 6, 2) := by decide +kernel
theorem dX1_gate_83 : decode cX1_gate 83 = .ok (.ifCond .eq 7, 3) := by decide +kernel
theorem dX1_gate_86 : decode cX1_gate 86 = .ok (.iconst 0, 1) := by decide +kernel
theorem dX1_gate_87 : decode cX1_gate 87 = .ok (.goto 4, 3) := by decide +kernel
theorem dX1_gate_90 : decode cX1_gate 90 = .ok (.iconst 1, 1) := by decide +kernel
theorem dX1_gate_91 : decode cX1_gate 91 = .ok (.ireturn, 1) := by decide +kernel
set_option maxRecDepth 20000 in
theorem ggX1_change_X1_isPiece : GoodIn wsX1_change wsX1_isPiece := goodIn_r _ [8, 9, 13, 14, 15, 16, 17, 18, 19, 20, 21, 22, 23, 24, 25, 26, 27, 28, 29] (by decide +kernel) (by decide +kernel)
set_option maxRecDepth 20000 in
theorem gX1_change_X1_isPiece : GoodIn wsX1_change (wsV RX1 73 RX1 yX1_isPiece wsX1_isPiece) := goodIn_app (goodIn_of _ (by decide +kernel)) ggX1_change_X1_isPiece
set_option maxRecDepth 20000 in
theorem ggX1_change_X1_in : GoodIn wsX1_change wsX1_in := goodIn_r _ [12] (by decide +kernel) (by decide +kernel)
set_option maxRecDepth 20000 in
theorem gX1_change_X1_in : GoodIn wsX1_change (va_wsS RX1 65 yX1_in wsX1_in) := goodIn_app (goodIn_of _ (by decide +kernel)) ggX1_change_X1_in
theorem dX1_change_0 : decode cX1_change 0 = .ok (.aload_n 0, 1) := by decide +kernel
theorem dX1_change_1 : decode cX1_change 1 = .ok (.iconst 0, 1) := by decide +kernel
theorem dX1_change_2 : decode cX1_change 2 = .ok (.putfield 51, 3) := by decide +kernel
theorem dX1_change_5 : decode cX1_change 5 = .ok (.aload_n 0, 1) := by decide +kernel
theorem dX1_change_6 : decode cX1_change 6 = .ok (.iload_n 1, 1) := by decide +kernel
theorem dX1_change_7 : decode cX1_change 7 = .ok (.invokevirtual 73, 3) := by decide +kernel
theorem dX1_change_10 : decode cX1_change 10 = .ok (.ifCond .ne 6, 3) := by decide +kernel
theorem dX1_change_13 : decode cX1_change 13 = .ok (.bipush (-11), 2) := by decide +kernel
theorem dX1_change_15 : decode cX1_change 15 = .ok (.ireturn, 1) := by decide +kernel
theorem dX1_change_16 : decode cX1_change 16 = .ok (.lload_n 2, 1) := by decide +kernel
theorem dX1_change_17 : decode cX1_change 17 = .ok (.lconst 1, 1) := by decide +kernel
theorem dX1_change_18 : decode cX1_change 18 = .ok (.ldc2_w 71, 3) := by decide +kernel
theorem dX1_change_21 : decode cX1_change 21 = .ok (.invokestatic 65, 3) := by decide +kernel
theorem dX1_change_24 : decode cX1_change 24 = .ok (.ifCond .ne 6, 3) := by decide +kernel
theorem dX1_change_27 : decode cX1_change 27 = .ok (.bipush (-12), 2) := by decide +kernel
theorem dX1_change_29 : decode cX1_change 29 = .ok (.ireturn, 1) := by decide +kernel
theorem dX1_change_30 : decode cX1_change 30 = .ok (.aload_n 0, 1) := by decide +kernel
theorem dX1_change_31 : decode cX1_change 31 = .ok (.getfield 20, 3) := by decide +kernel
theorem dX1_change_34 : decode cX1_change 34 = .ok (.iload_n 1, 1) := by decide +kernel
theorem dX1_change_35 : decode cX1_change 35 = .ok (.laload, 1) := by decide +kernel
theorem dX1_change_36 : decode cX1_change 36 = .ok (.l2i, 1) := by decide +kernel
theorem dX1_change_37 : decode cX1_change 37 = .ok (.istore 4, 2) := by decide +kernel
theorem dX1_change_39 : decode cX1_change 39 = .ok (.aload_n 0, 1) := by decide +kernel
theorem dX1_change_40 : decode cX1_change 40 = .ok (.getfield 20, 3) := by decide +kernel
theorem dX1_change_43 : decode cX1_change 43 = .ok (.iload_n 1, 1) := by decide +kernel
theorem dX1_change_44 : decode cX1_change 44 = .ok (.lload_n 2, 1) := by decide +kernel
theorem dX1_change_45 : decode cX1_change 45 = .ok (.lastore, 1) := by decide +kernel
theorem dX1_change_46 : decode cX1_change 46 = .ok (.iload 4, 2) := by decide +kernel
theorem dX1_change_48 : decode cX1_change 48 = .ok (.ireturn, 1) := by decide +kernel
theorem dX1_leads_0 : decode cX1_leads 0 = .ok (.aload_n 0, 1) := by decide +kernel
theorem dX1_leads_1 : decode cX1_leads 1 = .ok (.getfield 13, 3) := by decide +kernel
theorem dX1_leads_4 : decode cX1_leads 4 = .ok (.iload_n 1, 1) := by decide +kernel
theorem dX1_leads_5 : decode cX1_leads 5 = .ok (.iaload, 1) := by decide +kernel
theorem dX1_leads_6 : decode cX1_leads 6 = .ok (.aload_n 0, 1) := by decide +kernel
theorem dX1_leads_7 : decode cX1_leads 7 = .ok (.getfield 7, 3) := by decide +kernel
theorem dX1_leads_10 : decode cX1_leads 10 = .ok (.iload_n 2, 1) := by decide +kernel
theorem dX1_leads_11 : decode cX1_leads 11 = .ok (.iaload, 1) := by decide +kernel
theorem dX1_leads_12 : decode cX1_leads 12 = .ok (.if_icmp .ne 21, 3) := by decide +kernel
theorem dX1_leads_15 : decode cX1_leads 15 = .ok (.aload_n 0, 1) := by decide +kernel
theorem dX1_leads_16 : decode cX1_leads 16 = .ok (.getfield 29, 3) := by decide +kernel
theorem dX1_leads_19 : decode cX1_leads 19 = .ok (.bipush 120, 2) := by decide +kernel
theorem dX1_leads_21 : decode cX1_leads 21 = .ok (.iload_n 1, 1) := by decide +kernel
theorem dX1_leads_22 : decode cX1_leads 22 = .ok (.imul, 1) := by decide +kernel
theorem dX1_leads_23 : decode cX1_leads 23 = .ok (.iload_n 2, 1) := by decide +kernel
theorem dX1_leads_24 : decode cX1_leads 24 = .ok (.iadd, 1) := by decide +kernel
theorem dX1_leads_25 : decode cX1_leads 25 = .ok (.baload, 1) := by decide +kernel
theorem dX1_leads_26 : decode cX1_leads 26 = .ok (.ifCond .ne 7, 3) := by decide +kernel
theorem dX1_leads_29 : decode cX1_leads 29 = .ok (.iconst 1, 1) := by decide +kernel
theorem dX1_leads_30 : decode cX1_leads 30 = .ok (.goto 4, 3) := by decide +kernel
theorem dX1_leads_33 : decode cX1_leads 33 = .ok (.iconst 0, 1) := by decide +kernel
theorem dX1_leads_34 : decode cX1_leads 34 = .ok (.ireturn, 1) := by decide +kernel
theorem dX1_entry_0 : decode cX1_entry 0 = .ok (.aload_n 0, 1) := by decide +kernel
theorem dX1_entry_1 : decode cX1_entry 1 = .ok (.getfield 26, 3) := by decide +kernel
theorem dX1_entry_4 : decode cX1_entry 4 = .ok (.iload_n 1, 1) := by decide +kernel
theorem dX1_entry_5 : decode cX1_entry 5 = .ok (.laload, 1) := by decide +kernel
theorem dX1_entry_6 : decode cX1_entry 6 = .ok (.lconst 0, 1) := by decide +kernel
theorem dX1_entry_7 : decode cX1_entry 7 = .ok (.lcmp, 1) := by decide +kernel
theorem dX1_entry_8 : decode cX1_entry 8 = .ok (.ifCond .ne 5, 3) := by decide +kernel
theorem dX1_entry_11 : decode cX1_entry 11 = .ok (.lload_n 2, 1) := by decide +kernel
theorem dX1_entry_12 : decode cX1_entry 12 = .ok (.lreturn, 1) := by decide +kernel
theorem dX1_entry_13 : decode cX1_entry 13 = .ok (.lload_n 2, 1) := by decide +kernel
theorem dX1_entry_14 : decode cX1_entry 14 = .ok (.lload_n 2, 1) := by decide +kernel
theorem dX1_entry_15 : decode cX1_entry 15 = .ok (.ldc2_w 77, 3) := by decide +kernel
theorem dX1_entry_18 : decode cX1_entry 18 = .ok (.lrem, 1) := by decide +kernel
theorem dX1_entry_19 : decode cX1_entry 19 = .ok (.lsub, 1) := by decide +kernel
theorem dX1_entry_20 : decode cX1_entry 20 = .ok (.lstore 4, 2) := by decide +kernel
theorem dX1_entry_22 : decode cX1_entry 22 = .ok (.lload_n 2, 1) := by decide +kernel
theorem dX1_entry_23 : decode cX1_entry 23 = .ok (.lload 4, 2) := by decide +kernel
theorem dX1_entry_25 : decode cX1_entry 25 = .ok (.aload_n 0, 1) := by decide +kernel
theorem dX1_entry_26 : decode cX1_entry 26 = .ok (.getfield 23, 3) := by decide +kernel
theorem dX1_entry_29 : decode cX1_entry 29 = .ok (.iload_n 1, 1) := by decide +kernel
theorem dX1_entry_30 : decode cX1_entry 30 = .ok (.laload, 1) := by decide +kernel
theorem dX1_entry_31 : decode cX1_entry 31 = .ok (.ladd, 1) := by decide +kernel
theorem dX1_entry_32 : decode cX1_entry 32 = .ok (.lcmp, 1) := by decide +kernel
theorem dX1_entry_33 : decode cX1_entry 33 = .ok (.ifCond .ge 13, 3) := by decide +kernel
theorem dX1_entry_36 : decode cX1_entry 36 = .ok (.lload 4, 2) := by decide +kernel
theorem dX1_entry_38 : decode cX1_entry 38 = .ok (.aload_n 0, 1) := by decide +kernel
theorem dX1_entry_39 : decode cX1_entry 39 = .ok (.getfield 23, 3) := by decide +kernel
theorem dX1_entry_42 : decode cX1_entry 42 = .ok (.iload_n 1, 1) := by decide +kernel
theorem dX1_entry_43 : decode cX1_entry 43 = .ok (.laload, 1) := by decide +kernel
theorem dX1_entry_44 : decode cX1_entry 44 = .ok (.ladd, 1) := by decide +kernel
theorem dX1_entry_45 : decode cX1_entry 45 = .ok (.lreturn, 1) := by decide +kernel
theorem dX1_entry_46 : decode cX1_entry 46 = .ok (.lload_n 2, 1) := by decide +kernel
theorem dX1_entry_47 : decode cX1_entry 47 = .ok (.lload 4, 2) := by decide +kernel
theorem dX1_entry_49 : decode cX1_entry 49 = .ok (.aload_n 0, 1) := by decide +kernel
theorem dX1_entry_50 : decode cX1_entry 50 = .ok (.getfield 26, 3) := by decide +kernel
theorem dX1_entry_53 : decode cX1_entry 53 = .ok (.iload_n 1, 1) := by decide +kernel
theorem dX1_entry_54 : decode cX1_entry 54 = .ok (.laload, 1) := by decide +kernel
theorem dX1_entry_55 : decode cX1_entry 55 = .ok (.ladd, 1) := by decide +kernel
theorem dX1_entry_56 : decode cX1_entry 56 = .ok (.lcmp, 1) := by decide +kernel
theorem dX1_entry_57 : decode cX1_entry 57 = .ok (.ifCond .ge 7, 3) := by decide +kernel
theorem dX1_entry_60 : decode cX1_entry 60 = .ok (.lload_n 2, 1) := by decide +kernel
theorem dX1_entry_61 : decode cX1_entry 61 = .ok (.goto 16, 3) := by decide +kernel
theorem dX1_entry_64 : decode cX1_entry 64 = .ok (.lload 4, 2) := by decide +kernel
theorem dX1_entry_66 : decode cX1_entry 66 = .ok (.ldc2_w 77, 3) := by decide +kernel
theorem dX1_entry_69 : decode cX1_entry 69 = .ok (.ladd, 1) := by decide +kernel
theorem dX1_entry_70 : decode cX1_entry 70 = .ok (.aload_n 0, 1) := by decide +kernel
theorem dX1_entry_71 : decode cX1_entry 71 = .ok (.getfield 23, 3) := by decide +kernel
theorem dX1_entry_74 : decode cX1_entry 74 = .ok (.iload_n 1, 1) := by decide +kernel
theorem dX1_entry_75 : decode cX1_entry 75 = .ok (.laload, 1) := by decide +kernel
theorem dX1_entry_76 : decode cX1_entry 76 = .ok (.ladd, 1) := by decide +kernel
theorem dX1_entry_77 : decode cX1_entry 77 = .ok (.lreturn, 1) := by decide +kernel
theorem dX1_crossing_0 : decode cX1_crossing 0 = .ok (.aload_n 0, 1) := by decide +kernel
theorem dX1_crossing_1 : decode cX1_crossing 1 = .ok (.getfield 36, 3) := by decide +kernel
theorem dX1_crossing_4 : decode cX1_crossing 4 = .ok (.iload_n 1, 1) := by decide +kernel
theorem dX1_crossing_5 : decode cX1_crossing 5 = .ok (.iaload, 1) := by decide +kernel
theorem dX1_crossing_6 : decode cX1_crossing 6 = .ok (.iconst 1, 1) := by decide +kernel
theorem dX1_crossing_7 : decode cX1_crossing 7 = .ok (.if_icmp .ne 9, 3) := by decide +kernel
theorem dX1_crossing_10 : decode cX1_crossing 10 = .ok (.ldc2_w 79, 3) := by decide +kernel
theorem dX1_crossing_13 : decode cX1_crossing 13 = .ok (.goto 4, 3) := by decide +kernel
theorem dX1_crossing_16 : decode cX1_crossing 16 = .ok (.lconst 0, 1) := by decide +kernel
theorem dX1_crossing_17 : decode cX1_crossing 17 = .ok (.lreturn, 1) := by decide +kernel
set_option maxRecDepth 20000 in
theorem ggX1_rest_X1_crossing : GoodIn wsX1_rest wsX1_crossing := goodIn_r _ [8, 9, 10, 17, 18, 19, 20, 21, 22, 23, 24, 25, 26, 27, 28, 29, 30, 31, 32, 33] (by decide +kernel) (by decide +kernel)
set_option maxRecDepth 20000 in
theorem gX1_rest_X1_crossing : GoodIn wsX1_rest (wsV RX1 81 RX1 yX1_crossing wsX1_crossing) := goodIn_app (goodIn_of _ (by decide +kernel)) ggX1_rest_X1_crossing
set_option maxRecDepth 20000 in
theorem ggX1_rest_X1_seconds : GoodIn wsX1_rest wsX1_seconds := goodIn_r _ [14, 15, 16, 17, 18, 19, 20, 21, 22, 23, 24, 25, 26, 27, 28, 29, 30, 31, 32, 33] (by decide +kernel) (by decide +kernel)
set_option maxRecDepth 20000 in
theorem gX1_rest_X1_seconds : GoodIn wsX1_rest (wsV RX1 85 RX1 yX1_seconds wsX1_seconds) := goodIn_app (goodIn_of _ (by decide +kernel)) ggX1_rest_X1_seconds
theorem dX1_rest_0 : decode cX1_rest 0 = .ok (.lload_n 2, 1) := by decide +kernel
theorem dX1_rest_1 : decode cX1_rest 1 = .ok (.aload_n 0, 1) := by decide +kernel
theorem dX1_rest_2 : decode cX1_rest 2 = .ok (.iload_n 1, 1) := by decide +kernel
theorem dX1_rest_3 : decode cX1_rest 3 = .ok (.invokevirtual 81, 3) := by decide +kernel
theorem dX1_rest_6 : decode cX1_rest 6 = .ok (.ladd, 1) := by decide +kernel
theorem dX1_rest_7 : decode cX1_rest 7 = .ok (.aload_n 0, 1) := by decide +kernel
theorem dX1_rest_8 : decode cX1_rest 8 = .ok (.aload_n 0, 1) := by decide +kernel
theorem dX1_rest_9 : decode cX1_rest 9 = .ok (.getfield 33, 3) := by decide +kernel
theorem dX1_rest_12 : decode cX1_rest 12 = .ok (.iload_n 1, 1) := by decide +kernel
theorem dX1_rest_13 : decode cX1_rest 13 = .ok (.iaload, 1) := by decide +kernel
theorem dX1_rest_14 : decode cX1_rest 14 = .ok (.aload_n 0, 1) := by decide +kernel
theorem dX1_rest_15 : decode cX1_rest 15 = .ok (.getfield 16, 3) := by decide +kernel
theorem dX1_rest_18 : decode cX1_rest 18 = .ok (.aload_n 0, 1) := by decide +kernel
theorem dX1_rest_19 : decode cX1_rest 19 = .ok (.getfield 33, 3) := by decide +kernel
theorem dX1_rest_22 : decode cX1_rest 22 = .ok (.iload_n 1, 1) := by decide +kernel
theorem dX1_rest_23 : decode cX1_rest 23 = .ok (.iaload, 1) := by decide +kernel
theorem dX1_rest_24 : decode cX1_rest 24 = .ok (.laload, 1) := by decide +kernel
theorem dX1_rest_25 : decode cX1_rest 25 = .ok (.aload_n 0, 1) := by decide +kernel
theorem dX1_rest_26 : decode cX1_rest 26 = .ok (.getfield 39, 3) := by decide +kernel
theorem dX1_rest_29 : decode cX1_rest 29 = .ok (.iload_n 1, 1) := by decide +kernel
theorem dX1_rest_30 : decode cX1_rest 30 = .ok (.laload, 1) := by decide +kernel
theorem dX1_rest_31 : decode cX1_rest 31 = .ok (.lsub, 1) := by decide +kernel
theorem dX1_rest_32 : decode cX1_rest 32 = .ok (.invokevirtual 85, 3) := by decide +kernel
theorem dX1_rest_35 : decode cX1_rest 35 = .ok (.ladd, 1) := by decide +kernel
theorem dX1_rest_36 : decode cX1_rest 36 = .ok (.lreturn, 1) := by decide +kernel
set_option maxRecDepth 20000 in
theorem ggX1_reach_X1_rest : GoodIn wsX1_reach wsX1_rest := goodIn_r _ [11, 4, 6, 12, 13, 14, 15, 10, 16, 17, 18, 19, 20, 21, 22, 23, 24, 39, 40, 41, 42, 43, 44, 45, 46, 47, 48, 49, 50, 51, 52, 53, 54, 55] (by decide +kernel) (by decide +kernel)
set_option maxRecDepth 20000 in
theorem gX1_reach_X1_rest : GoodIn wsX1_reach (wsV RX1 91 RX1 yX1_rest wsX1_rest) := goodIn_app (goodIn_of _ (by decide +kernel)) ggX1_reach_X1_rest
set_option maxRecDepth 20000 in
theorem ggX1_reach_X1_leads : GoodIn wsX1_reach wsX1_leads := goodIn_r _ [28, 29, 30, 31, 39, 40, 41, 42, 43, 44, 45, 46, 47, 48, 49, 50, 51, 52, 53, 54, 55] (by decide +kernel) (by decide +kernel)
set_option maxRecDepth 20000 in
theorem gX1_reach_X1_leads : GoodIn wsX1_reach (wsV RX1 94 RX1 yX1_leads wsX1_leads) := goodIn_app (goodIn_of _ (by decide +kernel)) ggX1_reach_X1_leads
set_option maxRecDepth 20000 in
theorem ggX1_reach_X1_entry : GoodIn wsX1_reach wsX1_entry := goodIn_r _ [35, 36, 37, 38, 39, 40, 41, 42, 43, 44, 45, 46, 47, 48, 49, 50, 51, 52, 53, 54, 55] (by decide +kernel) (by decide +kernel)
set_option maxRecDepth 20000 in
theorem gX1_reach_X1_entry : GoodIn wsX1_reach (wsV RX1 98 RX1 yX1_entry wsX1_entry) := goodIn_app (goodIn_of _ (by decide +kernel)) ggX1_reach_X1_entry
set_option maxRecDepth 20000 in
theorem ggX1_reach_X1_seconds : GoodIn wsX1_reach wsX1_seconds := goodIn_r _ [22, 23, 24, 39, 40, 41, 42, 43, 44, 45, 46, 47, 48, 49, 50, 51, 52, 53, 54, 55] (by decide +kernel) (by decide +kernel)
set_option maxRecDepth 20000 in
theorem gX1_reach_X1_seconds : GoodIn wsX1_reach (wsV RX1 85 RX1 yX1_seconds wsX1_seconds) := goodIn_app (goodIn_of _ (by decide +kernel)) ggX1_reach_X1_seconds
theorem dX1_reach_0 : decode cX1_reach 0 = .ok (.iconst 0, 1) := by decide +kernel
theorem dX1_reach_1 : decode cX1_reach 1 = .ok (.istore 4, 2) := by decide +kernel
theorem dX1_reach_3 : decode cX1_reach 3 = .ok (.iload 4, 2) := by decide +kernel
theorem dX1_reach_5 : decode cX1_reach 5 = .ok (.bipush 120, 2) := by decide +kernel
theorem dX1_reach_7 : decode cX1_reach 7 = .ok (.if_icmp .ge 29, 3) := by decide +kernel
theorem dX1_reach_10 : decode cX1_reach 10 = .ok (.aload_n 0, 1) := by decide +kernel
theorem dX1_reach_11 : decode cX1_reach 11 = .ok (.getfield 42, 3) := by decide +kernel
theorem dX1_reach_14 : decode cX1_reach 14 = .ok (.iload 4, 2) := by decide +kernel
theorem dX1_reach_16 : decode cX1_reach 16 = .ok (.ldc2_w 89, 3) := by decide +kernel
theorem dX1_reach_19 : decode cX1_reach 19 = .ok (.lastore, 1) := by decide +kernel
theorem dX1_reach_20 : decode cX1_reach 20 = .ok (.aload_n 0, 1) := by decide +kernel
theorem dX1_reach_21 : decode cX1_reach 21 = .ok (.getfield 45, 3) := by decide +kernel
theorem dX1_reach_24 : decode cX1_reach 24 = .ok (.iload 4, 2) := by decide +kernel
theorem dX1_reach_26 : decode cX1_reach 26 = .ok (.ldc2_w 89, 3) := by decide +kernel
theorem dX1_reach_29 : decode cX1_reach 29 = .ok (.lastore, 1) := by decide +kernel
theorem dX1_reach_30 : decode cX1_reach 30 = .ok (.iinc 4 1, 3) := by decide +kernel
theorem dX1_reach_33 : decode cX1_reach 33 = .ok (.goto (-30), 3) := by decide +kernel
theorem dX1_reach_36 : decode cX1_reach 36 = .ok (.aload_n 0, 1) := by decide +kernel
theorem dX1_reach_37 : decode cX1_reach 37 = .ok (.getfield 45, 3) := by decide +kernel
theorem dX1_reach_40 : decode cX1_reach 40 = .ok (.aload_n 0, 1) := by decide +kernel
theorem dX1_reach_41 : decode cX1_reach 41 = .ok (.getfield 33, 3) := by decide +kernel
theorem dX1_reach_44 : decode cX1_reach 44 = .ok (.iload_n 1, 1) := by decide +kernel
theorem dX1_reach_45 : decode cX1_reach 45 = .ok (.iaload, 1) := by decide +kernel
theorem dX1_reach_46 : decode cX1_reach 46 = .ok (.aload_n 0, 1) := by decide +kernel
theorem dX1_reach_47 : decode cX1_reach 47 = .ok (.iload_n 1, 1) := by decide +kernel
theorem dX1_reach_48 : decode cX1_reach 48 = .ok (.lload_n 2, 1) := by decide +kernel
theorem dX1_reach_49 : decode cX1_reach 49 = .ok (.invokevirtual 91, 3) := by decide +kernel
