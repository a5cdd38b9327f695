theorem dX1_reach_52 : decode cX1_reach 52 = .ok (.lastore, 1) := by decide +kernel
theorem dX1_reach_53 : decode cX1_reach 53 = .ok (.iconst 1, 1) := by decide +kernel
theorem dX1_reach_54 : decode cX1_reach 54 = .ok (.istore 4, 2) := by decide +kernel
theorem dX1_reach_56 : decode cX1_reach 56 = .ok (.iload 4, 2) := by decide +kernel
theorem dX1_reach_58 : decode cX1_reach 58 = .ok (.ifCond .eq 166, 3) := by decide +kernel
theorem dX1_reach_61 : decode cX1_reach 61 = .ok (.iconst 0, 1) := by decide +kernel
theorem dX1_reach_62 : decode cX1_reach 62 = .ok (.istore 4, 2) := by decide +kernel
theorem dX1_reach_64 : decode cX1_reach 64 = .ok (.iconst 0, 1) := by decide +kernel
theorem dX1_reach_65 : decode cX1_reach 65 = .ok (.istore 5, 2) := by decide +kernel
theorem dX1_reach_67 : decode cX1_reach 67 = .ok (.iload 5, 2) := by decide +kernel
theorem dX1_reach_69 : decode cX1_reach 69 = .ok (.aload_n 0, 1) := by decide +kernel
theorem dX1_reach_70 : decode cX1_reach 70 = .ok (.getfield 55, 3) := by decide +kernel
theorem dX1_reach_73 : decode cX1_reach 73 = .ok (.if_icmp .ge 148, 3) := by decide +kernel
theorem dX1_reach_76 : decode cX1_reach 76 = .ok (.iconst 0, 1) := by decide +kernel
theorem dX1_reach_77 : decode cX1_reach 77 = .ok (.istore 6, 2) := by decide +kernel
theorem dX1_reach_79 : decode cX1_reach 79 = .ok (.iload 6, 2) := by decide +kernel
theorem dX1_reach_81 : decode cX1_reach 81 = .ok (.aload_n 0, 1) := by decide +kernel
theorem dX1_reach_82 : decode cX1_reach 82 = .ok (.getfield 55, 3) := by decide +kernel
theorem dX1_reach_85 : decode cX1_reach 85 = .ok (.if_icmp .ge 130, 3) := by decide +kernel
theorem dX1_reach_88 : decode cX1_reach 88 = .ok (.aload_n 0, 1) := by decide +kernel
theorem dX1_reach_89 : decode cX1_reach 89 = .ok (.getfield 45, 3) := by decide +kernel
theorem dX1_reach_92 : decode cX1_reach 92 = .ok (.iload 5, 2) := by decide +kernel
theorem dX1_reach_94 : decode cX1_reach 94 = .ok (.laload, 1) := by decide +kernel
theorem dX1_reach_95 : decode cX1_reach 95 = .ok (.ldc2_w 89, 3) := by decide +kernel
theorem dX1_reach_98 : decode cX1_reach 98 = .ok (.lcmp, 1) := by decide +kernel
theorem dX1_reach_99 : decode cX1_reach 99 = .ok (.ifCond .ge 116, 3) := by decide +kernel
theorem dX1_reach_102 : decode cX1_reach 102 = .ok (.aload_n 0, 1) := by decide +kernel
theorem dX1_reach_103 : decode cX1_reach 103 = .ok (.iload 5, 2) := by decide +kernel
theorem dX1_reach_105 : decode cX1_reach 105 = .ok (.iload 6, 2) := by decide +kernel
theorem dX1_reach_107 : decode cX1_reach 107 = .ok (.invokevirtual 94, 3) := by decide +kernel
theorem dX1_reach_110 : decode cX1_reach 110 = .ok (.ifCond .eq 19, 3) := by decide +kernel
theorem dX1_reach_113 : decode cX1_reach 113 = .ok (.aload_n 0, 1) := by decide +kernel
theorem dX1_reach_114 : decode cX1_reach 114 = .ok (.iload 6, 2) := by decide +kernel
theorem dX1_reach_116 : decode cX1_reach 116 = .ok (.aload_n 0, 1) := by decide +kernel
theorem dX1_reach_117 : decode cX1_reach 117 = .ok (.getfield 45, 3) := by decide +kernel
theorem dX1_reach_120 : decode cX1_reach 120 = .ok (.iload 5, 2) := by decide +kernel
theorem dX1_reach_122 : decode cX1_reach 122 = .ok (.laload, 1) := by decide +kernel
theorem dX1_reach_123 : decode cX1_reach 123 = .ok (.invokevirtual 98, 3) := by decide +kernel
theorem dX1_reach_126 : decode cX1_reach 126 = .ok (.goto 6, 3) := by decide +kernel
theorem dX1_reach_129 : decode cX1_reach 129 = .ok (.ldc2_w 89, 3) := by decide +kernel
theorem dX1_reach_132 : decode cX1_reach 132 = .ok (.lstore 7, 2) := by decide +kernel
theorem dX1_reach_134 : decode cX1_reach 134 = .ok (.lload 7, 2) := by decide +kernel
theorem dX1_reach_136 : decode cX1_reach 136 = .ok (.aload_n 0, 1) := by decide +kernel
theorem dX1_reach_137 : decode cX1_reach 137 = .ok (.getfield 42, 3) := by decide +kernel
theorem dX1_reach_140 : decode cX1_reach 140 = .ok (.iload 6, 2) := by decide +kernel
theorem dX1_reach_142 : decode cX1_reach 142 = .ok (.laload, 1) := by decide +kernel
theorem dX1_reach_143 : decode cX1_reach 143 = .ok (.lcmp, 1) := by decide +kernel
theorem dX1_reach_144 : decode cX1_reach 144 = .ok (.ifCond .ge 65, 3) := by decide +kernel
theorem dX1_reach_147 : decode cX1_reach 147 = .ok (.aload_n 0, 1) := by decide +kernel
theorem dX1_reach_148 : decode cX1_reach 148 = .ok (.getfield 42, 3) := by decide +kernel
theorem dX1_reach_151 : decode cX1_reach 151 = .ok (.iload 6, 2) := by decide +kernel
theorem dX1_reach_153 : decode cX1_reach 153 = .ok (.lload 7, 2) := by decide +kernel
theorem dX1_reach_155 : decode cX1_reach 155 = .ok (.lastore, 1) := by decide +kernel
theorem dX1_reach_156 : decode cX1_reach 156 = .ok (.lload 7, 2) := by decide +kernel
theorem dX1_reach_158 : decode cX1_reach 158 = .ok (.aload_n 0, 1) := by decide +kernel
theorem dX1_reach_159 : decode cX1_reach 159 = .ok (.iload 6, 2) := by decide +kernel
theorem dX1_reach_161 : decode cX1_reach 161 = .ok (.aload_n 0, 1) := by decide +kernel
theorem dX1_reach_162 : decode cX1_reach 162 = .ok (.getfield 16, 3) := by decide +kernel
theorem dX1_reach_165 : decode cX1_reach 165 = .ok (.iload 6, 2) := by decide +kernel
theorem dX1_reach_167 : decode cX1_reach 167 = .ok (.laload, 1) := by decide +kernel
theorem dX1_reach_168 : decode cX1_reach 168 = .ok (.invokevirtual 85, 3) := by decide +kernel
theorem dX1_reach_171 : decode cX1_reach 171 = .ok (.ladd, 1) := by decide +kernel
theorem dX1_reach_172 : decode cX1_reach 172 = .ok (.lstore 9, 2) := by decide +kernel
theorem dX1_reach_174 : decode cX1_reach 174 = .ok (.aload_n 0, 1) := by decide +kernel
theorem dX1_reach_175 : decode cX1_reach 175 = .ok (.getfield 45, 3) := by decide +kernel
theorem dX1_reach_178 : decode cX1_reach 178 = .ok (.iload 6, 2) := by decide +kernel
theorem dX1_reach_180 : decode cX1_reach 180 = .ok (.lload 9, 2) := by decide +kernel
theorem dX1_reach_182 : decode cX1_reach 182 = .ok (.aload_n 0, 1) := by decide +kernel
theorem dX1_reach_183 : decode cX1_reach 183 = .ok (.getfield 45, 3) := by decide +kernel
theorem dX1_reach_186 : decode cX1_reach 186 = .ok (.iload 6, 2) := by decide +kernel
theorem dX1_reach_188 : decode cX1_reach 188 = .ok (.laload, 1) := by decide +kernel
theorem dX1_reach_189 : decode cX1_reach 189 = .ok (.lcmp, 1) := by decide +kernel
theorem dX1_reach_190 : decode cX1_reach 190 = .ok (.ifCond .ge 8, 3) := by decide +kernel
theorem dX1_reach_193 : decode cX1_reach 193 = .ok (.lload 9, 2) := by decide +kernel
theorem dX1_reach_195 : decode cX1_reach 195 = .ok (.goto 10, 3) := by decide +kernel
theorem dX1_reach_198 : decode cX1_reach 198 = .ok (.aload_n 0, 1) := by decide +kernel
theorem dX1_reach_199 : decode cX1_reach 199 = .ok (.getfield 45, 3) := by decide +kernel
theorem dX1_reach_202 : decode cX1_reach 202 = .ok (.iload 6, 2) := by decide +kernel
theorem dX1_reach_204 : decode cX1_reach 204 = .ok (.laload, 1) := by decide +kernel
theorem dX1_reach_205 : decode cX1_reach 205 = .ok (.lastore, 1) := by decide +kernel
theorem dX1_reach_206 : decode cX1_reach 206 = .ok (.iconst 1, 1) := by decide +kernel
theorem dX1_reach_207 : decode cX1_reach 207 = .ok (.istore 4, 2) := by decide +kernel
theorem dX1_reach_209 : decode cX1_reach 209 = .ok (.iinc 6 1, 3) := by decide +kernel
theorem dX1_reach_212 : decode cX1_reach 212 = .ok (.goto (-133), 3) := by decide +kernel
theorem dX1_reach_215 : decode cX1_reach 215 = .ok (.iinc 5 1, 3) := by decide +kernel
theorem dX1_reach_218 : decode cX1_reach 218 = .ok (.goto (-151), 3) := by decide +kernel
theorem dX1_reach_221 : decode cX1_reach 221 = .ok (.goto (-165), 3) := by decide +kernel
theorem dX1_reach_224 : decode cX1_reach 224 = .ok (.return_, 1) := by decide +kernel
set_option maxRecDepth 20000 in
theorem ggX1_straight_X1_crossing : GoodIn wsX1_straight wsX1_crossing := goodIn_r _ [8, 9, 10, 17, 18, 19, 20, 21, 22, 23, 24, 25, 26, 27, 28, 29, 30, 31, 32, 33] (by decide +kernel) (by decide +kernel)
set_option maxRecDepth 20000 in
theorem gX1_straight_X1_crossing : GoodIn wsX1_straight (wsV RX1 81 RX1 yX1_crossing wsX1_crossing) := goodIn_app (goodIn_of _ (by decide +kernel)) ggX1_straight_X1_crossing
set_option maxRecDepth 20000 in
theorem ggX1_straight_X1_seconds : GoodIn wsX1_straight wsX1_seconds := goodIn_r _ [14, 15, 16, 17, 18, 19, 20, 21, 22, 23, 24, 25, 26, 27, 28, 29, 30, 31, 32, 33] (by decide +kernel) (by decide +kernel)
set_option maxRecDepth 20000 in
theorem gX1_straight_X1_seconds : GoodIn wsX1_straight (wsV RX1 85 RX1 yX1_seconds wsX1_seconds) := goodIn_app (goodIn_of _ (by decide +kernel)) ggX1_straight_X1_seconds
theorem dX1_straight_0 : decode cX1_straight 0 = .ok (.aload_n 0, 1) := by decide +kernel
theorem dX1_straight_1 : decode cX1_straight 1 = .ok (.getfield 33, 3) := by decide +kernel
theorem dX1_straight_4 : decode cX1_straight 4 = .ok (.iload_n 1, 1) := by decide +kernel
theorem dX1_straight_5 : decode cX1_straight 5 = .ok (.iaload, 1) := by decide +kernel
theorem dX1_straight_6 : decode cX1_straight 6 = .ok (.aload_n 0, 1) := by decide +kernel
theorem dX1_straight_7 : decode cX1_straight 7 = .ok (.getfield 33, 3) := by decide +kernel
theorem dX1_straight_10 : decode cX1_straight 10 = .ok (.iload_n 2, 1) := by decide +kernel
theorem dX1_straight_11 : decode cX1_straight 11 = .ok (.iaload, 1) := by decide +kernel
theorem dX1_straight_12 : decode cX1_straight 12 = .ok (.if_icmp .ne 23, 3) := by decide +kernel
theorem dX1_straight_15 : decode cX1_straight 15 = .ok (.aload_n 0, 1) := by decide +kernel
theorem dX1_straight_16 : decode cX1_straight 16 = .ok (.getfield 39, 3) := by decide +kernel
theorem dX1_straight_19 : decode cX1_straight 19 = .ok (.iload_n 2, 1) := by decide +kernel
theorem dX1_straight_20 : decode cX1_straight 20 = .ok (.laload, 1) := by decide +kernel
theorem dX1_straight_21 : decode cX1_straight 21 = .ok (.aload_n 0, 1) := by decide +kernel
theorem dX1_straight_22 : decode cX1_straight 22 = .ok (.getfield 39, 3) := by decide +kernel
theorem dX1_straight_25 : decode cX1_straight 25 = .ok (.iload_n 1, 1) := by decide +kernel
theorem dX1_straight_26 : decode cX1_straight 26 = .ok (.laload, 1) := by decide +kernel
theorem dX1_straight_27 : decode cX1_straight 27 = .ok (.lcmp, 1) := by decide +kernel
theorem dX1_straight_28 : decode cX1_straight 28 = .ok (.ifCond .lt 7, 3) := by decide +kernel
theorem dX1_straight_31 : decode cX1_straight 31 = .ok (.iconst 1, 1) := by decide +kernel
theorem dX1_straight_32 : decode cX1_straight 32 = .ok (.goto 4, 3) := by decide +kernel
theorem dX1_straight_35 : decode cX1_straight 35 = .ok (.iconst 0, 1) := by decide +kernel
theorem dX1_straight_36 : decode cX1_straight 36 = .ok (.istore 5, 2) := by decide +kernel
theorem dX1_straight_38 : decode cX1_straight 38 = .ok (.iload 5, 2) := by decide +kernel
theorem dX1_straight_40 : decode cX1_straight 40 = .ok (.ifCond .eq 43, 3) := by decide +kernel
theorem dX1_straight_43 : decode cX1_straight 43 = .ok (.lload_n 3, 1) := by decide +kernel
theorem dX1_straight_44 : decode cX1_straight 44 = .ok (.aload_n 0, 1) := by decide +kernel
theorem dX1_straight_45 : decode cX1_straight 45 = .ok (.iload_n 1, 1) := by decide +kernel
theorem dX1_straight_46 : decode cX1_straight 46 = .ok (.invokevirtual 81, 3) := by decide +kernel
theorem dX1_straight_49 : decode cX1_straight 49 = .ok (.ladd, 1) := by decide +kernel
theorem dX1_straight_50 : decode cX1_straight 50 = .ok (.aload_n 0, 1) := by decide +kernel
theorem dX1_straight_51 : decode cX1_straight 51 = .ok (.aload_n 0, 1) := by decide +kernel
theorem dX1_straight_52 : decode cX1_straight 52 = .ok (.getfield 33, 3) := by decide +kernel
theorem dX1_straight_55 : decode cX1_straight 55 = .ok (.iload_n 1, 1) := by decide +kernel
theorem dX1_straight_56 : decode cX1_straight 56 = .ok (.iaload, 1) := by decide +kernel
theorem dX1_straight_57 : decode cX1_straight 57 = .ok (.aload_n 0, 1) := by decide +kernel
theorem dX1_straight_58 : decode cX1_straight 58 = .ok (.getfield 39, 3) := by decide +kernel
theorem dX1_straight_61 : decode cX1_straight 61 = .ok (.iload_n 2, 1) := by decide +kernel
theorem dX1_straight_62 : decode cX1_straight 62 = .ok (.laload, 1) := by decide +kernel
theorem dX1_straight_63 : decode cX1_straight 63 = .ok (.aload_n 0, 1) := by decide +kernel
theorem dX1_straight_64 : decode cX1_straight 64 = .ok (.getfield 39, 3) := by decide +kernel
theorem dX1_straight_67 : decode cX1_straight 67 = .ok (.iload_n 1, 1) := by decide +kernel
theorem dX1_straight_68 : decode cX1_straight 68 = .ok (.laload, 1) := by decide +kernel
theorem dX1_straight_69 : decode cX1_straight 69 = .ok (.lsub, 1) := by decide +kernel
theorem dX1_straight_70 : decode cX1_straight 70 = .ok (.invokevirtual 85, 3) := by decide +kernel
theorem dX1_straight_73 : decode cX1_straight 73 = .ok (.ladd, 1) := by decide +kernel
theorem dX1_straight_74 : decode cX1_straight 74 = .ok (.aload_n 0, 1) := by decide +kernel
theorem dX1_straight_75 : decode cX1_straight 75 = .ok (.iload_n 2, 1) := by decide +kernel
theorem dX1_straight_76 : decode cX1_straight 76 = .ok (.invokevirtual 81, 3) := by decide +kernel
theorem dX1_straight_79 : decode cX1_straight 79 = .ok (.ladd, 1) := by decide +kernel
theorem dX1_straight_80 : decode cX1_straight 80 = .ok (.goto 6, 3) := by decide +kernel
theorem dX1_straight_83 : decode cX1_straight 83 = .ok (.ldc2_w 89, 3) := by decide +kernel
theorem dX1_straight_86 : decode cX1_straight 86 = .ok (.lreturn, 1) := by decide +kernel
set_option maxRecDepth 20000 in
theorem ggX1_around_X1_seconds : GoodIn wsX1_around wsX1_seconds := goodIn_r _ [9, 10, 11, 18, 19, 20, 21, 22, 23, 24, 25, 26, 27, 28, 29, 30, 31, 32, 33, 34] (by decide +kernel) (by decide +kernel)
set_option maxRecDepth 20000 in
theorem gX1_around_X1_seconds : GoodIn wsX1_around (wsV RX1 85 RX1 yX1_seconds wsX1_seconds) := goodIn_app (goodIn_of _ (by decide +kernel)) ggX1_around_X1_seconds
set_option maxRecDepth 20000 in
theorem ggX1_around_X1_crossing : GoodIn wsX1_around wsX1_crossing := goodIn_r _ [15, 16, 17, 18, 19, 20, 21, 22, 23, 24, 25, 26, 27, 28, 29, 30, 31, 32, 33, 34] (by decide +kernel) (by decide +kernel)
set_option maxRecDepth 20000 in
theorem gX1_around_X1_crossing : GoodIn wsX1_around (wsV RX1 81 RX1 yX1_crossing wsX1_crossing) := goodIn_app (goodIn_of _ (by decide +kernel)) ggX1_around_X1_crossing
theorem dX1_around_0 : decode cX1_around 0 = .ok (.aload_n 0, 1) := by decide +kernel
theorem dX1_around_1 : decode cX1_around 1 = .ok (.getfield 33, 3) := by decide +kernel
theorem dX1_around_4 : decode cX1_around 4 = .ok (.iload_n 1, 1) := by decide +kernel
theorem dX1_around_5 : decode cX1_around 5 = .ok (.iaload, 1) := by decide +kernel
theorem dX1_around_6 : decode cX1_around 6 = .ok (.istore_n 2, 1) := by decide +kernel
theorem dX1_around_7 : decode cX1_around 7 = .ok (.aload_n 0, 1) := by decide +kernel
theorem dX1_around_8 : decode cX1_around 8 = .ok (.getfield 42, 3) := by decide +kernel
theorem dX1_around_11 : decode cX1_around 11 = .ok (.iload_n 2, 1) := by decide +kernel
theorem dX1_around_12 : decode cX1_around 12 = .ok (.laload, 1) := by decide +kernel
theorem dX1_around_13 : decode cX1_around 13 = .ok (.ldc2_w 89, 3) := by decide +kernel
theorem dX1_around_16 : decode cX1_around 16 = .ok (.lcmp, 1) := by decide +kernel
theorem dX1_around_17 : decode cX1_around 17 = .ok (.ifCond .ne 9, 3) := by decide +kernel
theorem dX1_around_20 : decode cX1_around 20 = .ok (.ldc2_w 89, 3) := by decide +kernel
theorem dX1_around_23 : decode cX1_around 23 = .ok (.goto 27, 3) := by decide +kernel
theorem dX1_around_26 : decode cX1_around 26 = .ok (.aload_n 0, 1) := by decide +kernel
theorem dX1_around_27 : decode cX1_around 27 = .ok (.getfield 42, 3) := by decide +kernel
theorem dX1_around_30 : decode cX1_around 30 = .ok (.iload_n 2, 1) := by decide +kernel
theorem dX1_around_31 : decode cX1_around 31 = .ok (.laload, 1) := by decide +kernel
theorem dX1_around_32 : decode cX1_around 32 = .ok (.aload_n 0, 1) := by decide +kernel
theorem dX1_around_33 : decode cX1_around 33 = .ok (.iload_n 2, 1) := by decide +kernel
theorem dX1_around_34 : decode cX1_around 34 = .ok (.aload_n 0, 1) := by decide +kernel
theorem dX1_around_35 : decode cX1_around 35 = .ok (.getfield 39, 3) := by decide +kernel
theorem dX1_around_38 : decode cX1_around 38 = .ok (.iload_n 1, 1) := by decide +kernel
theorem dX1_around_39 : decode cX1_around 39 = .ok (.laload, 1) := by decide +kernel
theorem dX1_around_40 : decode cX1_around 40 = .ok (.invokevirtual 85, 3) := by decide +kernel
theorem dX1_around_43 : decode cX1_around 43 = .ok (.ladd, 1) := by decide +kernel
theorem dX1_around_44 : decode cX1_around 44 = .ok (.aload_n 0, 1) := by decide +kernel
theorem dX1_around_45 : decode cX1_around 45 = .ok (.iload_n 1, 1) := by decide +kernel
theorem dX1_around_46 : decode cX1_around 46 = .ok (.invokevirtual 81, 3) := by decide +kernel
theorem dX1_around_49 : decode cX1_around 49 = .ok (.ladd, 1) := by decide +kernel
theorem dX1_around_50 : decode cX1_around 50 = .ok (.lreturn, 1) := by decide +kernel
set_option maxRecDepth 20000 in
theorem ggX1_before_X1_leads : GoodIn wsX1_before wsX1_leads := goodIn_r _ [9, 10, 11, 12, 20, 21, 22, 23, 24, 25, 26, 27, 28, 29, 30, 31, 32, 33, 34, 35, 36] (by decide +kernel) (by decide +kernel)
set_option maxRecDepth 20000 in
theorem gX1_before_X1_leads : GoodIn wsX1_before (wsV RX1 94 RX1 yX1_leads wsX1_leads) := goodIn_app (goodIn_of _ (by decide +kernel)) ggX1_before_X1_leads
set_option maxRecDepth 20000 in
theorem ggX1_before_X1_entry : GoodIn wsX1_before wsX1_entry := goodIn_r _ [16, 17, 18, 19, 20, 21, 22, 23, 24, 25, 26, 27, 28, 29, 30, 31, 32, 33, 34, 35, 36] (by decide +kernel) (by decide +kernel)
set_option maxRecDepth 20000 in
theorem gX1_before_X1_entry : GoodIn wsX1_before (wsV RX1 98 RX1 yX1_entry wsX1_entry) := goodIn_app (goodIn_of _ (by decide +kernel)) ggX1_before_X1_entry
theorem dX1_before_0 : decode cX1_before 0 = .ok (.iconst (-1), 1) := by decide +kernel
theorem dX1_before_1 : decode cX1_before 1 = .ok (.istore_n 2, 1) := by decide +kernel
theorem dX1_before_2 : decode cX1_before 2 = .ok (.aload_n 0, 1) := by decide +kernel
theorem dX1_before_3 : decode cX1_before 3 = .ok (.getfield 55, 3) := by decide +kernel
theorem dX1_before_6 : decode cX1_before 6 = .ok (.iconst 1, 1) := by decide +kernel
theorem dX1_before_7 : decode cX1_before 7 = .ok (.isub, 1) := by decide +kernel
theorem dX1_before_8 : decode cX1_before 8 = .ok (.istore_n 3, 1) := by decide +kernel
theorem dX1_before_9 : decode cX1_before 9 = .ok (.iload_n 3, 1) := by decide +kernel
theorem dX1_before_10 : decode cX1_before 10 = .ok (.ifCond .lt 58, 3) := by decide +kernel
theorem dX1_before_13 : decode cX1_before 13 = .ok (.aload_n 0, 1) := by decide +kernel
theorem dX1_before_14 : decode cX1_before 14 = .ok (.iload_n 3, 1) := by decide +kernel
theorem dX1_before_15 : decode cX1_before 15 = .ok (.iload_n 1, 1) := by decide +kernel
theorem dX1_before_16 : decode cX1_before 16 = .ok (.invokevirtual 94, 3) := by decide +kernel
theorem dX1_before_19 : decode cX1_before 19 = .ok (.ifCond .eq 41, 3) := by decide +kernel
theorem dX1_before_22 : decode cX1_before 22 = .ok (.aload_n 0, 1) := by decide +kernel
theorem dX1_before_23 : decode cX1_before 23 = .ok (.getfield 45, 3) := by decide +kernel
theorem dX1_before_26 : decode cX1_before 26 = .ok (.iload_n 3, 1) := by decide +kernel
theorem dX1_before_27 : decode cX1_before 27 = .ok (.laload, 1) := by decide +kernel
theorem dX1_before_28 : decode cX1_before 28 = .ok (.ldc2_w 89, 3) := by decide +kernel
theorem dX1_before_31 : decode cX1_before 31 = .ok (.lcmp, 1) := by decide +kernel
theorem dX1_before_32 : decode cX1_before 32 = .ok (.ifCond .ge 28, 3) := by decide +kernel
theorem dX1_before_35 : decode cX1_before 35 = .ok (.aload_n 0, 1) := by decide +kernel
theorem dX1_before_36 : decode cX1_before 36 = .ok (.iload_n 1, 1) := by decide +kernel
theorem dX1_before_37 : decode cX1_before 37 = .ok (.aload_n 0, 1) := by decide +kernel
theorem dX1_before_38 : decode cX1_before 38 = .ok (.getfield 45, 3) := by decide +kernel
theorem dX1_before_41 : decode cX1_before 41 = .ok (.iload_n 3, 1) := by decide +kernel
theorem dX1_before_42 : decode cX1_before 42 = .ok (.laload, 1) := by decide +kernel
theorem dX1_before_43 : decode cX1_before 43 = .ok (.invokevirtual 98, 3) := by decide +kernel
theorem dX1_before_46 : decode cX1_before 46 = .ok (.aload_n 0, 1) := by decide +kernel
theorem dX1_before_47 : decode cX1_before 47 = .ok (.getfield 42, 3) := by decide +kernel
theorem dX1_before_50 : decode cX1_before 50 = .ok (.iload_n 1, 1) := by decide +kernel
theorem dX1_before_51 : decode cX1_before 51 = .ok (.laload, 1) := by decide +kernel
theorem dX1_before_52 : decode cX1_before 52 = .ok (.lcmp, 1) := by decide +kernel
theorem dX1_before_53 : decode cX1_before 53 = .ok (.ifCond .ne 7, 3) := by decide +kernel
theorem dX1_before_56 : decode cX1_before 56 = .ok (.iload_n 3, 1) := by decide +kernel
theorem dX1_before_57 : decode cX1_before 57 = .ok (.goto 4, 3) := by decide +kernel
theorem dX1_before_60 : decode cX1_before 60 = .ok (.iload_n 2, 1) := by decide +kernel
theorem dX1_before_61 : decode cX1_before 61 = .ok (.istore_n 2, 1) := by decide +kernel
theorem dX1_before_62 : decode cX1_before 62 = .ok (.iinc 3 (-1), 3) := by decide +kernel
theorem dX1_before_65 : decode cX1_before 65 = .ok (.goto (-56), 3) := by decide +kernel
theorem dX1_before_68 : decode cX1_before 68 = .ok (.iload_n 2, 1) := by decide +kernel
theorem dX1_before_69 : decode cX1_before 69 = .ok (.ireturn, 1) := by decide +kernel
set_option maxRecDepth 20000 in
theorem ggX1_way_X1_isStop : GoodIn wsX1_way wsX1_isStop := goodIn_r _ [15, 16, 70, 71, 72, 73, 74, 75, 76, 77, 78, 79, 80, 81, 82, 83, 84, 85, 86] (by decide +kernel) (by decide +kernel)
set_option maxRecDepth 20000 in
theorem gX1_way_X1_isStop : GoodIn wsX1_way (wsV RX1 101 RX1 yX1_isStop wsX1_isStop) := goodIn_app (goodIn_of _ (by decide +kernel)) ggX1_way_X1_isStop
set_option maxRecDepth 20000 in
theorem ggX1_way_X1_in : GoodIn wsX1_way wsX1_in := goodIn_r _ [19] (by decide +kernel) (by decide +kernel)
set_option maxRecDepth 20000 in
theorem gX1_way_X1_in : GoodIn wsX1_way (va_wsS RX1 65 yX1_in wsX1_in) := goodIn_app (goodIn_of _ (by decide +kernel)) ggX1_way_X1_in
set_option maxRecDepth 20000 in
theorem ggX1_way_X1_reach : GoodIn wsX1_way wsX1_reach := goodIn_r _ [23, 24, 6, 10, 9, 25, 26, 27, 28, 29, 14, 30, 31, 32, 33, 34, 35, 36, 37, 38, 39, 40, 41, 42, 43, 44, 45, 46, 47, 48, 49, 50, 51, 52, 53, 54, 55, 56, 57, 70, 71, 72, 73, 74, 75, 76, 77, 78, 79, 80, 81, 82, 83, 84, 85, 86] (by decide +kernel) (by decide +kernel)
set_option maxRecDepth 20000 in
theorem gX1_way_X1_reach : GoodIn wsX1_way (wsV RX1 110 RX1 yX1_reach wsX1_reach) := goodIn_app (goodIn_of _ (by decide +kernel)) ggX1_way_X1_reach
set_option maxRecDepth 20000 in
theorem ggX1_way_X1_straight : GoodIn wsX1_way wsX1_straight := goodIn_r _ [61, 9, 31, 6, 32, 33, 34, 14, 35, 36, 37, 38, 39, 40, 41, 42, 43, 70, 71, 72, 73, 74, 75, 76, 77, 78, 79, 80, 81, 82, 83, 84, 85, 86] (by decide +kernel) (by decide +kernel)
set_option maxRecDepth 20000 in
theorem gX1_way_X1_straight : GoodIn wsX1_way (wsV RX1 114 RX1 yX1_straight wsX1_straight) := goodIn_app (goodIn_of _ (by decide +kernel)) ggX1_way_X1_straight
set_option maxRecDepth 20000 in
theorem ggX1_way_X1_around : GoodIn wsX1_way wsX1_around := goodIn_r _ [65, 9, 24, 6, 31, 38, 39, 40, 14, 41, 42, 43, 32, 33, 34, 35, 36, 37, 70, 71, 72, 73, 74, 75, 76, 77, 78, 79, 80, 81, 82, 83, 84, 85, 86] (by decide +kernel) (by decide +kernel)
set_option maxRecDepth 20000 in
theorem gX1_way_X1_around : GoodIn wsX1_way (wsV RX1 118 RX1 yX1_around wsX1_around) := goodIn_app (goodIn_of _ (by decide +kernel)) ggX1_way_X1_around
set_option maxRecDepth 20000 in
theorem ggX1_way_X1_before : GoodIn wsX1_way wsX1_before := goodIn_r _ [69, 25, 10, 6, 24, 44, 45, 46, 14, 47, 48, 49, 50, 51, 52, 53, 54, 55, 56, 57, 70, 71, 72, 73, 74, 75, 76, 77, 78, 79, 80, 81, 82, 83, 84, 85, 86] (by decide +kernel) (by decide +kernel)
set_option maxRecDepth 20000 in
theorem gX1_way_X1_before : GoodIn wsX1_way (wsV RX1 126 RX1 yX1_before wsX1_before) := goodIn_app (goodIn_of _ (by decide +kernel)) ggX1_way_X1_before
set_option maxRecDepth 20000 in
theorem ggX1_way_X1_rest : GoodIn wsX1_way wsX1_rest := goodIn_r _ [30, 9, 26, 31, 32, 33, 34, 14, 35, 36, 37, 38, 39, 40, 41, 42, 43, 70, 71, 72, 73, 74, 75, 76, 77, 78, 79, 80, 81, 82, 83, 84, 85, 86] (by decide +kernel) (by decide +kernel)
set_option maxRecDepth 20000 in
theorem gX1_way_X1_rest : GoodIn wsX1_way (wsV RX1 91 RX1 yX1_rest wsX1_rest) := goodIn_app (goodIn_of _ (by decide +kernel)) ggX1_way_X1_rest
theorem dX1_way_0 : decode cX1_way 0 = .ok (.aload_n 0, 1) := by decide +kernel
theorem dX1_way_1 : decode cX1_way 1 = .ok (.iconst 0, 1) := by decide +kernel
theorem dX1_way_2 : decode cX1_way 2 = .ok (.putfield 51, 3) := by decide +kernel
theorem dX1_way_5 : decode cX1_way 5 = .ok (.aload_n 0, 1) := by decide +kernel
theorem dX1_way_6 : decode cX1_way 6 = .ok (.iload_n 1, 1) := by decide +kernel
theorem dX1_way_7 : decode cX1_way 7 = .ok (.invokevirtual 101, 3) := by decide +kernel
theorem dX1_way_10 : decode cX1_way 10 = .ok (.ifCond .eq 11, 3) := by decide +kernel
theorem dX1_way_13 : decode cX1_way 13 = .ok (.aload_n 0, 1) := by decide +kernel
theorem dX1_way_14 : decode cX1_way 14 = .ok (.iload_n 2, 1) := by decide +kernel
theorem dX1_way_15 : decode cX1_way 15 = .ok (.invokevirtual 101, 3) := by decide +kernel
theorem dX1_way_18 : decode cX1_way 18 = .ok (.ifCond .ne 7, 3) := by decide +kernel
theorem dX1_way_21 : decode cX1_way 21 = .ok (.ldc2_w 104, 3) := by decide +kernel
theorem dX1_way_24 : decode cX1_way 24 = .ok (.lreturn, 1) := by decide +kernel
theorem dX1_way_25 : decode cX1_way 25 = .ok (.lload_n 3, 1) := by decide +kernel
theorem dX1_way_26 : decode cX1_way 26 = .ok (.lconst 0, 1) := by decide +kernel
theorem dX1_way_27 : decode cX1_way 27 = .ok (.ldc2_w 106, 3) := by decide +kernel
theorem dX1_way_30 : decode cX1_way 30 = .ok (.invokestatic 65, 3) := by decide +kernel
theorem dX1_way_33 : decode cX1_way 33 = .ok (.ifCond .ne 7, 3) := by decide +kernel
theorem dX1_way_36 : decode cX1_way 36 = .ok (.ldc2_w 108, 3) := by decide +kernel
theorem dX1_way_39 : decode cX1_way 39 = .ok (.lreturn, 1) := by decide +kernel
theorem dX1_way_40 : decode cX1_way 40 = .ok (.aload_n 0, 1) := by decide +kernel
theorem dX1_way_41 : decode cX1_way 41 = .ok (.iload_n 1, 1) := by decide +kernel
theorem dX1_way_42 : decode cX1_way 42 = .ok (.lload_n 3, 1) := by decide +kernel
theorem dX1_way_43 : decode cX1_way 43 = .ok (.invokevirtual 110, 3) := by decide +kernel
theorem dX1_way_46 : decode cX1_way 46 = .ok (.aload_n 0, 1) := by decide +kernel
theorem dX1_way_47 : decode cX1_way 47 = .ok (.iload_n 1, 1) := by decide +kernel
theorem dX1_way_48 : decode cX1_way 48 = .ok (.iload_n 2, 1) := by decide +kernel
theorem dX1_way_49 : decode cX1_way 49 = .ok (.lload_n 3, 1) := by decide +kernel
theorem dX1_way_50 : decode cX1_way 50 = .ok (.invokevirtual 114, 3) := by decide +kernel
theorem dX1_way_53 : decode cX1_way 53 = .ok (.lstore 5, 2) := by decide +kernel
theorem dX1_way_55 : decode cX1_way 55 = .ok (.aload_n 0, 1) := by decide +kernel
theorem dX1_way_56 : decode cX1_way 56 = .ok (.iload_n 2, 1) := by decide +kernel
theorem dX1_way_57 : decode cX1_way 57 = .ok (.invokevirtual 118, 3) := by decide +kernel
theorem dX1_way_60 : decode cX1_way 60 = .ok (.lstore 7, 2) := by decide +kernel
theorem dX1_way_62 : decode cX1_way 62 = .ok (.aload_n 0, 1) := by decide +kernel
theorem dX1_way_63 : decode cX1_way 63 = .ok (.iconst 0, 1) := by decide +kernel
theorem dX1_way_64 : decode cX1_way 64 = .ok (.putfield 121, 3) := by decide +kernel
theorem dX1_way_67 : decode cX1_way 67 = .ok (.lload 5, 2) := by decide +kernel
theorem dX1_way_69 : decode cX1_way 69 = .ok (.ldc2_w 89, 3) := by decide +kernel
theorem dX1_way_72 : decode cX1_way 72 = .ok (.lcmp, 1) := by decide +kernel
theorem dX1_way_73 : decode cX1_way 73 = .ok (.ifCond .ne 16, 3) := by decide +kernel
theorem dX1_way_76 : decode cX1_way 76 = .ok (.lload 7, 2) := by decide +kernel
theorem dX1_way_78 : decode cX1_way 78 = .ok (.ldc2_w 89, 3) := by decide +kernel
theorem dX1_way_81 : decode cX1_way 81 = .ok (.lcmp, 1) := by decide +kernel
theorem dX1_way_82 : decode cX1_way 82 = .ok (.ifCond .ne 7, 3) := by decide +kernel
theorem dX1_way_85 : decode cX1_way 85 = .ok (.ldc2_w 124, 3) := by decide +kernel
theorem dX1_way_88 : decode cX1_way 88 = .ok (.lreturn, 1) := by decide +kernel
theorem dX1_way_89 : decode cX1_way 89 = .ok (.aload_n 0, 1) := by decide +kernel
theorem dX1_way_90 : decode cX1_way 90 = .ok (.getfield 48, 3) := by decide +kernel
theorem dX1_way_93 : decode cX1_way 93 = .ok (.iconst 0, 1) := by decide +kernel
theorem dX1_way_94 : decode cX1_way 94 = .ok (.aload_n 0, 1) := by decide +kernel
theorem dX1_way_95 : decode cX1_way 95 = .ok (.getfield 33, 3) := by decide +kernel
theorem dX1_way_98 : decode cX1_way 98 = .ok (.iload_n 2, 1) := by decide +kernel
theorem dX1_way_99 : decode cX1_way 99 = .ok (.iaload, 1) := by decide +kernel
theorem dX1_way_100 : decode cX1_way 100 = .ok (.iastore, 1) := by decide +kernel
theorem dX1_way_101 : decode cX1_way 101 = .ok (.aload_n 0, 1) := by decide +kernel
theorem dX1_way_102 : decode cX1_way 102 = .ok (.iconst 1, 1) := by decide +kernel
theorem dX1_way_103 : decode cX1_way 103 = .ok (.putfield 121, 3) := by decide +kernel
theorem dX1_way_106 : decode cX1_way 106 = .ok (.lload 5, 2) := by decide +kernel
theorem dX1_way_108 : decode cX1_way 108 = .ok (.lload 7, 2) := by decide +kernel
theorem dX1_way_110 : decode cX1_way 110 = .ok (.lcmp, 1) := by decide +kernel
theorem dX1_way_111 : decode cX1_way 111 = .ok (.ifCond .gt 6, 3) := by decide +kernel
theorem dX1_way_114 : decode cX1_way 114 = .ok (.lload 5, 2) := by decide +kernel
theorem dX1_way_116 : decode cX1_way 116 = .ok (.lreturn, 1) := by decide +kernel
theorem dX1_way_117 : decode cX1_way 117 = .ok (.iconst 1, 1) := by decide +kernel
theorem dX1_way_118 : decode cX1_way 118 = .ok (.istore 9, 2) := by decide +kernel
theorem dX1_way_120 : decode cX1_way 120 = .ok (.iload 9, 2) := by decide +kernel
theorem dX1_way_122 : decode cX1_way 122 = .ok (.ifCond .eq 79, 3) := by decide +kernel
theorem dX1_way_125 : decode cX1_way 125 = .ok (.aload_n 0, 1) := by decide +kernel
theorem dX1_way_126 : decode cX1_way 126 = .ok (.aload_n 0, 1) := by decide +kernel
theorem dX1_way_127 : decode cX1_way 127 = .ok (.getfield 48, 3) := by decide +kernel
theorem dX1_way_130 : decode cX1_way 130 = .ok (.aload_n 0, 1) := by decide +kernel
theorem dX1_way_131 : decode cX1_way 131 = .ok (.getfield 121, 3) := by decide +kernel
theorem dX1_way_134 : decode cX1_way 134 = .ok (.iconst 1, 1) := by decide +kernel
theorem dX1_way_135 : decode cX1_way 135 = .ok (.isub, 1) := by decide +kernel
theorem dX1_way_136 : decode cX1_way 136 = .ok (.iaload, 1) := by decide +kernel
theorem dX1_way_137 : decode cX1_way 137 = .ok (.invokevirtual 126, 3) := by decide +kernel
theorem dX1_way_140 : decode cX1_way 140 = .ok (.istore 10, 2) := by decide +kernel
theorem dX1_way_142 : decode cX1_way 142 = .ok (.aload_n 0, 1) := by decide +kernel
theorem dX1_way_143 : decode cX1_way 143 = .ok (.getfield 48, 3) := by decide +kernel
theorem dX1_way_146 : decode cX1_way 146 = .ok (.aload_n 0, 1) := by decide +kernel
theorem dX1_way_147 : decode cX1_way 147 = .ok (.getfield 121, 3) := by decide +kernel
theorem dX1_way_150 : decode cX1_way 150 = .ok (.iload 10, 2) := by decide +kernel
theorem dX1_way_152 : decode cX1_way 152 = .ok (.iastore, 1) := by decide +kernel
theorem dX1_way_153 : decode cX1_way 153 = .ok (.aload_n 0, 1) := by decide +kernel
theorem dX1_way_154 : decode cX1_way 154 = .ok (.dup, 1) := by decide +kernel
theorem dX1_way_155 : decode cX1_way 155 = .ok (.getfield 121, 3) := by decide +kernel
theorem dX1_way_158 : decode cX1_way 158 = .ok (.iconst 1, 1) := by decide +kernel
theorem dX1_way_159 : decode cX1_way 159 = .ok (.iadd, 1) := by decide +kernel
theorem dX1_way_160 : decode cX1_way 160 = .ok (.putfield 121, 3) := by decide +kernel
theorem dX1_way_163 : decode cX1_way 163 = .ok (.iload 10, 2) := by decide +kernel
theorem dX1_way_165 : decode cX1_way 165 = .ok (.aload_n 0, 1) := by decide +kernel
theorem dX1_way_166 : decode cX1_way 166 = .ok (.getfield 33, 3) := by decide +kernel
theorem dX1_way_169 : decode cX1_way 169 = .ok (.iload_n 1, 1) := by decide +kernel
theorem dX1_way_170 : decode cX1_way 170 = .ok (.iaload, 1) := by decide +kernel
theorem dX1_way_171 : decode cX1_way 171 = .ok (.if_icmp .ne 20, 3) := by decide +kernel
theorem dX1_way_174 : decode cX1_way 174 = .ok (.aload_n 0, 1) := by decide +kernel
theorem dX1_way_175 : decode cX1_way 175 = .ok (.getfield 45, 3) := by decide +kernel
theorem dX1_way_178 : decode cX1_way 178 = .ok (.iload 10, 2) := by decide +kernel
theorem dX1_way_180 : decode cX1_way 180 = .ok (.laload, 1) := by decide +kernel
theorem dX1_way_181 : decode cX1_way 181 = .ok (.aload_n 0, 1) := by decide +kernel
theorem dX1_way_182 : decode cX1_way 182 = .ok (.iload_n 1, 1) := by decide +kernel
theorem dX1_way_183 : decode cX1_way 183 = .ok (.lload_n 3, 1) := by decide +kernel
theorem dX1_way_184 : decode cX1_way 184 = .ok (.invokevirtual 91, 3) := by decide +kernel
theorem dX1_way_187 : decode cX1_way 187 = .ok (.lcmp, 1) := by decide +kernel
theorem dX1_way_188 : decode cX1_way 188 = .ok (.ifCond .eq 7, 3) := by decide +kernel
theorem dX1_way_191 : decode cX1_way 191 = .ok (.iconst 1, 1) := by decide +kernel
theorem dX1_way_192 : decode cX1_way 192 = .ok (.goto 4, 3) := by decide +kernel
theorem dX1_way_195 : decode cX1_way 195 = .ok (.iconst 0, 1) := by decide +kernel
theorem dX1_way_196 : decode cX1_way 196 = .ok (.istore 9, 2) := by decide +kernel
theorem dX1_way_198 : decode cX1_way 198 = .ok (.goto (-78), 3) := by decide +kernel
theorem dX1_way_201 : decode cX1_way 201 = .ok (.lload 7, 2) := by decide +kernel
theorem dX1_way_203 : decode cX1_way 203 = .ok (.lreturn, 1) := by decide +kernel
theorem dX1_step_0 : decode cX1_step 0 = .ok (.aload_n 0, 1) := by decide +kernel
theorem dX1_step_1 : decode cX1_step 1 = .ok (.iconst 0, 1) := by decide +kernel
theorem dX1_step_2 : decode cX1_step 2 = .ok (.putfield 51, 3) := by decide +kernel
theorem dX1_step_5 : decode cX1_step 5 = .ok (.iload_n 1, 1) := by decide +kernel
theorem dX1_step_6 : decode cX1_step 6 = .ok (.ifCond .lt 27, 3) := by decide +kernel
theorem dX1_step_9 : decode cX1_step 9 = .ok (.iload_n 1, 1) := by decide +kernel
theorem dX1_step_10 : decode cX1_step 10 = .ok (.aload_n 0, 1) := by decide +kernel
theorem dX1_step_11 : decode cX1_step 11 = .ok (.getfield 121, 3) := by decide +kernel
theorem dX1_step_14 : decode cX1_step 14 = .ok (.if_icmp .ge 19, 3) := by decide +kernel
theorem dX1_step_17 : decode cX1_step 17 = .ok (.aload_n 0, 1) := by decide +kernel
theorem dX1_step_18 : decode cX1_step 18 = .ok (.getfield 48, 3) := by decide +kernel
theorem dX1_step_21 : decode cX1_step 21 = .ok (.aload_n 0, 1) := by decide +kernel
theorem dX1_step_22 : decode cX1_step 22 = .ok (.getfield 121, 3) := by decide +kernel
theorem dX1_step_25 : decode cX1_step 25 = .ok (.iconst 1, 1) := by decide +kernel
theorem dX1_step_26 : decode cX1_step 26 = .ok (.isub, 1) := by decide +kernel
theorem dX1_step_27 : decode cX1_step 27 = .ok (.iload_n 1, 1) := by decide +kernel
theorem dX1_step_28 : decode cX1_step 28 = .ok (.isub, 1) := by decide +kernel
theorem dX1_step_29 : decode cX1_step 29 = .ok (.iaload, 1) := by decide +kernel
theorem dX1_step_30 : decode cX1_step 30 = .ok (.goto 4, 3) := by decide +kernel
theorem dX1_step_33 : decode cX1_step 33 = .ok (.iconst (-1), 1) := by decide +kernel
theorem dX1_step_34 : decode cX1_step 34 = .ok (.ireturn, 1) := by decide +kernel
set_option maxRecDepth 20000 in
theorem ggX1_table_X1_isStop : GoodIn wsX1_table wsX1_isStop := goodIn_r _ [9, 10, 59, 60, 61, 62, 63, 64, 65, 66, 67, 68, 69, 70, 71, 72, 73, 74, 75] (by decide +kernel) (by decide +kernel)
set_option maxRecDepth 20000 in
theorem gX1_table_X1_isStop : GoodIn wsX1_table (wsV RX1 101 RX1 yX1_isStop wsX1_isStop) := goodIn_app (goodIn_of _ (by decide +kernel)) ggX1_table_X1_isStop
set_option maxRecDepth 20000 in
theorem ggX1_table_X1_reach : GoodIn wsX1_table wsX1_reach := goodIn_r _ [14, 15, 3, 16, 17, 18, 19, 20, 21, 22, 8, 23, 24, 25, 26, 27, 28, 29, 30, 31, 32, 33, 34, 35, 36, 37, 38, 39, 40, 41, 42, 43, 44, 45, 46, 47, 48, 49, 50, 59, 60, 61, 62, 63, 64, 65, 66, 67, 68, 69, 70, 71, 72, 73, 74, 75] (by decide +kernel) (by decide +kernel)
set_option maxRecDepth 20000 in
theorem gX1_table_X1_reach : GoodIn wsX1_table (wsV RX1 110 RX1 yX1_reach wsX1_reach) := goodIn_app (goodIn_of _ (by decide +kernel)) ggX1_table_X1_reach
set_option maxRecDepth 20000 in
theorem ggX1_table_X1_straight : GoodIn wsX1_table wsX1_straight := goodIn_r _ [54, 17, 24, 3, 25, 26, 27, 8, 28, 29, 30, 31, 32, 33, 34, 35, 36, 59, 60, 61, 62, 63, 64, 65, 66, 67, 68, 69, 70, 71, 72, 73, 74, 75] (by decide +kernel) (by decide +kernel)
set_option maxRecDepth 20000 in
theorem gX1_table_X1_straight : GoodIn wsX1_table (wsV RX1 114 RX1 yX1_straight wsX1_straight) := goodIn_app (goodIn_of _ (by decide +kernel)) ggX1_table_X1_straight
set_option maxRecDepth 20000 in
theorem ggX1_table_X1_around : GoodIn wsX1_table wsX1_around := goodIn_r _ [58, 17, 15, 3, 24, 31, 32, 33, 8, 34, 35, 36, 25, 26, 27, 28, 29, 30, 59, 60, 61, 62, 63, 64, 65, 66, 67, 68, 69, 70, 71, 72, 73, 74, 75] (by decide +kernel) (by decide +kernel)
set_option maxRecDepth 20000 in
theorem gX1_table_X1_around : GoodIn wsX1_table (wsV RX1 118 RX1 yX1_around wsX1_around) := goodIn_app (goodIn_of _ (by decide +kernel)) ggX1_table_X1_around
theorem dX1_table_0 : decode cX1_table 0 = .ok (.aload_n 0, 1) := by decide +kernel
theorem dX1_table_1 : decode cX1_table 1 = .ok (.iconst 0, 1) := by decide +kernel
theorem dX1_table_2 : decode cX1_table 2 = .ok (.putfield 51, 3) := by decide +kernel
theorem dX1_table_5 : decode cX1_table 5 = .ok (.aload_n 0, 1) := by decide +kernel
theorem dX1_table_6 : decode cX1_table 6 = .ok (.iload_n 1, 1) := by decide +kernel
theorem dX1_table_7 : decode cX1_table 7 = .ok (.invokevirtual 101, 3) := by decide +kernel
theorem dX1_table_10 : decode cX1_table 10 = .ok (.ifCond .eq 11, 3) := by decide +kernel
theorem dX1_table_13 : decode cX1_table 13 = .ok (.aload_n 0, 1) := by decide +kernel
theorem dX1_table_14 : decode cX1_table 14 = .ok (.iload_n 2, 1) := by decide +kernel
theorem dX1_table_15 : decode cX1_table 15 = .ok (.invokevirtual 101, 3) := by decide +kernel
theorem dX1_table_18 : decode cX1_table 18 = .ok (.ifCond .ne 7, 3) := by decide +kernel
theorem dX1_table_21 : decode cX1_table 21 = .ok (.ldc2_w 104, 3) := by decide +kernel
theorem dX1_table_24 : decode cX1_table 24 = .ok (.lreturn, 1) := by decide +kernel
theorem dX1_table_25 : decode cX1_table 25 = .ok (.aload_n 0, 1) := by decide +kernel
theorem dX1_table_26 : decode cX1_table 26 = .ok (.iload_n 1, 1) := by decide +kernel
theorem dX1_table_27 : decode cX1_table 27 = .ok (.lconst 0, 1) := by decide +kernel
theorem dX1_table_28 : decode cX1_table 28 = .ok (.invokevirtual 110, 3) := by decide +kernel
theorem dX1_table_31 : decode cX1_table 31 = .ok (.aload_n 0, 1) := by decide +kernel
theorem dX1_table_32 : decode cX1_table 32 = .ok (.iload_n 1, 1) := by decide +kernel
theorem dX1_table_33 : decode cX1_table 33 = .ok (.iload_n 2, 1) := by decide +kernel
theorem dX1_table_34 : decode cX1_table 34 = .ok (.lconst 0, 1) := by decide +kernel
theorem dX1_table_35 : decode cX1_table 35 = .ok (.invokevirtual 114, 3) := by decide +kernel
theorem dX1_table_38 : decode cX1_table 38 = .ok (.lstore_n 3, 1) := by decide +kernel
theorem dX1_table_39 : decode cX1_table 39 = .ok (.aload_n 0, 1) := by decide +kernel
theorem dX1_table_40 : decode cX1_table 40 = .ok (.iload_n 2, 1) := by decide +kernel
theorem dX1_table_41 : decode cX1_table 41 = .ok (.invokevirtual 118, 3) := by decide +kernel
theorem dX1_table_44 : decode cX1_table 44 = .ok (.lstore 5, 2) := by decide +kernel
theorem dX1_table_46 : decode cX1_table 46 = .ok (.lload_n 3, 1) := by decide +kernel
theorem dX1_table_47 : decode cX1_table 47 = .ok (.lload 5, 2) := by decide +kernel
theorem dX1_table_49 : decode cX1_table 49 = .ok (.lcmp, 1) := by decide +kernel
theorem dX1_table_50 : decode cX1_table 50 = .ok (.ifCond .ge 7, 3) := by decide +kernel
theorem dX1_table_53 : decode cX1_table 53 = .ok (.lload_n 3, 1) := by decide +kernel
theorem dX1_table_54 : decode cX1_table 54 = .ok (.goto 5, 3) := by decide +kernel
theorem dX1_table_57 : decode cX1_table 57 = .ok (.lload 5, 2) := by decide +kernel
theorem dX1_table_59 : decode cX1_table 59 = .ok (.lstore 7, 2) := by decide +kernel
theorem dX1_table_61 : decode cX1_table 61 = .ok (.lload 7, 2) := by decide +kernel
theorem dX1_table_63 : decode cX1_table 63 = .ok (.ldc2_w 89, 3) := by decide +kernel
theorem dX1_table_66 : decode cX1_table 66 = .ok (.lcmp, 1) := by decide +kernel
theorem dX1_table_67 : decode cX1_table 67 = .ok (.ifCond .ne 9, 3) := by decide +kernel
theorem dX1_table_70 : decode cX1_table 70 = .ok (.ldc2_w 124, 3) := by decide +kernel
theorem dX1_table_73 : decode cX1_table 73 = .ok (.goto 5, 3) := by decide +kernel
theorem dX1_table_76 : decode cX1_table 76 = .ok (.lload 7, 2) := by decide +kernel
theorem dX1_table_78 : decode cX1_table 78 = .ok (.lreturn, 1) := by decide +kernel
set_option maxRecDepth 20000 in
theorem ggX1_service_X1_isPiece : GoodIn wsX1_service wsX1_isPiece := goodIn_r _ [11, 6, 19, 20, 21, 22, 23, 24, 25, 26, 27, 28, 29, 30, 31, 32, 33, 34, 35] (by decide +kernel) (by decide +kernel)
set_option maxRecDepth 20000 in
theorem gX1_service_X1_isPiece : GoodIn wsX1_service (wsV RX1 73 RX1 yX1_isPiece wsX1_isPiece) := goodIn_app (goodIn_of _ (by decide +kernel)) ggX1_service_X1_isPiece
set_option maxRecDepth 20000 in
theorem ggX1_service_X1_leads : GoodIn wsX1_service wsX1_leads := goodIn_r _ [15, 16, 17, 18, 19, 20, 21, 22, 23, 24, 25, 26, 27, 28, 29, 30, 31, 32, 33, 34, 35] (by decide +kernel) (by decide +kernel)
set_option maxRecDepth 20000 in
theorem gX1_service_X1_leads : GoodIn wsX1_service (wsV RX1 94 RX1 yX1_leads wsX1_leads) := goodIn_app (goodIn_of _ (by decide +kernel)) ggX1_service_X1_leads
theorem dX1_service_0 : decode cX1_service 0 = .ok (.aload_n 0, 1) := by decide +kernel
theorem dX1_service_1 : decode cX1_service 1 = .ok (.iconst 0, 1) := by decide +kernel
theorem dX1_service_2 : decode cX1_service 2 = .ok (.putfield 51, 3) := by decide +kernel
theorem dX1_service_5 : decode cX1_service 5 = .ok (.aload_n 0, 1) := by decide +kernel
theorem dX1_service_6 : decode cX1_service 6 = .ok (.iload_n 1, 1) := by decide +kernel
theorem dX1_service_7 : decode cX1_service 7 = .ok (.invokevirtual 73, 3) := by decide +kernel
theorem dX1_service_10 : decode cX1_service 10 = .ok (.ifCond .ne 5, 3) := by decide +kernel
theorem dX1_service_13 : decode cX1_service 13 = .ok (.iconst 0, 1) := by decide +kernel
theorem dX1_service_14 : decode cX1_service 14 = .ok (.ireturn, 1) := by decide +kernel
theorem dX1_service_15 : decode cX1_service 15 = .ok (.iload_n 2, 1) := by decide +kernel
theorem dX1_service_16 : decode cX1_service 16 = .ok (.iconst 2, 1) := by decide +kernel
theorem dX1_service_17 : decode cX1_service 17 = .ok (.if_icmp .ne 20, 3) := by decide +kernel
theorem dX1_service_20 : decode cX1_service 20 = .ok (.aload_n 0, 1) := by decide +kernel
theorem dX1_service_21 : decode cX1_service 21 = .ok (.getfield 26, 3) := by decide +kernel
theorem dX1_service_24 : decode cX1_service 24 = .ok (.iload_n 1, 1) := by decide +kernel
theorem dX1_service_25 : decode cX1_service 25 = .ok (.laload, 1) := by decide +kernel
theorem dX1_service_26 : decode cX1_service 26 = .ok (.lconst 0, 1) := by decide +kernel
theorem dX1_service_27 : decode cX1_service 27 = .ok (.lcmp, 1) := by decide +kernel
theorem dX1_service_28 : decode cX1_service 28 = .ok (.ifCond .le 7, 3) := by decide +kernel
theorem dX1_service_31 : decode cX1_service 31 = .ok (.iconst 1, 1) := by decide +kernel
theorem dX1_service_32 : decode cX1_service 32 = .ok (.goto 4, 3) := by decide +kernel
theorem dX1_service_35 : decode cX1_service 35 = .ok (.iconst 0, 1) := by decide +kernel
theorem dX1_service_36 : decode cX1_service 36 = .ok (.ireturn, 1) := by decide +kernel
theorem dX1_service_37 : decode cX1_service 37 = .ok (.iconst 0, 1) := by decide +kernel
theorem dX1_service_38 : decode cX1_service 38 = .ok (.istore_n 3, 1) := by decide +kernel
theorem dX1_service_39 : decode cX1_service 39 = .ok (.iconst 0, 1) := by decide +kernel
theorem dX1_service_40 : decode cX1_service 40 = .ok (.istore 4, 2) := by decide +kernel
theorem dX1_service_42 : decode cX1_service 42 = .ok (.iload 4, 2) := by decide +kernel
theorem dX1_service_44 : decode cX1_service 44 = .ok (.aload_n 0, 1) := by decide +kernel
theorem dX1_service_45 : decode cX1_service 45 = .ok (.getfield 58, 3) := by decide +kernel
theorem dX1_service_48 : decode cX1_service 48 = .ok (.if_icmp .ge 50, 3) := by decide +kernel
theorem dX1_service_51 : decode cX1_service 51 = .ok (.iload_n 2, 1) := by decide +kernel
theorem dX1_service_52 : decode cX1_service 52 = .ok (.ifCond .lt 46, 3) := by decide +kernel
theorem dX1_service_55 : decode cX1_service 55 = .ok (.iload_n 2, 1) := by decide +kernel
theorem dX1_service_56 : decode cX1_service 56 = .ok (.iconst 2, 1) := by decide +kernel
theorem dX1_service_57 : decode cX1_service 57 = .ok (.if_icmp .ge 41, 3) := by decide +kernel
theorem dX1_service_60 : decode cX1_service 60 = .ok (.iload_n 3, 1) := by decide +kernel
theorem dX1_service_61 : decode cX1_service 61 = .ok (.ifCond .ne 25, 3) := by decide +kernel
theorem dX1_service_64 : decode cX1_service 64 = .ok (.aload_n 0, 1) := by decide +kernel
theorem dX1_service_65 : decode cX1_service 65 = .ok (.getfield 33, 3) := by decide +kernel
theorem dX1_service_68 : decode cX1_service 68 = .ok (.iload 4, 2) := by decide +kernel
theorem dX1_service_70 : decode cX1_service 70 = .ok (.iaload, 1) := by decide +kernel
theorem dX1_service_71 : decode cX1_service 71 = .ok (.iload_n 1, 1) := by decide +kernel
theorem dX1_service_72 : decode cX1_service 72 = .ok (.if_icmp .ne 18, 3) := by decide +kernel
theorem dX1_service_75 : decode cX1_service 75 = .ok (.aload_n 0, 1) := by decide +kernel
theorem dX1_service_76 : decode cX1_service 76 = .ok (.getfield 36, 3) := by decide +kernel
theorem dX1_service_79 : decode cX1_service 79 = .ok (.iload 4, 2) := by decide +kernel
theorem dX1_service_81 : decode cX1_service 81 = .ok (.iaload, 1) := by decide +kernel
theorem dX1_service_82 : decode cX1_service 82 = .ok (.iload_n 2, 1) := by decide +kernel
theorem dX1_service_83 : decode cX1_service 83 = .ok (.if_icmp .ne 7, 3) := by decide +kernel
theorem dX1_service_86 : decode cX1_service 86 = .ok (.iconst 1, 1) := by decide +kernel
theorem dX1_service_87 : decode cX1_service 87 = .ok (.goto 4, 3) := by decide +kernel
theorem dX1_service_90 : decode cX1_service 90 = .ok (.iconst 0, 1) := by decide +kernel
theorem dX1_service_91 : decode cX1_service 91 = .ok (.istore_n 3, 1) := by decide +kernel
theorem dX1_service_92 : decode cX1_service 92 = .ok (.iinc 4 1, 3) := by decide +kernel
theorem dX1_service_95 : decode cX1_service 95 = .ok (.goto (-53), 3) := by decide +kernel
theorem dX1_service_98 : decode cX1_service 98 = .ok (.iconst 0, 1) := by decide +kernel
theorem dX1_service_99 : decode cX1_service 99 = .ok (.istore 4, 2) := by decide +kernel
theorem dX1_service_101 : decode cX1_service 101 = .ok (.iload 4, 2) := by decide +kernel
theorem dX1_service_103 : decode cX1_service 103 = .ok (.aload_n 0, 1) := by decide +kernel
theorem dX1_service_104 : decode cX1_service 104 = .ok (.getfield 55, 3) := by decide +kernel
theorem dX1_service_107 : decode cX1_service 107 = .ok (.if_icmp .ge 34, 3) := by decide +kernel
theorem dX1_service_110 : decode cX1_service 110 = .ok (.iload_n 2, 1) := by decide +kernel
theorem dX1_service_111 : decode cX1_service 111 = .ok (.iconst 3, 1) := by decide +kernel
theorem dX1_service_112 : decode cX1_service 112 = .ok (.if_icmp .ne 29, 3) := by decide +kernel
theorem dX1_service_115 : decode cX1_service 115 = .ok (.iload_n 3, 1) := by decide +kernel
theorem dX1_service_116 : decode cX1_service 116 = .ok (.ifCond .ne 13, 3) := by decide +kernel
theorem dX1_service_119 : decode cX1_service 119 = .ok (.aload_n 0, 1) := by decide +kernel
theorem dX1_service_120 : decode cX1_service 120 = .ok (.iload_n 1, 1) := by decide +kernel
theorem dX1_service_121 : decode cX1_service 121 = .ok (.iload 4, 2) := by decide +kernel
theorem dX1_service_123 : decode cX1_service 123 = .ok (.invokevirtual 94, 3) := by decide +kernel
theorem dX1_service_126 : decode cX1_service 126 = .ok (.ifCond .eq 7, 3) := by decide +kernel
theorem dX1_service_129 : decode cX1_service 129 = .ok (.iconst 1, 1) := by decide +kernel
theorem dX1_service_130 : decode cX1_service 130 = .ok (.goto 4, 3) := by decide +kernel
theorem dX1_service_133 : decode cX1_service 133 = .ok (.iconst 0, 1) := by decide +kernel
theorem dX1_service_134 : decode cX1_service 134 = .ok (.istore_n 3, 1) := by decide +kernel
theorem dX1_service_135 : decode cX1_service 135 = .ok (.iinc 4 1, 3) := by decide +kernel
theorem dX1_service_138 : decode cX1_service 138 = .ok (.goto (-37), 3) := by decide +kernel
theorem dX1_service_141 : decode cX1_service 141 = .ok (.iload_n 3, 1) := by decide +kernel
theorem dX1_service_142 : decode cX1_service 142 = .ok (.ireturn, 1) := by decide +kernel
theorem dJx00060_init_a7421_0 : decode cJx00060_init_a7421 0 = .ok (.aload_n 0, 1) := by decide +kernel
theorem dJx00060_init_a7421_1 : decode cJx00060_init_a7421 1 = .ok (.aload_n 1, 1) := by decide +kernel
theorem dJx00060_init_a7421_2 : decode cJx00060_init_a7421 2 = .ok (.invokespecial 7, 3) := by decide +kernel
theorem dJx00060_init_a7421_5 : decode cJx00060_init_a7421 5 = .ok (.return_, 1) := by decide +kernel
theorem dJ9_max_f86c9_0 : decode cJ9_max_f86c9 0 = .ok (.lload_n 0, 1) := by decide +kernel
theorem dJ9_max_f86c9_1 : decode cJ9_max_f86c9 1 = .ok (.lload_n 2, 1) := by decide +kernel
theorem dJ9_max_f86c9_2 : decode cJ9_max_f86c9 2 = .ok (.lcmp, 1) := by decide +kernel
theorem dJ9_max_f86c9_3 : decode cJ9_max_f86c9 3 = .ok (.ifCond .lt 7, 3) := by decide +kernel
theorem dJ9_max_f86c9_6 : decode cJ9_max_f86c9 6 = .ok (.lload_n 0, 1) := by decide +kernel
theorem dJ9_max_f86c9_7 : decode cJ9_max_f86c9 7 = .ok (.goto 4, 3) := by decide +kernel
theorem dJ9_max_f86c9_10 : decode cJ9_max_f86c9 10 = .ok (.lload_n 2, 1) := by decide +kernel
theorem dJ9_max_f86c9_11 : decode cJ9_max_f86c9 11 = .ok (.lreturn, 1) := by decide +kernel
theorem dJ9_min_f86c9_0 : decode cJ9_min_f86c9 0 = .ok (.lload_n 0, 1) := by decide +kernel
theorem dJ9_min_f86c9_1 : decode cJ9_min_f86c9 1 = .ok (.lload_n 2, 1) := by decide +kernel
theorem dJ9_min_f86c9_2 : decode cJ9_min_f86c9 2 = .ok (.lcmp, 1) := by decide +kernel
theorem dJ9_min_f86c9_3 : decode cJ9_min_f86c9 3 = .ok (.ifCond .gt 7, 3) := by decide +kernel
theorem dJ9_min_f86c9_6 : decode cJ9_min_f86c9 6 = .ok (.lload_n 0, 1) := by decide +kernel
theorem dJ9_min_f86c9_7 : decode cJ9_min_f86c9 7 = .ok (.goto 4, 3) := by decide +kernel
theorem dJ9_min_f86c9_10 : decode cJ9_min_f86c9 10 = .ok (.lload_n 2, 1) := by decide +kernel
theorem dJ9_min_f86c9_11 : decode cJ9_min_f86c9 11 = .ok (.lreturn, 1) := by decide +kernel
set_option maxRecDepth 20000 in
theorem ggL_piece_X0_piece : GoodIn wsL_piece wsX0_piece := goodIn_ca (goodIn_r _ [6, 7, 8, 9, 10, 11, 12, 13, 14, 15, 16, 17, 5, 18, 19, 20, 21, 22, 23, 24, 25, 26, 27, 28, 29, 30, 31, 32, 33, 34, 35, 36] (by decide +kernel) (by decide +kernel)) (goodIn_sub (fun _ h => List.mem_cons_of_mem _ (List.mem_append_right _ h)) (by decide +kernel))
set_option maxRecDepth 20000 in
theorem gL_piece_X0_piece : GoodIn wsL_piece (wsV RL 7 RX0 yX0_piece wsX0_piece) := goodIn_app (goodIn_of _ (by decide +kernel)) ggL_piece_X0_piece
