theorem dX0_bitOfTurn_6 : decode cX0_bitOfTurn 6 = .ok (.lreturn, 1) := by decide +kernel
set_option maxRecDepth 20000 in
theorem ggX0_isBarred_X0_wordOfTurn : GoodIn wsX0_isBarred wsX0_wordOfTurn := goodIn_r _ [5] (by decide +kernel) (by decide +kernel)
set_option maxRecDepth 20000 in
theorem gX0_isBarred_X0_wordOfTurn : GoodIn wsX0_isBarred (va_wsS RX0 80 yX0_wordOfTurn wsX0_wordOfTurn) := goodIn_app (goodIn_of _ (by decide +kernel)) ggX0_isBarred_X0_wordOfTurn
set_option maxRecDepth 20000 in
theorem ggX0_isBarred_X0_bitOfTurn : GoodIn wsX0_isBarred wsX0_bitOfTurn := goodIn_r _ [8] (by decide +kernel) (by decide +kernel)
set_option maxRecDepth 20000 in
theorem gX0_isBarred_X0_bitOfTurn : GoodIn wsX0_isBarred (va_wsS RX0 84 yX0_bitOfTurn wsX0_bitOfTurn) := goodIn_app (goodIn_of _ (by decide +kernel)) ggX0_isBarred_X0_bitOfTurn
theorem dX0_isBarred_0 : decode cX0_isBarred 0 = .ok (.aload_n 0, 1) := by decide +kernel
theorem dX0_isBarred_1 : decode cX0_isBarred 1 = .ok (.getfield 29, 3) := by decide +kernel
theorem dX0_isBarred_4 : decode cX0_isBarred 4 = .ok (.iload_n 1, 1) := by decide +kernel
theorem dX0_isBarred_5 : decode cX0_isBarred 5 = .ok (.iload_n 2, 1) := by decide +kernel
theorem dX0_isBarred_6 : decode cX0_isBarred 6 = .ok (.invokestatic 80, 3) := by decide +kernel
theorem dX0_isBarred_9 : decode cX0_isBarred 9 = .ok (.laload, 1) := by decide +kernel
theorem dX0_isBarred_10 : decode cX0_isBarred 10 = .ok (.iload_n 2, 1) := by decide +kernel
theorem dX0_isBarred_11 : decode cX0_isBarred 11 = .ok (.invokestatic 84, 3) := by decide +kernel
theorem dX0_isBarred_14 : decode cX0_isBarred 14 = .ok (.land, 1) := by decide +kernel
theorem dX0_isBarred_15 : decode cX0_isBarred 15 = .ok (.lconst 0, 1) := by decide +kernel
theorem dX0_isBarred_16 : decode cX0_isBarred 16 = .ok (.lcmp, 1) := by decide +kernel
theorem dX0_isBarred_17 : decode cX0_isBarred 17 = .ok (.ifCond .eq 7, 3) := by decide +kernel
theorem dX0_isBarred_20 : decode cX0_isBarred 20 = .ok (.iconst 1, 1) := by decide +kernel
theorem dX0_isBarred_21 : decode cX0_isBarred 21 = .ok (.goto 4, 3) := by decide +kernel
theorem dX0_isBarred_24 : decode cX0_isBarred 24 = .ok (.iconst 0, 1) := by decide +kernel
theorem dX0_isBarred_25 : decode cX0_isBarred 25 = .ok (.ireturn, 1) := by decide +kernel
set_option maxRecDepth 20000 in
theorem ggX0_mayGoOn_X0_isBarred : GoodIn wsX0_mayGoOn wsX0_isBarred := goodIn_r _ [7, 8, 9, 10, 6, 11, 12, 13, 14, 15, 16, 17, 18, 19, 20, 21, 22, 23, 24, 25, 26, 27, 28, 29, 30, 31, 32] (by decide +kernel) (by decide +kernel)
set_option maxRecDepth 20000 in
theorem gX0_mayGoOn_X0_isBarred : GoodIn wsX0_mayGoOn (wsV RX0 76 RX0 yX0_isBarred wsX0_isBarred) := goodIn_app (goodIn_of _ (by decide +kernel)) ggX0_mayGoOn_X0_isBarred
theorem dX0_mayGoOn_0 : decode cX0_mayGoOn 0 = .ok (.aload_n 0, 1) := by decide +kernel
theorem dX0_mayGoOn_1 : decode cX0_mayGoOn 1 = .ok (.getfield 13, 3) := by decide +kernel
theorem dX0_mayGoOn_4 : decode cX0_mayGoOn 4 = .ok (.iload_n 1, 1) := by decide +kernel
theorem dX0_mayGoOn_5 : decode cX0_mayGoOn 5 = .ok (.iaload, 1) := by decide +kernel
theorem dX0_mayGoOn_6 : decode cX0_mayGoOn 6 = .ok (.aload_n 0, 1) := by decide +kernel
theorem dX0_mayGoOn_7 : decode cX0_mayGoOn 7 = .ok (.getfield 9, 3) := by decide +kernel
theorem dX0_mayGoOn_10 : decode cX0_mayGoOn 10 = .ok (.iload_n 2, 1) := by decide +kernel
theorem dX0_mayGoOn_11 : decode cX0_mayGoOn 11 = .ok (.iaload, 1) := by decide +kernel
theorem dX0_mayGoOn_12 : decode cX0_mayGoOn 12 = .ok (.if_icmp .ne 16, 3) := by decide +kernel
theorem dX0_mayGoOn_15 : decode cX0_mayGoOn 15 = .ok (.aload_n 0, 1) := by decide +kernel
theorem dX0_mayGoOn_16 : decode cX0_mayGoOn 16 = .ok (.iload_n 1, 1) := by decide +kernel
theorem dX0_mayGoOn_17 : decode cX0_mayGoOn 17 = .ok (.iload_n 2, 1) := by decide +kernel
theorem dX0_mayGoOn_18 : decode cX0_mayGoOn 18 = .ok (.invokevirtual 76, 3) := by decide +kernel
theorem dX0_mayGoOn_21 : decode cX0_mayGoOn 21 = .ok (.ifCond .ne 7, 3) := by decide +kernel
theorem dX0_mayGoOn_24 : decode cX0_mayGoOn 24 = .ok (.iconst 1, 1) := by decide +kernel
theorem dX0_mayGoOn_25 : decode cX0_mayGoOn 25 = .ok (.goto 4, 3) := by decide +kernel
theorem dX0_mayGoOn_28 : decode cX0_mayGoOn 28 = .ok (.iconst 0, 1) := by decide +kernel
theorem dX0_mayGoOn_29 : decode cX0_mayGoOn 29 = .ok (.ireturn, 1) := by decide +kernel
set_option maxRecDepth 20000 in
theorem ggX0_mayGoOnFrom_X0_mayGoOn : GoodIn wsX0_mayGoOnFrom wsX0_mayGoOn := goodIn_r _ [6, 7, 8, 9, 10, 11, 5, 12, 13, 14, 15, 16, 17, 18, 19, 20, 21, 22, 23, 24, 25, 26, 27, 28, 29, 30, 31, 32, 33, 34, 35, 36, 37] (by decide +kernel) (by decide +kernel)
set_option maxRecDepth 20000 in
theorem gX0_mayGoOnFrom_X0_mayGoOn : GoodIn wsX0_mayGoOnFrom (wsV RX0 132 RX0 yX0_mayGoOn wsX0_mayGoOn) := goodIn_app (goodIn_of _ (by decide +kernel)) ggX0_mayGoOnFrom_X0_mayGoOn
theorem dX0_mayGoOnFrom_0 : decode cX0_mayGoOnFrom 0 = .ok (.iconst 0, 1) := by decide +kernel
theorem dX0_mayGoOnFrom_1 : decode cX0_mayGoOnFrom 1 = .ok (.istore_n 2, 1) := by decide +kernel
theorem dX0_mayGoOnFrom_2 : decode cX0_mayGoOnFrom 2 = .ok (.iload_n 2, 1) := by decide +kernel
theorem dX0_mayGoOnFrom_3 : decode cX0_mayGoOnFrom 3 = .ok (.aload_n 0, 1) := by decide +kernel
theorem dX0_mayGoOnFrom_4 : decode cX0_mayGoOnFrom 4 = .ok (.getfield 62, 3) := by decide +kernel
theorem dX0_mayGoOnFrom_7 : decode cX0_mayGoOnFrom 7 = .ok (.if_icmp .ge 20, 3) := by decide +kernel
theorem dX0_mayGoOnFrom_10 : decode cX0_mayGoOnFrom 10 = .ok (.aload_n 0, 1) := by decide +kernel
theorem dX0_mayGoOnFrom_11 : decode cX0_mayGoOnFrom 11 = .ok (.iload_n 1, 1) := by decide +kernel
theorem dX0_mayGoOnFrom_12 : decode cX0_mayGoOnFrom 12 = .ok (.iload_n 2, 1) := by decide +kernel
theorem dX0_mayGoOnFrom_13 : decode cX0_mayGoOnFrom 13 = .ok (.invokevirtual 132, 3) := by decide +kernel
theorem dX0_mayGoOnFrom_16 : decode cX0_mayGoOnFrom 16 = .ok (.ifCond .eq 5, 3) := by decide +kernel
theorem dX0_mayGoOnFrom_19 : decode cX0_mayGoOnFrom 19 = .ok (.iconst 1, 1) := by decide +kernel
theorem dX0_mayGoOnFrom_20 : decode cX0_mayGoOnFrom 20 = .ok (.ireturn, 1) := by decide +kernel
theorem dX0_mayGoOnFrom_21 : decode cX0_mayGoOnFrom 21 = .ok (.iinc 2 1, 3) := by decide +kernel
theorem dX0_mayGoOnFrom_24 : decode cX0_mayGoOnFrom 24 = .ok (.goto (-22), 3) := by decide +kernel
theorem dX0_mayGoOnFrom_27 : decode cX0_mayGoOnFrom 27 = .ok (.iconst 0, 1) := by decide +kernel
theorem dX0_mayGoOnFrom_28 : decode cX0_mayGoOnFrom 28 = .ok (.ireturn, 1) := by decide +kernel
theorem dX0_hasStopAtSide_0 : decode cX0_hasStopAtSide 0 = .ok (.iconst 0, 1) := by decide +kernel
theorem dX0_hasStopAtSide_1 : decode cX0_hasStopAtSide 1 = .ok (.istore_n 3, 1) := by decide +kernel
theorem dX0_hasStopAtSide_2 : decode cX0_hasStopAtSide 2 = .ok (.iload_n 3, 1) := by decide +kernel
theorem dX0_hasStopAtSide_3 : decode cX0_hasStopAtSide 3 = .ok (.aload_n 0, 1) := by decide +kernel
theorem dX0_hasStopAtSide_4 : decode cX0_hasStopAtSide 4 = .ok (.getfield 91, 3) := by decide +kernel
theorem dX0_hasStopAtSide_7 : decode cX0_hasStopAtSide 7 = .ok (.if_icmp .ge 31, 3) := by decide +kernel
theorem dX0_hasStopAtSide_10 : decode cX0_hasStopAtSide 10 = .ok (.aload_n 0, 1) := by decide +kernel
theorem dX0_hasStopAtSide_11 : decode cX0_hasStopAtSide 11 = .ok (.getfield 32, 3) := by decide +kernel
theorem dX0_hasStopAtSide_14 : decode cX0_hasStopAtSide 14 = .ok (.iload_n 3, 1) := by decide +kernel
theorem dX0_hasStopAtSide_15 : decode cX0_hasStopAtSide 15 = .ok (.iaload, 1) := by decide +kernel
theorem dX0_hasStopAtSide_16 : decode cX0_hasStopAtSide 16 = .ok (.iload_n 1, 1) := by decide +kernel
theorem dX0_hasStopAtSide_17 : decode cX0_hasStopAtSide 17 = .ok (.if_icmp .ne 15, 3) := by decide +kernel
theorem dX0_hasStopAtSide_20 : decode cX0_hasStopAtSide 20 = .ok (.aload_n 0, 1) := by decide +kernel
theorem dX0_hasStopAtSide_21 : decode cX0_hasStopAtSide 21 = .ok (.getfield 35, 3) := by decide +kernel
theorem dX0_hasStopAtSide_24 : decode cX0_hasStopAtSide 24 = .ok (.iload_n 3, 1) := by decide +kernel
theorem dX0_hasStopAtSide_25 : decode cX0_hasStopAtSide 25 = .ok (.iaload, 1) := by decide +kernel
theorem dX0_hasStopAtSide_26 : decode cX0_hasStopAtSide 26 = .ok (.iload_n 2, 1) := by decide +kernel
theorem dX0_hasStopAtSide_27 : decode cX0_hasStopAtSide 27 = .ok (.if_icmp .ne 5, 3) := by decide +kernel
theorem dX0_hasStopAtSide_30 : decode cX0_hasStopAtSide 30 = .ok (.iconst 1, 1) := by decide +kernel
theorem dX0_hasStopAtSide_31 : decode cX0_hasStopAtSide 31 = .ok (.ireturn, 1) := by decide +kernel
theorem dX0_hasStopAtSide_32 : decode cX0_hasStopAtSide 32 = .ok (.iinc 3 1, 3) := by decide +kernel
theorem dX0_hasStopAtSide_35 : decode cX0_hasStopAtSide 35 = .ok (.goto (-33), 3) := by decide +kernel
theorem dX0_hasStopAtSide_38 : decode cX0_hasStopAtSide 38 = .ok (.iconst 0, 1) := by decide +kernel
theorem dX0_hasStopAtSide_39 : decode cX0_hasStopAtSide 39 = .ok (.ireturn, 1) := by decide +kernel
theorem dX0_hasGate_0 : decode cX0_hasGate 0 = .ok (.aload_n 0, 1) := by decide +kernel
theorem dX0_hasGate_1 : decode cX0_hasGate 1 = .ok (.getfield 26, 3) := by decide +kernel
theorem dX0_hasGate_4 : decode cX0_hasGate 4 = .ok (.iload_n 1, 1) := by decide +kernel
theorem dX0_hasGate_5 : decode cX0_hasGate 5 = .ok (.laload, 1) := by decide +kernel
theorem dX0_hasGate_6 : decode cX0_hasGate 6 = .ok (.lconst 0, 1) := by decide +kernel
theorem dX0_hasGate_7 : decode cX0_hasGate 7 = .ok (.lcmp, 1) := by decide +kernel
theorem dX0_hasGate_8 : decode cX0_hasGate 8 = .ok (.ifCond .eq 7, 3) := by decide +kernel
theorem dX0_hasGate_11 : decode cX0_hasGate 11 = .ok (.iconst 1, 1) := by decide +kernel
theorem dX0_hasGate_12 : decode cX0_hasGate 12 = .ok (.goto 4, 3) := by decide +kernel
theorem dX0_hasGate_15 : decode cX0_hasGate 15 = .ok (.iconst 0, 1) := by decide +kernel
theorem dX0_hasGate_16 : decode cX0_hasGate 16 = .ok (.ireturn, 1) := by decide +kernel
theorem dX0_secondsFor_0 : decode cX0_secondsFor 0 = .ok (.lconst 1, 1) := by decide +kernel
theorem dX0_secondsFor_1 : decode cX0_secondsFor 1 = .ok (.aload_n 0, 1) := by decide +kernel
theorem dX0_secondsFor_2 : decode cX0_secondsFor 2 = .ok (.getfield 20, 3) := by decide +kernel
theorem dX0_secondsFor_5 : decode cX0_secondsFor 5 = .ok (.iload_n 1, 1) := by decide +kernel
theorem dX0_secondsFor_6 : decode cX0_secondsFor 6 = .ok (.laload, 1) := by decide +kernel
theorem dX0_secondsFor_7 : decode cX0_secondsFor 7 = .ok (.invokestatic 135, 3) := by decide +kernel
theorem dX0_secondsFor_10 : decode cX0_secondsFor 10 = .ok (.lstore 4, 2) := by decide +kernel
theorem dX0_secondsFor_12 : decode cX0_secondsFor 12 = .ok (.ldc2_w 141, 3) := by decide +kernel
theorem dX0_secondsFor_15 : decode cX0_secondsFor 15 = .ok (.lload_n 2, 1) := by decide +kernel
theorem dX0_secondsFor_16 : decode cX0_secondsFor 16 = .ok (.lmul, 1) := by decide +kernel
theorem dX0_secondsFor_17 : decode cX0_secondsFor 17 = .ok (.lload 4, 2) := by decide +kernel
theorem dX0_secondsFor_19 : decode cX0_secondsFor 19 = .ok (.ladd, 1) := by decide +kernel
theorem dX0_secondsFor_20 : decode cX0_secondsFor 20 = .ok (.lconst 1, 1) := by decide +kernel
theorem dX0_secondsFor_21 : decode cX0_secondsFor 21 = .ok (.lsub, 1) := by decide +kernel
theorem dX0_secondsFor_22 : decode cX0_secondsFor 22 = .ok (.lload 4, 2) := by decide +kernel
theorem dX0_secondsFor_24 : decode cX0_secondsFor 24 = .ok (.ldiv, 1) := by decide +kernel
theorem dX0_secondsFor_25 : decode cX0_secondsFor 25 = .ok (.lreturn, 1) := by decide +kernel
theorem dX0_secondsAcross_0 : decode cX0_secondsAcross 0 = .ok (.aload_n 0, 1) := by decide +kernel
theorem dX0_secondsAcross_1 : decode cX0_secondsAcross 1 = .ok (.getfield 35, 3) := by decide +kernel
theorem dX0_secondsAcross_4 : decode cX0_secondsAcross 4 = .ok (.iload_n 1, 1) := by decide +kernel
theorem dX0_secondsAcross_5 : decode cX0_secondsAcross 5 = .ok (.iaload, 1) := by decide +kernel
theorem dX0_secondsAcross_6 : decode cX0_secondsAcross 6 = .ok (.iconst 1, 1) := by decide +kernel
theorem dX0_secondsAcross_7 : decode cX0_secondsAcross 7 = .ok (.if_icmp .ne 9, 3) := by decide +kernel
theorem dX0_secondsAcross_10 : decode cX0_secondsAcross 10 = .ok (.ldc2_w 143, 3) := by decide +kernel
theorem dX0_secondsAcross_13 : decode cX0_secondsAcross 13 = .ok (.goto 4, 3) := by decide +kernel
theorem dX0_secondsAcross_16 : decode cX0_secondsAcross 16 = .ok (.lconst 0, 1) := by decide +kernel
theorem dX0_secondsAcross_17 : decode cX0_secondsAcross 17 = .ok (.lreturn, 1) := by decide +kernel
set_option maxRecDepth 20000 in
theorem ggX0_entryAtOrAfter_X0_hasGate : GoodIn wsX0_entryAtOrAfter wsX0_hasGate := goodIn_r _ [8, 3, 9, 10, 11, 12, 13, 14, 15, 16, 17, 18, 19, 20, 21, 22, 23, 24, 25, 26] (by decide +kernel) (by decide +kernel)
set_option maxRecDepth 20000 in
theorem gX0_entryAtOrAfter_X0_hasGate : GoodIn wsX0_entryAtOrAfter (wsV RX0 126 RX0 yX0_hasGate wsX0_hasGate) := goodIn_app (goodIn_of _ (by decide +kernel)) ggX0_entryAtOrAfter_X0_hasGate
theorem dX0_entryAtOrAfter_0 : decode cX0_entryAtOrAfter 0 = .ok (.aload_n 0, 1) := by decide +kernel
theorem dX0_entryAtOrAfter_1 : decode cX0_entryAtOrAfter 1 = .ok (.iload_n 1, 1) := by decide +kernel
theorem dX0_entryAtOrAfter_2 : decode cX0_entryAtOrAfter 2 = .ok (.invokevirtual 126, 3) := by decide +kernel
theorem dX0_entryAtOrAfter_5 : decode cX0_entryAtOrAfter 5 = .ok (.ifCond .ne 5, 3) := by decide +kernel
theorem dX0_entryAtOrAfter_8 : decode cX0_entryAtOrAfter 8 = .ok (.lload_n 2, 1) := by decide +kernel
theorem dX0_entryAtOrAfter_9 : decode cX0_entryAtOrAfter 9 = .ok (.lreturn, 1) := by decide +kernel
theorem dX0_entryAtOrAfter_10 : decode cX0_entryAtOrAfter 10 = .ok (.lload_n 2, 1) := by decide +kernel
theorem dX0_entryAtOrAfter_11 : decode cX0_entryAtOrAfter 11 = .ok (.ldc2_w 116, 3) := by decide +kernel
theorem dX0_entryAtOrAfter_14 : decode cX0_entryAtOrAfter 14 = .ok (.lrem, 1) := by decide +kernel
theorem dX0_entryAtOrAfter_15 : decode cX0_entryAtOrAfter 15 = .ok (.lstore 4, 2) := by decide +kernel
theorem dX0_entryAtOrAfter_17 : decode cX0_entryAtOrAfter 17 = .ok (.lload 4, 2) := by decide +kernel
theorem dX0_entryAtOrAfter_19 : decode cX0_entryAtOrAfter 19 = .ok (.aload_n 0, 1) := by decide +kernel
theorem dX0_entryAtOrAfter_20 : decode cX0_entryAtOrAfter 20 = .ok (.getfield 23, 3) := by decide +kernel
theorem dX0_entryAtOrAfter_23 : decode cX0_entryAtOrAfter 23 = .ok (.iload_n 1, 1) := by decide +kernel
theorem dX0_entryAtOrAfter_24 : decode cX0_entryAtOrAfter 24 = .ok (.laload, 1) := by decide +kernel
theorem dX0_entryAtOrAfter_25 : decode cX0_entryAtOrAfter 25 = .ok (.lcmp, 1) := by decide +kernel
theorem dX0_entryAtOrAfter_26 : decode cX0_entryAtOrAfter 26 = .ok (.ifCond .ge 15, 3) := by decide +kernel
theorem dX0_entryAtOrAfter_29 : decode cX0_entryAtOrAfter 29 = .ok (.lload_n 2, 1) := by decide +kernel
theorem dX0_entryAtOrAfter_30 : decode cX0_entryAtOrAfter 30 = .ok (.lload 4, 2) := by decide +kernel
theorem dX0_entryAtOrAfter_32 : decode cX0_entryAtOrAfter 32 = .ok (.lsub, 1) := by decide +kernel
theorem dX0_entryAtOrAfter_33 : decode cX0_entryAtOrAfter 33 = .ok (.aload_n 0, 1) := by decide +kernel
theorem dX0_entryAtOrAfter_34 : decode cX0_entryAtOrAfter 34 = .ok (.getfield 23, 3) := by decide +kernel
theorem dX0_entryAtOrAfter_37 : decode cX0_entryAtOrAfter 37 = .ok (.iload_n 1, 1) := by decide +kernel
theorem dX0_entryAtOrAfter_38 : decode cX0_entryAtOrAfter 38 = .ok (.laload, 1) := by decide +kernel
theorem dX0_entryAtOrAfter_39 : decode cX0_entryAtOrAfter 39 = .ok (.ladd, 1) := by decide +kernel
theorem dX0_entryAtOrAfter_40 : decode cX0_entryAtOrAfter 40 = .ok (.lreturn, 1) := by decide +kernel
theorem dX0_entryAtOrAfter_41 : decode cX0_entryAtOrAfter 41 = .ok (.lload 4, 2) := by decide +kernel
theorem dX0_entryAtOrAfter_43 : decode cX0_entryAtOrAfter 43 = .ok (.aload_n 0, 1) := by decide +kernel
theorem dX0_entryAtOrAfter_44 : decode cX0_entryAtOrAfter 44 = .ok (.getfield 26, 3) := by decide +kernel
theorem dX0_entryAtOrAfter_47 : decode cX0_entryAtOrAfter 47 = .ok (.iload_n 1, 1) := by decide +kernel
theorem dX0_entryAtOrAfter_48 : decode cX0_entryAtOrAfter 48 = .ok (.laload, 1) := by decide +kernel
theorem dX0_entryAtOrAfter_49 : decode cX0_entryAtOrAfter 49 = .ok (.lcmp, 1) := by decide +kernel
theorem dX0_entryAtOrAfter_50 : decode cX0_entryAtOrAfter 50 = .ok (.ifCond .ge 5, 3) := by decide +kernel
theorem dX0_entryAtOrAfter_53 : decode cX0_entryAtOrAfter 53 = .ok (.lload_n 2, 1) := by decide +kernel
theorem dX0_entryAtOrAfter_54 : decode cX0_entryAtOrAfter 54 = .ok (.lreturn, 1) := by decide +kernel
theorem dX0_entryAtOrAfter_55 : decode cX0_entryAtOrAfter 55 = .ok (.lload_n 2, 1) := by decide +kernel
theorem dX0_entryAtOrAfter_56 : decode cX0_entryAtOrAfter 56 = .ok (.lload 4, 2) := by decide +kernel
theorem dX0_entryAtOrAfter_58 : decode cX0_entryAtOrAfter 58 = .ok (.lsub, 1) := by decide +kernel
theorem dX0_entryAtOrAfter_59 : decode cX0_entryAtOrAfter 59 = .ok (.ldc2_w 116, 3) := by decide +kernel
theorem dX0_entryAtOrAfter_62 : decode cX0_entryAtOrAfter 62 = .ok (.ladd, 1) := by decide +kernel
theorem dX0_entryAtOrAfter_63 : decode cX0_entryAtOrAfter 63 = .ok (.aload_n 0, 1) := by decide +kernel
theorem dX0_entryAtOrAfter_64 : decode cX0_entryAtOrAfter 64 = .ok (.getfield 23, 3) := by decide +kernel
theorem dX0_entryAtOrAfter_67 : decode cX0_entryAtOrAfter 67 = .ok (.iload_n 1, 1) := by decide +kernel
theorem dX0_entryAtOrAfter_68 : decode cX0_entryAtOrAfter 68 = .ok (.laload, 1) := by decide +kernel
theorem dX0_entryAtOrAfter_69 : decode cX0_entryAtOrAfter 69 = .ok (.ladd, 1) := by decide +kernel
theorem dX0_entryAtOrAfter_70 : decode cX0_entryAtOrAfter 70 = .ok (.lreturn, 1) := by decide +kernel
theorem dX0_isStraightOn_0 : decode cX0_isStraightOn 0 = .ok (.aload_n 0, 1) := by decide +kernel
theorem dX0_isStraightOn_1 : decode cX0_isStraightOn 1 = .ok (.getfield 32, 3) := by decide +kernel
theorem dX0_isStraightOn_4 : decode cX0_isStraightOn 4 = .ok (.iload_n 1, 1) := by decide +kernel
theorem dX0_isStraightOn_5 : decode cX0_isStraightOn 5 = .ok (.iaload, 1) := by decide +kernel
theorem dX0_isStraightOn_6 : decode cX0_isStraightOn 6 = .ok (.aload_n 0, 1) := by decide +kernel
theorem dX0_isStraightOn_7 : decode cX0_isStraightOn 7 = .ok (.getfield 32, 3) := by decide +kernel
theorem dX0_isStraightOn_10 : decode cX0_isStraightOn 10 = .ok (.iload_n 2, 1) := by decide +kernel
theorem dX0_isStraightOn_11 : decode cX0_isStraightOn 11 = .ok (.iaload, 1) := by decide +kernel
theorem dX0_isStraightOn_12 : decode cX0_isStraightOn 12 = .ok (.if_icmp .ne 23, 3) := by decide +kernel
theorem dX0_isStraightOn_15 : decode cX0_isStraightOn 15 = .ok (.aload_n 0, 1) := by decide +kernel
theorem dX0_isStraightOn_16 : decode cX0_isStraightOn 16 = .ok (.getfield 38, 3) := by decide +kernel
theorem dX0_isStraightOn_19 : decode cX0_isStraightOn 19 = .ok (.iload_n 1, 1) := by decide +kernel
theorem dX0_isStraightOn_20 : decode cX0_isStraightOn 20 = .ok (.laload, 1) := by decide +kernel
theorem dX0_isStraightOn_21 : decode cX0_isStraightOn 21 = .ok (.aload_n 0, 1) := by decide +kernel
theorem dX0_isStraightOn_22 : decode cX0_isStraightOn 22 = .ok (.getfield 38, 3) := by decide +kernel
theorem dX0_isStraightOn_25 : decode cX0_isStraightOn 25 = .ok (.iload_n 2, 1) := by decide +kernel
theorem dX0_isStraightOn_26 : decode cX0_isStraightOn 26 = .ok (.laload, 1) := by decide +kernel
theorem dX0_isStraightOn_27 : decode cX0_isStraightOn 27 = .ok (.lcmp, 1) := by decide +kernel
theorem dX0_isStraightOn_28 : decode cX0_isStraightOn 28 = .ok (.ifCond .gt 7, 3) := by decide +kernel
theorem dX0_isStraightOn_31 : decode cX0_isStraightOn 31 = .ok (.iconst 1, 1) := by decide +kernel
theorem dX0_isStraightOn_32 : decode cX0_isStraightOn 32 = .ok (.goto 4, 3) := by decide +kernel
theorem dX0_isStraightOn_35 : decode cX0_isStraightOn 35 = .ok (.iconst 0, 1) := by decide +kernel
theorem dX0_isStraightOn_36 : decode cX0_isStraightOn 36 = .ok (.ireturn, 1) := by decide +kernel
set_option maxRecDepth 20000 in
theorem ggX0_leastArrival_X0_secondsAcross : GoodIn wsX0_leastArrival wsX0_secondsAcross := goodIn_r _ [11, 12, 13, 78, 79, 80, 81, 82, 83, 84, 85, 86, 87, 88, 89, 90, 91, 92, 93, 94, 95] (by decide +kernel) (by decide +kernel)
set_option maxRecDepth 20000 in
theorem gX0_leastArrival_X0_secondsAcross : GoodIn wsX0_leastArrival (wsV RX0 145 RX0 yX0_secondsAcross wsX0_secondsAcross) := goodIn_app (goodIn_of _ (by decide +kernel)) ggX0_leastArrival_X0_secondsAcross
set_option maxRecDepth 20000 in
theorem ggX0_leastArrival_X0_isStraightOn : GoodIn wsX0_leastArrival wsX0_isStraightOn := goodIn_r _ [17, 1, 2, 78, 79, 80, 81, 82, 83, 84, 85, 86, 87, 88, 89, 90, 91, 92, 93, 94, 95] (by decide +kernel) (by decide +kernel)
set_option maxRecDepth 20000 in
theorem gX0_leastArrival_X0_isStraightOn : GoodIn wsX0_leastArrival (wsV RX0 148 RX0 yX0_isStraightOn wsX0_isStraightOn) := goodIn_app (goodIn_of _ (by decide +kernel)) ggX0_leastArrival_X0_isStraightOn
set_option maxRecDepth 20000 in
theorem ggX0_leastArrival_X0_secondsFor : GoodIn wsX0_leastArrival wsX0_secondsFor := goodIn_r _ [21, 22, 23, 24, 25, 26, 27, 78, 79, 80, 81, 82, 83, 84, 85, 86, 87, 88, 89, 90, 91, 92, 93, 94, 95] (by decide +kernel) (by decide +kernel)
set_option maxRecDepth 20000 in
theorem gX0_leastArrival_X0_secondsFor : GoodIn wsX0_leastArrival (wsV RX0 151 RX0 yX0_secondsFor wsX0_secondsFor) := goodIn_app (goodIn_of _ (by decide +kernel)) ggX0_leastArrival_X0_secondsFor
set_option maxRecDepth 20000 in
theorem ggX0_leastArrival_X0_findLeastTimes : GoodIn wsX0_leastArrival wsX0_findLeastTimes := goodIn_r _ [31, 32, 33, 4, 34, 35, 36, 37, 10, 38, 5, 39, 40, 41, 42, 43, 44, 45, 46, 3, 47, 48, 25, 49, 50, 51, 52, 53, 54, 55, 56, 57, 58, 59, 60, 61, 62, 63, 64, 65, 66, 67, 68, 69, 70, 71, 72, 73, 74, 75, 76, 77, 18, 19, 20, 21, 22, 23, 24, 26, 27, 78, 79, 80, 81, 82, 83, 84, 85, 86, 87, 88, 89, 90, 91, 92, 93, 94, 95] (by decide +kernel) (by decide +kernel)
set_option maxRecDepth 20000 in
theorem gX0_leastArrival_X0_findLeastTimes : GoodIn wsX0_leastArrival (wsV RX0 155 RX0 yX0_findLeastTimes wsX0_findLeastTimes) := goodIn_app (goodIn_of _ (by decide +kernel)) ggX0_leastArrival_X0_findLeastTimes
theorem dX0_leastArrival_0 : decode cX0_leastArrival 0 = .ok (.lload_n 3, 1) := by decide +kernel
theorem dX0_leastArrival_1 : decode cX0_leastArrival 1 = .ok (.aload_n 0, 1) := by decide +kernel
theorem dX0_leastArrival_2 : decode cX0_leastArrival 2 = .ok (.iload_n 1, 1) := by decide +kernel
theorem dX0_leastArrival_3 : decode cX0_leastArrival 3 = .ok (.invokevirtual 145, 3) := by decide +kernel
theorem dX0_leastArrival_6 : decode cX0_leastArrival 6 = .ok (.ladd, 1) := by decide +kernel
theorem dX0_leastArrival_7 : decode cX0_leastArrival 7 = .ok (.lstore 5, 2) := by decide +kernel
theorem dX0_leastArrival_9 : decode cX0_leastArrival 9 = .ok (.aload_n 0, 1) := by decide +kernel
theorem dX0_leastArrival_10 : decode cX0_leastArrival 10 = .ok (.getfield 32, 3) := by decide +kernel
theorem dX0_leastArrival_13 : decode cX0_leastArrival 13 = .ok (.iload_n 1, 1) := by decide +kernel
theorem dX0_leastArrival_14 : decode cX0_leastArrival 14 = .ok (.iaload, 1) := by decide +kernel
theorem dX0_leastArrival_15 : decode cX0_leastArrival 15 = .ok (.istore 7, 2) := by decide +kernel
theorem dX0_leastArrival_17 : decode cX0_leastArrival 17 = .ok (.aload_n 0, 1) := by decide +kernel
theorem dX0_leastArrival_18 : decode cX0_leastArrival 18 = .ok (.getfield 32, 3) := by decide +kernel
theorem dX0_leastArrival_21 : decode cX0_leastArrival 21 = .ok (.iload_n 2, 1) := by decide +kernel
theorem dX0_leastArrival_22 : decode cX0_leastArrival 22 = .ok (.iaload, 1) := by decide +kernel
theorem dX0_leastArrival_23 : decode cX0_leastArrival 23 = .ok (.istore 8, 2) := by decide +kernel
theorem dX0_leastArrival_25 : decode cX0_leastArrival 25 = .ok (.aload_n 0, 1) := by decide +kernel
theorem dX0_leastArrival_26 : decode cX0_leastArrival 26 = .ok (.iload_n 1, 1) := by decide +kernel
theorem dX0_leastArrival_27 : decode cX0_leastArrival 27 = .ok (.iload_n 2, 1) := by decide +kernel
theorem dX0_leastArrival_28 : decode cX0_leastArrival 28 = .ok (.invokevirtual 148, 3) := by decide +kernel
theorem dX0_leastArrival_31 : decode cX0_leastArrival 31 = .ok (.ifCond .eq 36, 3) := by decide +kernel
theorem dX0_leastArrival_34 : decode cX0_leastArrival 34 = .ok (.aload_n 0, 1) := by decide +kernel
theorem dX0_leastArrival_35 : decode cX0_leastArrival 35 = .ok (.getfield 38, 3) := by decide +kernel
theorem dX0_leastArrival_38 : decode cX0_leastArrival 38 = .ok (.iload_n 2, 1) := by decide +kernel
theorem dX0_leastArrival_39 : decode cX0_leastArrival 39 = .ok (.laload, 1) := by decide +kernel
theorem dX0_leastArrival_40 : decode cX0_leastArrival 40 = .ok (.aload_n 0, 1) := by decide +kernel
theorem dX0_leastArrival_41 : decode cX0_leastArrival 41 = .ok (.getfield 38, 3) := by decide +kernel
theorem dX0_leastArrival_44 : decode cX0_leastArrival 44 = .ok (.iload_n 1, 1) := by decide +kernel
theorem dX0_leastArrival_45 : decode cX0_leastArrival 45 = .ok (.laload, 1) := by decide +kernel
theorem dX0_leastArrival_46 : decode cX0_leastArrival 46 = .ok (.lsub, 1) := by decide +kernel
theorem dX0_leastArrival_47 : decode cX0_leastArrival 47 = .ok (.lstore 9, 2) := by decide +kernel
theorem dX0_leastArrival_49 : decode cX0_leastArrival 49 = .ok (.lload 5, 2) := by decide +kernel
theorem dX0_leastArrival_51 : decode cX0_leastArrival 51 = .ok (.aload_n 0, 1) := by decide +kernel
theorem dX0_leastArrival_52 : decode cX0_leastArrival 52 = .ok (.iload 7, 2) := by decide +kernel
theorem dX0_leastArrival_54 : decode cX0_leastArrival 54 = .ok (.lload 9, 2) := by decide +kernel
theorem dX0_leastArrival_56 : decode cX0_leastArrival 56 = .ok (.invokevirtual 151, 3) := by decide +kernel
theorem dX0_leastArrival_59 : decode cX0_leastArrival 59 = .ok (.ladd, 1) := by decide +kernel
theorem dX0_leastArrival_60 : decode cX0_leastArrival 60 = .ok (.aload_n 0, 1) := by decide +kernel
theorem dX0_leastArrival_61 : decode cX0_leastArrival 61 = .ok (.iload_n 2, 1) := by decide +kernel
theorem dX0_leastArrival_62 : decode cX0_leastArrival 62 = .ok (.invokevirtual 145, 3) := by decide +kernel
theorem dX0_leastArrival_65 : decode cX0_leastArrival 65 = .ok (.ladd, 1) := by decide +kernel
theorem dX0_leastArrival_66 : decode cX0_leastArrival 66 = .ok (.lreturn, 1) := by decide +kernel
theorem dX0_leastArrival_67 : decode cX0_leastArrival 67 = .ok (.aload_n 0, 1) := by decide +kernel
theorem dX0_leastArrival_68 : decode cX0_leastArrival 68 = .ok (.getfield 16, 3) := by decide +kernel
theorem dX0_leastArrival_71 : decode cX0_leastArrival 71 = .ok (.iload 7, 2) := by decide +kernel
theorem dX0_leastArrival_73 : decode cX0_leastArrival 73 = .ok (.laload, 1) := by decide +kernel
theorem dX0_leastArrival_74 : decode cX0_leastArrival 74 = .ok (.aload_n 0, 1) := by decide +kernel
theorem dX0_leastArrival_75 : decode cX0_leastArrival 75 = .ok (.getfield 38, 3) := by decide +kernel
theorem dX0_leastArrival_78 : decode cX0_leastArrival 78 = .ok (.iload_n 1, 1) := by decide +kernel
theorem dX0_leastArrival_79 : decode cX0_leastArrival 79 = .ok (.laload, 1) := by decide +kernel
theorem dX0_leastArrival_80 : decode cX0_leastArrival 80 = .ok (.lsub, 1) := by decide +kernel
theorem dX0_leastArrival_81 : decode cX0_leastArrival 81 = .ok (.lstore 9, 2) := by decide +kernel
theorem dX0_leastArrival_83 : decode cX0_leastArrival 83 = .ok (.aload_n 0, 1) := by decide +kernel
theorem dX0_leastArrival_84 : decode cX0_leastArrival 84 = .ok (.iload 7, 2) := by decide +kernel
theorem dX0_leastArrival_86 : decode cX0_leastArrival 86 = .ok (.lload 5, 2) := by decide +kernel
theorem dX0_leastArrival_88 : decode cX0_leastArrival 88 = .ok (.aload_n 0, 1) := by decide +kernel
theorem dX0_leastArrival_89 : decode cX0_leastArrival 89 = .ok (.iload 7, 2) := by decide +kernel
theorem dX0_leastArrival_91 : decode cX0_leastArrival 91 = .ok (.lload 9, 2) := by decide +kernel
theorem dX0_leastArrival_93 : decode cX0_leastArrival 93 = .ok (.invokevirtual 151, 3) := by decide +kernel
theorem dX0_leastArrival_96 : decode cX0_leastArrival 96 = .ok (.ladd, 1) := by decide +kernel
theorem dX0_leastArrival_97 : decode cX0_leastArrival 97 = .ok (.iload 8, 2) := by decide +kernel
theorem dX0_leastArrival_99 : decode cX0_leastArrival 99 = .ok (.invokevirtual 155, 3) := by decide +kernel
theorem dX0_leastArrival_102 : decode cX0_leastArrival 102 = .ok (.aload_n 0, 1) := by decide +kernel
theorem dX0_leastArrival_103 : decode cX0_leastArrival 103 = .ok (.getfield 41, 3) := by decide +kernel
theorem dX0_leastArrival_106 : decode cX0_leastArrival 106 = .ok (.iload 8, 2) := by decide +kernel
theorem dX0_leastArrival_108 : decode cX0_leastArrival 108 = .ok (.laload, 1) := by decide +kernel
theorem dX0_leastArrival_109 : decode cX0_leastArrival 109 = .ok (.ldc2_w 159, 3) := by decide +kernel
theorem dX0_leastArrival_112 : decode cX0_leastArrival 112 = .ok (.lcmp, 1) := by decide +kernel
theorem dX0_leastArrival_113 : decode cX0_leastArrival 113 = .ok (.ifCond .ne 7, 3) := by decide +kernel
theorem dX0_leastArrival_116 : decode cX0_leastArrival 116 = .ok (.ldc2_w 110, 3) := by decide +kernel
theorem dX0_leastArrival_119 : decode cX0_leastArrival 119 = .ok (.lreturn, 1) := by decide +kernel
theorem dX0_leastArrival_120 : decode cX0_leastArrival 120 = .ok (.aload_n 0, 1) := by decide +kernel
theorem dX0_leastArrival_121 : decode cX0_leastArrival 121 = .ok (.getfield 41, 3) := by decide +kernel
theorem dX0_leastArrival_124 : decode cX0_leastArrival 124 = .ok (.iload 8, 2) := by decide +kernel
theorem dX0_leastArrival_126 : decode cX0_leastArrival 126 = .ok (.laload, 1) := by decide +kernel
theorem dX0_leastArrival_127 : decode cX0_leastArrival 127 = .ok (.aload_n 0, 1) := by decide +kernel
theorem dX0_leastArrival_128 : decode cX0_leastArrival 128 = .ok (.iload 8, 2) := by decide +kernel
theorem dX0_leastArrival_130 : decode cX0_leastArrival 130 = .ok (.aload_n 0, 1) := by decide +kernel
theorem dX0_leastArrival_131 : decode cX0_leastArrival 131 = .ok (.getfield 38, 3) := by decide +kernel
theorem dX0_leastArrival_134 : decode cX0_leastArrival 134 = .ok (.iload_n 2, 1) := by decide +kernel
theorem dX0_leastArrival_135 : decode cX0_leastArrival 135 = .ok (.laload, 1) := by decide +kernel
theorem dX0_leastArrival_136 : decode cX0_leastArrival 136 = .ok (.invokevirtual 151, 3) := by decide +kernel
theorem dX0_leastArrival_139 : decode cX0_leastArrival 139 = .ok (.ladd, 1) := by decide +kernel
theorem dX0_leastArrival_140 : decode cX0_leastArrival 140 = .ok (.aload_n 0, 1) := by decide +kernel
theorem dX0_leastArrival_141 : decode cX0_leastArrival 141 = .ok (.iload_n 2, 1) := by decide +kernel
theorem dX0_leastArrival_142 : decode cX0_leastArrival 142 = .ok (.invokevirtual 145, 3) := by decide +kernel
theorem dX0_leastArrival_145 : decode cX0_leastArrival 145 = .ok (.ladd, 1) := by decide +kernel
theorem dX0_leastArrival_146 : decode cX0_leastArrival 146 = .ok (.lreturn, 1) := by decide +kernel
set_option maxRecDepth 20000 in
theorem ggX0_findLeastTimes_X0_forgetLeastTimes : GoodIn wsX0_findLeastTimes wsX0_forgetLeastTimes := goodIn_r _ [9, 2, 3, 10, 1, 4, 61, 62, 63, 64, 65, 66, 67, 68, 69, 70, 71, 72, 73, 74, 75, 76, 77, 78] (by decide +kernel) (by decide +kernel)
set_option maxRecDepth 20000 in
theorem gX0_findLeastTimes_X0_forgetLeastTimes : GoodIn wsX0_findLeastTimes (wsV RX0 161 RX0 yX0_forgetLeastTimes wsX0_forgetLeastTimes) := goodIn_app (goodIn_of _ (by decide +kernel)) ggX0_findLeastTimes_X0_forgetLeastTimes
set_option maxRecDepth 20000 in
theorem ggX0_findLeastTimes_X0_earliestUnsettled : GoodIn wsX0_findLeastTimes wsX0_earliestUnsettled := goodIn_r _ [14, 10, 2, 4, 1, 61, 62, 63, 64, 65, 66, 67, 68, 69, 70, 71, 72, 73, 74, 75, 76, 77, 78] (by decide +kernel) (by decide +kernel)
set_option maxRecDepth 20000 in
theorem gX0_findLeastTimes_X0_earliestUnsettled : GoodIn wsX0_findLeastTimes (wsV RX0 164 RX0 yX0_earliestUnsettled wsX0_earliestUnsettled) := goodIn_app (goodIn_of _ (by decide +kernel)) ggX0_findLeastTimes_X0_earliestUnsettled
set_option maxRecDepth 20000 in
theorem ggX0_findLeastTimes_X0_goOnFrom : GoodIn wsX0_findLeastTimes wsX0_goOnFrom := goodIn_r _ [18, 2, 1, 3, 19, 20, 21, 22, 23, 24, 25, 26, 8, 27, 28, 29, 30, 31, 32, 33, 34, 35, 36, 37, 38, 39, 40, 41, 42, 43, 44, 45, 46, 47, 48, 49, 50, 51, 52, 53, 54, 55, 56, 57, 58, 59, 60, 61, 62, 63, 64, 65, 66, 67, 68, 69, 70, 71, 72, 73, 74, 75, 76, 77, 78] (by decide +kernel) (by decide +kernel)
set_option maxRecDepth 20000 in
theorem gX0_findLeastTimes_X0_goOnFrom : GoodIn wsX0_findLeastTimes (wsV RX0 168 RX0 yX0_goOnFrom wsX0_goOnFrom) := goodIn_app (goodIn_of _ (by decide +kernel)) ggX0_findLeastTimes_X0_goOnFrom
theorem dX0_findLeastTimes_0 : decode cX0_findLeastTimes 0 = .ok (.aload_n 0, 1) := by decide +kernel
theorem dX0_findLeastTimes_1 : decode cX0_findLeastTimes 1 = .ok (.invokevirtual 161, 3) := by decide +kernel
theorem dX0_findLeastTimes_4 : decode cX0_findLeastTimes 4 = .ok (.aload_n 0, 1) := by decide +kernel
theorem dX0_findLeastTimes_5 : decode cX0_findLeastTimes 5 = .ok (.getfield 44, 3) := by decide +kernel
theorem dX0_findLeastTimes_8 : decode cX0_findLeastTimes 8 = .ok (.iload_n 1, 1) := by decide +kernel
theorem dX0_findLeastTimes_9 : decode cX0_findLeastTimes 9 = .ok (.lload_n 2, 1) := by decide +kernel
theorem dX0_findLeastTimes_10 : decode cX0_findLeastTimes 10 = .ok (.lastore, 1) := by decide +kernel
theorem dX0_findLeastTimes_11 : decode cX0_findLeastTimes 11 = .ok (.iconst 0, 1) := by decide +kernel
theorem dX0_findLeastTimes_12 : decode cX0_findLeastTimes 12 = .ok (.istore 5, 2) := by decide +kernel
theorem dX0_findLeastTimes_14 : decode cX0_findLeastTimes 14 = .ok (.iload 5, 2) := by decide +kernel
theorem dX0_findLeastTimes_16 : decode cX0_findLeastTimes 16 = .ok (.aload_n 0, 1) := by decide +kernel
theorem dX0_findLeastTimes_17 : decode cX0_findLeastTimes 17 = .ok (.getfield 62, 3) := by decide +kernel
theorem dX0_findLeastTimes_20 : decode cX0_findLeastTimes 20 = .ok (.if_icmp .ge 54, 3) := by decide +kernel
theorem dX0_findLeastTimes_23 : decode cX0_findLeastTimes 23 = .ok (.aload_n 0, 1) := by decide +kernel
theorem dX0_findLeastTimes_24 : decode cX0_findLeastTimes 24 = .ok (.invokevirtual 164, 3) := by decide +kernel
theorem dX0_findLeastTimes_27 : decode cX0_findLeastTimes 27 = .ok (.istore 6, 2) := by decide +kernel
theorem dX0_findLeastTimes_29 : decode cX0_findLeastTimes 29 = .ok (.iload 6, 2) := by decide +kernel
theorem dX0_findLeastTimes_31 : decode cX0_findLeastTimes 31 = .ok (.iconst (-1), 1) := by decide +kernel
theorem dX0_findLeastTimes_32 : decode cX0_findLeastTimes 32 = .ok (.if_icmp .eq 21, 3) := by decide +kernel
theorem dX0_findLeastTimes_35 : decode cX0_findLeastTimes 35 = .ok (.aload_n 0, 1) := by decide +kernel
theorem dX0_findLeastTimes_36 : decode cX0_findLeastTimes 36 = .ok (.getfield 44, 3) := by decide +kernel
theorem dX0_findLeastTimes_39 : decode cX0_findLeastTimes 39 = .ok (.iload 6, 2) := by decide +kernel
theorem dX0_findLeastTimes_41 : decode cX0_findLeastTimes 41 = .ok (.laload, 1) := by decide +kernel
theorem dX0_findLeastTimes_42 : decode cX0_findLeastTimes 42 = .ok (.aload_n 0, 1) := by decide +kernel
theorem dX0_findLeastTimes_43 : decode cX0_findLeastTimes 43 = .ok (.getfield 41, 3) := by decide +kernel
theorem dX0_findLeastTimes_46 : decode cX0_findLeastTimes 46 = .ok (.iload 4, 2) := by decide +kernel
theorem dX0_findLeastTimes_48 : decode cX0_findLeastTimes 48 = .ok (.laload, 1) := by decide +kernel
theorem dX0_findLeastTimes_49 : decode cX0_findLeastTimes 49 = .ok (.lcmp, 1) := by decide +kernel
theorem dX0_findLeastTimes_50 : decode cX0_findLeastTimes 50 = .ok (.ifCond .le 4, 3) := by decide +kernel
theorem dX0_findLeastTimes_53 : decode cX0_findLeastTimes 53 = .ok (.return_, 1) := by decide +kernel
theorem dX0_findLeastTimes_54 : decode cX0_findLeastTimes 54 = .ok (.aload_n 0, 1) := by decide +kernel
theorem dX0_findLeastTimes_55 : decode cX0_findLeastTimes 55 = .ok (.getfield 47, 3) := by decide +kernel
theorem dX0_findLeastTimes_58 : decode cX0_findLeastTimes 58 = .ok (.iload 6, 2) := by decide +kernel
theorem dX0_findLeastTimes_60 : decode cX0_findLeastTimes 60 = .ok (.iconst 1, 1) := by decide +kernel
theorem dX0_findLeastTimes_61 : decode cX0_findLeastTimes 61 = .ok (.bastore, 1) := by decide +kernel
theorem dX0_findLeastTimes_62 : decode cX0_findLeastTimes 62 = .ok (.aload_n 0, 1) := by decide +kernel
theorem dX0_findLeastTimes_63 : decode cX0_findLeastTimes 63 = .ok (.iload 6, 2) := by decide +kernel
theorem dX0_findLeastTimes_65 : decode cX0_findLeastTimes 65 = .ok (.invokevirtual 168, 3) := by decide +kernel
theorem dX0_findLeastTimes_68 : decode cX0_findLeastTimes 68 = .ok (.iinc 5 1, 3) := by decide +kernel
theorem dX0_findLeastTimes_71 : decode cX0_findLeastTimes 71 = .ok (.goto (-57), 3) := by decide +kernel
theorem dX0_findLeastTimes_74 : decode cX0_findLeastTimes 74 = .ok (.return_, 1) := by decide +kernel
theorem dX0_forgetLeastTimes_0 : decode cX0_forgetLeastTimes 0 = .ok (.iconst 0, 1) := by decide +kernel
theorem dX0_forgetLeastTimes_1 : decode cX0_forgetLeastTimes 1 = .ok (.istore_n 1, 1) := by decide +kernel
theorem dX0_forgetLeastTimes_2 : decode cX0_forgetLeastTimes 2 = .ok (.iload_n 1, 1) := by decide +kernel
theorem dX0_forgetLeastTimes_3 : decode cX0_forgetLeastTimes 3 = .ok (.aload_n 0, 1) := by decide +kernel
theorem dX0_forgetLeastTimes_4 : decode cX0_forgetLeastTimes 4 = .ok (.getfield 62, 3) := by decide +kernel
theorem dX0_forgetLeastTimes_7 : decode cX0_forgetLeastTimes 7 = .ok (.if_icmp .ge 34, 3) := by decide +kernel
theorem dX0_forgetLeastTimes_10 : decode cX0_forgetLeastTimes 10 = .ok (.aload_n 0, 1) := by decide +kernel
theorem dX0_forgetLeastTimes_11 : decode cX0_forgetLeastTimes 11 = .ok (.getfield 41, 3) := by decide +kernel
theorem dX0_forgetLeastTimes_14 : decode cX0_forgetLeastTimes 14 = .ok (.iload_n 1, 1) := by decide +kernel
theorem dX0_forgetLeastTimes_15 : decode cX0_forgetLeastTimes 15 = .ok (.ldc2_w 159, 3) := by decide +kernel
theorem dX0_forgetLeastTimes_18 : decode cX0_forgetLeastTimes 18 = .ok (.lastore, 1) := by decide +kernel
theorem dX0_forgetLeastTimes_19 : decode cX0_forgetLeastTimes 19 = .ok (.aload_n 0, 1) := by decide +kernel
theorem dX0_forgetLeastTimes_20 : decode cX0_forgetLeastTimes 20 = .ok (.getfield 44, 3) := by decide +kernel
theorem dX0_forgetLeastTimes_23 : decode cX0_forgetLeastTimes 23 = .ok (.iload_n 1, 1) := by decide +kernel
theorem dX0_forgetLeastTimes_24 : decode cX0_forgetLeastTimes 24 = .ok (.ldc2_w 159, 3) := by decide +kernel
theorem dX0_forgetLeastTimes_27 : decode cX0_forgetLeastTimes 27 = .ok (.lastore, 1) := by decide +kernel
theorem dX0_forgetLeastTimes_28 : decode cX0_forgetLeastTimes 28 = .ok (.aload_n 0, 1) := by decide +kernel
theorem dX0_forgetLeastTimes_29 : decode cX0_forgetLeastTimes 29 = .ok (.getfield 47, 3) := by decide +kernel
theorem dX0_forgetLeastTimes_32 : decode cX0_forgetLeastTimes 32 = .ok (.iload_n 1, 1) := by decide +kernel
theorem dX0_forgetLeastTimes_33 : decode cX0_forgetLeastTimes 33 = .ok (.iconst 0, 1) := by decide +kernel
theorem dX0_forgetLeastTimes_34 : decode cX0_forgetLeastTimes 34 = .ok (.bastore, 1) := by decide +kernel
theorem dX0_forgetLeastTimes_35 : decode cX0_forgetLeastTimes 35 = .ok (.iinc 1 1, 3) := by decide +kernel
theorem dX0_forgetLeastTimes_38 : decode cX0_forgetLeastTimes 38 = .ok (.goto (-36), 3) := by decide +kernel
theorem dX0_forgetLeastTimes_41 : decode cX0_forgetLeastTimes 41 = .ok (.return_, 1) := by decide +kernel
theorem dX0_earliestUnsettled_0 : decode cX0_earliestUnsettled 0 = .ok (.iconst (-1), 1) := by decide +kernel
theorem dX0_earliestUnsettled_1 : decode cX0_earliestUnsettled 1 = .ok (.istore_n 1, 1) := by decide +kernel
theorem dX0_earliestUnsettled_2 : decode cX0_earliestUnsettled 2 = .ok (.ldc2_w 159, 3) := by decide +kernel
theorem dX0_earliestUnsettled_5 : decode cX0_earliestUnsettled 5 = .ok (.lstore_n 2, 1) := by decide +kernel
theorem dX0_earliestUnsettled_6 : decode cX0_earliestUnsettled 6 = .ok (.iconst 0, 1) := by decide +kernel
theorem dX0_earliestUnsettled_7 : decode cX0_earliestUnsettled 7 = .ok (.istore 4, 2) := by decide +kernel
theorem dX0_earliestUnsettled_9 : decode cX0_earliestUnsettled 9 = .ok (.iload 4, 2) := by decide +kernel
theorem dX0_earliestUnsettled_11 : decode cX0_earliestUnsettled 11 = .ok (.aload_n 0, 1) := by decide +kernel
theorem dX0_earliestUnsettled_12 : decode cX0_earliestUnsettled 12 = .ok (.getfield 62, 3) := by decide +kernel
theorem dX0_earliestUnsettled_15 : decode cX0_earliestUnsettled 15 = .ok (.if_icmp .ge 42, 3) := by decide +kernel
theorem dX0_earliestUnsettled_18 : decode cX0_earliestUnsettled 18 = .ok (.aload_n 0, 1) := by decide +kernel
theorem dX0_earliestUnsettled_19 : decode cX0_earliestUnsettled 19 = .ok (.getfield 47, 3) := by decide +kernel
theorem dX0_earliestUnsettled_22 : decode cX0_earliestUnsettled 22 = .ok (.iload 4, 2) := by decide +kernel
theorem dX0_earliestUnsettled_24 : decode cX0_earliestUnsettled 24 = .ok (.baload, 1) := by decide +kernel
theorem dX0_earliestUnsettled_25 : decode cX0_earliestUnsettled 25 = .ok (.ifCond .ne 26, 3) := by decide +kernel
theorem dX0_earliestUnsettled_28 : decode cX0_earliestUnsettled 28 = .ok (.aload_n 0, 1) := by decide +kernel
theorem dX0_earliestUnsettled_29 : decode cX0_earliestUnsettled 29 = .ok (.getfield 44, 3) := by decide +kernel
theorem dX0_earliestUnsettled_32 : decode cX0_earliestUnsettled 32 = .ok (.iload 4, 2) := by decide +kernel
theorem dX0_earliestUnsettled_34 : decode cX0_earliestUnsettled 34 = .ok (.laload, 1) := by decide +kernel
theorem dX0_earliestUnsettled_35 : decode cX0_earliestUnsettled 35 = .ok (.lload_n 2, 1) := by decide +kernel
theorem dX0_earliestUnsettled_36 : decode cX0_earliestUnsettled 36 = .ok (.lcmp, 1) := by decide +kernel
theorem dX0_earliestUnsettled_37 : decode cX0_earliestUnsettled 37 = .ok (.ifCond .ge 14, 3) := by decide +kernel
theorem dX0_earliestUnsettled_40 : decode cX0_earliestUnsettled 40 = .ok (.iload 4, 2) := by decide +kernel
theorem dX0_earliestUnsettled_42 : decode cX0_earliestUnsettled 42 = .ok (.istore_n 1, 1) := by decide +kernel
theorem dX0_earliestUnsettled_43 : decode cX0_earliestUnsettled 43 = .ok (.aload_n 0, 1) := by decide +kernel
theorem dX0_earliestUnsettled_44 : decode cX0_earliestUnsettled 44 = .ok (.getfield 44, 3) := by decide +kernel
theorem dX0_earliestUnsettled_47 : decode cX0_earliestUnsettled 47 = .ok (.iload 4, 2) := by decide +kernel
theorem dX0_earliestUnsettled_49 : decode cX0_earliestUnsettled 49 = .ok (.laload, 1) := by decide +kernel
theorem dX0_earliestUnsettled_50 : decode cX0_earliestUnsettled 50 = .ok (.lstore_n 2, 1) := by decide +kernel
theorem dX0_earliestUnsettled_51 : decode cX0_earliestUnsettled 51 = .ok (.iinc 4 1, 3) := by decide +kernel
theorem dX0_earliestUnsettled_54 : decode cX0_earliestUnsettled 54 = .ok (.goto (-45), 3) := by decide +kernel
theorem dX0_earliestUnsettled_57 : decode cX0_earliestUnsettled 57 = .ok (.iload_n 1, 1) := by decide +kernel
theorem dX0_earliestUnsettled_58 : decode cX0_earliestUnsettled 58 = .ok (.ireturn, 1) := by decide +kernel
set_option maxRecDepth 20000 in
theorem ggX0_goOnFrom_X0_mayGoOn : GoodIn wsX0_goOnFrom wsX0_mayGoOn := goodIn_r _ [13, 14, 15, 16, 17, 18, 12, 19, 20, 21, 22, 23, 24, 25, 26, 47, 48, 49, 50, 51, 52, 53, 54, 55, 56, 57, 58, 59, 60, 61, 62, 63, 64] (by decide +kernel) (by decide +kernel)
set_option maxRecDepth 20000 in
theorem gX0_goOnFrom_X0_mayGoOn : GoodIn wsX0_goOnFrom (wsV RX0 132 RX0 yX0_mayGoOn wsX0_mayGoOn) := goodIn_app (goodIn_of _ (by decide +kernel)) ggX0_goOnFrom_X0_mayGoOn
set_option maxRecDepth 20000 in
theorem ggX0_goOnFrom_X0_entryAtOrAfter : GoodIn wsX0_goOnFrom wsX0_entryAtOrAfter := goodIn_r _ [30, 31, 32, 33, 34, 35, 36, 12, 37, 47, 48, 49, 50, 51, 52, 53, 54, 55, 56, 57, 58, 59, 60, 61, 62, 63, 64] (by decide +kernel) (by decide +kernel)
set_option maxRecDepth 20000 in
theorem gX0_goOnFrom_X0_entryAtOrAfter : GoodIn wsX0_goOnFrom (wsV RX0 172 RX0 yX0_entryAtOrAfter wsX0_entryAtOrAfter) := goodIn_app (goodIn_of _ (by decide +kernel)) ggX0_goOnFrom_X0_entryAtOrAfter
set_option maxRecDepth 20000 in
theorem ggX0_goOnFrom_X0_secondsFor : GoodIn wsX0_goOnFrom wsX0_secondsFor := goodIn_r _ [41, 42, 43, 44, 7, 45, 46, 47, 48, 49, 50, 51, 52, 53, 54, 55, 56, 57, 58, 59, 60, 61, 62, 63, 64] (by decide +kernel) (by decide +kernel)
set_option maxRecDepth 20000 in
theorem gX0_goOnFrom_X0_secondsFor : GoodIn wsX0_goOnFrom (wsV RX0 151 RX0 yX0_secondsFor wsX0_secondsFor) := goodIn_app (goodIn_of _ (by decide +kernel)) ggX0_goOnFrom_X0_secondsFor
theorem dX0_goOnFrom_0 : decode cX0_goOnFrom 0 = .ok (.iconst 0, 1) := by decide +kernel
theorem dX0_goOnFrom_1 : decode cX0_goOnFrom 1 = .ok (.istore_n 2, 1) := by decide +kernel
theorem dX0_goOnFrom_2 : decode cX0_goOnFrom 2 = .ok (.iload_n 2, 1) := by decide +kernel
theorem dX0_goOnFrom_3 : decode cX0_goOnFrom 3 = .ok (.aload_n 0, 1) := by decide +kernel
theorem dX0_goOnFrom_4 : decode cX0_goOnFrom 4 = .ok (.getfield 62, 3) := by decide +kernel
theorem dX0_goOnFrom_7 : decode cX0_goOnFrom 7 = .ok (.if_icmp .ge 79, 3) := by decide +kernel
theorem dX0_goOnFrom_10 : decode cX0_goOnFrom 10 = .ok (.aload_n 0, 1) := by decide +kernel
theorem dX0_goOnFrom_11 : decode cX0_goOnFrom 11 = .ok (.iload_n 1, 1) := by decide +kernel
theorem dX0_goOnFrom_12 : decode cX0_goOnFrom 12 = .ok (.iload_n 2, 1) := by decide +kernel
theorem dX0_goOnFrom_13 : decode cX0_goOnFrom 13 = .ok (.invokevirtual 132, 3) := by decide +kernel
theorem dX0_goOnFrom_16 : decode cX0_goOnFrom 16 = .ok (.ifCond .ne 6, 3) := by decide +kernel
theorem dX0_goOnFrom_19 : decode cX0_goOnFrom 19 = .ok (.goto 61, 3) := by decide +kernel
theorem dX0_goOnFrom_22 : decode cX0_goOnFrom 22 = .ok (.aload_n 0, 1) := by decide +kernel
theorem dX0_goOnFrom_23 : decode cX0_goOnFrom 23 = .ok (.iload_n 2, 1) := by decide +kernel
theorem dX0_goOnFrom_24 : decode cX0_goOnFrom 24 = .ok (.aload_n 0, 1) := by decide +kernel
theorem dX0_goOnFrom_25 : decode cX0_goOnFrom 25 = .ok (.getfield 44, 3) := by decide +kernel
theorem dX0_goOnFrom_28 : decode cX0_goOnFrom 28 = .ok (.iload_n 1, 1) := by decide +kernel
theorem dX0_goOnFrom_29 : decode cX0_goOnFrom 29 = .ok (.laload, 1) := by decide +kernel
theorem dX0_goOnFrom_30 : decode cX0_goOnFrom 30 = .ok (.invokevirtual 172, 3) := by decide +kernel
theorem dX0_goOnFrom_33 : decode cX0_goOnFrom 33 = .ok (.lstore_n 3, 1) := by decide +kernel
theorem dX0_goOnFrom_34 : decode cX0_goOnFrom 34 = .ok (.lload_n 3, 1) := by decide +kernel
theorem dX0_goOnFrom_35 : decode cX0_goOnFrom 35 = .ok (.aload_n 0, 1) := by decide +kernel
theorem dX0_goOnFrom_36 : decode cX0_goOnFrom 36 = .ok (.getfield 41, 3) := by decide +kernel
theorem dX0_goOnFrom_39 : decode cX0_goOnFrom 39 = .ok (.iload_n 2, 1) := by decide +kernel
theorem dX0_goOnFrom_40 : decode cX0_goOnFrom 40 = .ok (.laload, 1) := by decide +kernel
theorem dX0_goOnFrom_41 : decode cX0_goOnFrom 41 = .ok (.lcmp, 1) := by decide +kernel
theorem dX0_goOnFrom_42 : decode cX0_goOnFrom 42 = .ok (.ifCond .ge 38, 3) := by decide +kernel
theorem dX0_goOnFrom_45 : decode cX0_goOnFrom 45 = .ok (.aload_n 0, 1) := by decide +kernel
theorem dX0_goOnFrom_46 : decode cX0_goOnFrom 46 = .ok (.getfield 41, 3) := by decide +kernel
theorem dX0_goOnFrom_49 : decode cX0_goOnFrom 49 = .ok (.iload_n 2, 1) := by decide +kernel
theorem dX0_goOnFrom_50 : decode cX0_goOnFrom 50 = .ok (.lload_n 3, 1) := by decide +kernel
theorem dX0_goOnFrom_51 : decode cX0_goOnFrom 51 = .ok (.lastore, 1) := by decide +kernel
theorem dX0_goOnFrom_52 : decode cX0_goOnFrom 52 = .ok (.aload_n 0, 1) := by decide +kernel
theorem dX0_goOnFrom_53 : decode cX0_goOnFrom 53 = .ok (.getfield 44, 3) := by decide +kernel
theorem dX0_goOnFrom_56 : decode cX0_goOnFrom 56 = .ok (.iload_n 2, 1) := by decide +kernel
theorem dX0_goOnFrom_57 : decode cX0_goOnFrom 57 = .ok (.aload_n 0, 1) := by decide +kernel
theorem dX0_goOnFrom_58 : decode cX0_goOnFrom 58 = .ok (.getfield 44, 3) := by decide +kernel
theorem dX0_goOnFrom_61 : decode cX0_goOnFrom 61 = .ok (.iload_n 2, 1) := by decide +kernel
theorem dX0_goOnFrom_62 : decode cX0_goOnFrom 62 = .ok (.laload, 1) := by decide +kernel
theorem dX0_goOnFrom_63 : decode cX0_goOnFrom 63 = .ok (.lload_n 3, 1) := by decide +kernel
theorem dX0_goOnFrom_64 : decode cX0_goOnFrom 64 = .ok (.aload_n 0, 1) := by decide +kernel
theorem dX0_goOnFrom_65 : decode cX0_goOnFrom 65 = .ok (.iload_n 2, 1) := by decide +kernel
theorem dX0_goOnFrom_66 : decode cX0_goOnFrom 66 = .ok (.aload_n 0, 1) := by decide +kernel
theorem dX0_goOnFrom_67 : decode cX0_goOnFrom 67 = .ok (.getfield 16, 3) := by decide +kernel
theorem dX0_goOnFrom_70 : decode cX0_goOnFrom 70 = .ok (.iload_n 2, 1) := by decide +kernel
theorem dX0_goOnFrom_71 : decode cX0_goOnFrom 71 = .ok (.laload, 1) := by decide +kernel
theorem dX0_goOnFrom_72 : decode cX0_goOnFrom 72 = .ok (.invokevirtual 151, 3) := by decide +kernel
theorem dX0_goOnFrom_75 : decode cX0_goOnFrom 75 = .ok (.ladd, 1) := by decide +kernel
theorem dX0_goOnFrom_76 : decode cX0_goOnFrom 76 = .ok (.invokestatic 175, 3) := by decide +kernel
theorem dX0_goOnFrom_79 : decode cX0_goOnFrom 79 = .ok (.lastore, 1) := by decide +kernel
theorem dX0_goOnFrom_80 : decode cX0_goOnFrom 80 = .ok (.iinc 2 1, 3) := by decide +kernel
theorem dX0_goOnFrom_83 : decode cX0_goOnFrom 83 = .ok (.goto (-81), 3) := by decide +kernel
theorem dX0_goOnFrom_86 : decode cX0_goOnFrom 86 = .ok (.return_, 1) := by decide +kernel
set_option maxRecDepth 20000 in
theorem ggX0_keepSteps_X0_isStraightOn : GoodIn wsX0_keepSteps wsX0_isStraightOn := goodIn_r _ [8, 1, 9, 45, 46, 47, 48, 49, 50, 51, 52, 53, 54, 55, 56, 57, 58, 59, 60, 61, 62] (by decide +kernel) (by decide +kernel)
set_option maxRecDepth 20000 in
theorem gX0_keepSteps_X0_isStraightOn : GoodIn wsX0_keepSteps (wsV RX0 148 RX0 yX0_isStraightOn wsX0_isStraightOn) := goodIn_app (goodIn_of _ (by decide +kernel)) ggX0_keepSteps_X0_isStraightOn
set_option maxRecDepth 20000 in
theorem ggX0_keepSteps_X0_pieceBefore : GoodIn wsX0_keepSteps wsX0_pieceBefore := goodIn_r _ [13, 14, 15, 16, 17, 18, 19, 7, 20, 21, 22, 23, 24, 25, 26, 27, 28, 29, 30, 31, 32, 33, 34, 35, 36, 37, 38, 39, 40, 41, 42, 43, 44, 45, 46, 47, 48, 49, 50, 51, 52, 53, 54, 55, 56, 57, 58, 59, 60, 61, 62] (by decide +kernel) (by decide +kernel)
set_option maxRecDepth 20000 in
theorem gX0_keepSteps_X0_pieceBefore : GoodIn wsX0_keepSteps (wsV RX0 178 RX0 yX0_pieceBefore wsX0_pieceBefore) := goodIn_app (goodIn_of _ (by decide +kernel)) ggX0_keepSteps_X0_pieceBefore
theorem dX0_keepSteps_0 : decode cX0_keepSteps 0 = .ok (.aload_n 0, 1) := by decide +kernel
theorem dX0_keepSteps_1 : decode cX0_keepSteps 1 = .ok (.getfield 32, 3) := by decide +kernel
theorem dX0_keepSteps_4 : decode cX0_keepSteps 4 = .ok (.iload_n 1, 1) := by decide +kernel
theorem dX0_keepSteps_5 : decode cX0_keepSteps 5 = .ok (.iaload, 1) := by decide +kernel
theorem dX0_keepSteps_6 : decode cX0_keepSteps 6 = .ok (.istore_n 3, 1) := by decide +kernel
theorem dX0_keepSteps_7 : decode cX0_keepSteps 7 = .ok (.aload_n 0, 1) := by decide +kernel
theorem dX0_keepSteps_8 : decode cX0_keepSteps 8 = .ok (.getfield 32, 3) := by decide +kernel
theorem dX0_keepSteps_11 : decode cX0_keepSteps 11 = .ok (.iload_n 2, 1) := by decide +kernel
theorem dX0_keepSteps_12 : decode cX0_keepSteps 12 = .ok (.iaload, 1) := by decide +kernel
theorem dX0_keepSteps_13 : decode cX0_keepSteps 13 = .ok (.istore 4, 2) := by decide +kernel
theorem dX0_keepSteps_15 : decode cX0_keepSteps 15 = .ok (.aload_n 0, 1) := by decide +kernel
theorem dX0_keepSteps_16 : decode cX0_keepSteps 16 = .ok (.getfield 51, 3) := by decide +kernel
theorem dX0_keepSteps_19 : decode cX0_keepSteps 19 = .ok (.iconst 0, 1) := by decide +kernel
theorem dX0_keepSteps_20 : decode cX0_keepSteps 20 = .ok (.iload 4, 2) := by decide +kernel
theorem dX0_keepSteps_22 : decode cX0_keepSteps 22 = .ok (.iastore, 1) := by decide +kernel
theorem dX0_keepSteps_23 : decode cX0_keepSteps 23 = .ok (.aload_n 0, 1) := by decide +kernel
theorem dX0_keepSteps_24 : decode cX0_keepSteps 24 = .ok (.iconst 1, 1) := by decide +kernel
theorem dX0_keepSteps_25 : decode cX0_keepSteps 25 = .ok (.putfield 107, 3) := by decide +kernel
theorem dX0_keepSteps_28 : decode cX0_keepSteps 28 = .ok (.aload_n 0, 1) := by decide +kernel
theorem dX0_keepSteps_29 : decode cX0_keepSteps 29 = .ok (.iload_n 1, 1) := by decide +kernel
theorem dX0_keepSteps_30 : decode cX0_keepSteps 30 = .ok (.iload_n 2, 1) := by decide +kernel
theorem dX0_keepSteps_31 : decode cX0_keepSteps 31 = .ok (.invokevirtual 148, 3) := by decide +kernel
theorem dX0_keepSteps_34 : decode cX0_keepSteps 34 = .ok (.ifCond .eq 4, 3) := by decide +kernel
theorem dX0_keepSteps_37 : decode cX0_keepSteps 37 = .ok (.return_, 1) := by decide +kernel
theorem dX0_keepSteps_38 : decode cX0_keepSteps 38 = .ok (.aload_n 0, 1) := by decide +kernel
theorem dX0_keepSteps_39 : decode cX0_keepSteps 39 = .ok (.iload 4, 2) := by decide +kernel
theorem dX0_keepSteps_41 : decode cX0_keepSteps 41 = .ok (.invokevirtual 178, 3) := by decide +kernel
theorem dX0_keepSteps_44 : decode cX0_keepSteps 44 = .ok (.istore 5, 2) := by decide +kernel
theorem dX0_keepSteps_46 : decode cX0_keepSteps 46 = .ok (.iload 5, 2) := by decide +kernel
theorem dX0_keepSteps_48 : decode cX0_keepSteps 48 = .ok (.iconst (-1), 1) := by decide +kernel
theorem dX0_keepSteps_49 : decode cX0_keepSteps 49 = .ok (.if_icmp .eq 54, 3) := by decide +kernel
theorem dX0_keepSteps_52 : decode cX0_keepSteps 52 = .ok (.aload_n 0, 1) := by decide +kernel
theorem dX0_keepSteps_53 : decode cX0_keepSteps 53 = .ok (.getfield 107, 3) := by decide +kernel
theorem dX0_keepSteps_56 : decode cX0_keepSteps 56 = .ok (.bipush 121, 2) := by decide +kernel
theorem dX0_keepSteps_58 : decode cX0_keepSteps 58 = .ok (.if_icmp .ge 45, 3) := by decide +kernel
theorem dX0_keepSteps_61 : decode cX0_keepSteps 61 = .ok (.aload_n 0, 1) := by decide +kernel
theorem dX0_keepSteps_62 : decode cX0_keepSteps 62 = .ok (.getfield 51, 3) := by decide +kernel
theorem dX0_keepSteps_65 : decode cX0_keepSteps 65 = .ok (.aload_n 0, 1) := by decide +kernel
theorem dX0_keepSteps_66 : decode cX0_keepSteps 66 = .ok (.getfield 107, 3) := by decide +kernel
theorem dX0_keepSteps_69 : decode cX0_keepSteps 69 = .ok (.iload 5, 2) := by decide +kernel
theorem dX0_keepSteps_71 : decode cX0_keepSteps 71 = .ok (.iastore, 1) := by decide +kernel
theorem dX0_keepSteps_72 : decode cX0_keepSteps 72 = .ok (.aload_n 0, 1) := by decide +kernel
theorem dX0_keepSteps_73 : decode cX0_keepSteps 73 = .ok (.dup, 1) := by decide +kernel
theorem dX0_keepSteps_74 : decode cX0_keepSteps 74 = .ok (.getfield 107, 3) := by decide +kernel
theorem dX0_keepSteps_77 : decode cX0_keepSteps 77 = .ok (.iconst 1, 1) := by decide +kernel
theorem dX0_keepSteps_78 : decode cX0_keepSteps 78 = .ok (.iadd, 1) := by decide +kernel
theorem dX0_keepSteps_79 : decode cX0_keepSteps 79 = .ok (.putfield 107, 3) := by decide +kernel
theorem dX0_keepSteps_82 : decode cX0_keepSteps 82 = .ok (.iload 5, 2) := by decide +kernel
theorem dX0_keepSteps_84 : decode cX0_keepSteps 84 = .ok (.iload_n 3, 1) := by decide +kernel
theorem dX0_keepSteps_85 : decode cX0_keepSteps 85 = .ok (.if_icmp .ne 7, 3) := by decide +kernel
theorem dX0_keepSteps_88 : decode cX0_keepSteps 88 = .ok (.iconst (-1), 1) := by decide +kernel
theorem dX0_keepSteps_89 : decode cX0_keepSteps 89 = .ok (.goto 9, 3) := by decide +kernel
theorem dX0_keepSteps_92 : decode cX0_keepSteps 92 = .ok (.aload_n 0, 1) := by decide +kernel
theorem dX0_keepSteps_93 : decode cX0_keepSteps 93 = .ok (.iload 5, 2) := by decide +kernel
theorem dX0_keepSteps_95 : decode cX0_keepSteps 95 = .ok (.invokevirtual 178, 3) := by decide +kernel
theorem dX0_keepSteps_98 : decode cX0_keepSteps 98 = .ok (.istore 5, 2) := by decide +kernel
theorem dX0_keepSteps_100 : decode cX0_keepSteps 100 = .ok (.goto (-54), 3) := by decide +kernel
theorem dX0_keepSteps_103 : decode cX0_keepSteps 103 = .ok (.return_, 1) := by decide +kernel
set_option maxRecDepth 20000 in
theorem ggX0_pieceBefore_X0_mayGoOn : GoodIn wsX0_pieceBefore wsX0_mayGoOn := goodIn_r _ [8, 9, 10, 11, 12, 13, 7, 14, 15, 16, 17, 18, 19, 20, 21, 33, 34, 35, 36, 37, 38, 39, 40, 41, 42, 43, 44, 45, 46, 47, 48, 49, 50] (by decide +kernel) (by decide +kernel)
set_option maxRecDepth 20000 in
theorem gX0_pieceBefore_X0_mayGoOn : GoodIn wsX0_pieceBefore (wsV RX0 132 RX0 yX0_mayGoOn wsX0_mayGoOn) := goodIn_app (goodIn_of _ (by decide +kernel)) ggX0_pieceBefore_X0_mayGoOn
set_option maxRecDepth 20000 in
theorem ggX0_pieceBefore_X0_entryAtOrAfter : GoodIn wsX0_pieceBefore wsX0_entryAtOrAfter := goodIn_r _ [25, 26, 27, 28, 29, 30, 31, 7, 32, 33, 34, 35, 36, 37, 38, 39, 40, 41, 42, 43, 44, 45, 46, 47, 48, 49, 50] (by decide +kernel) (by decide +kernel)
set_option maxRecDepth 20000 in
theorem gX0_pieceBefore_X0_entryAtOrAfter : GoodIn wsX0_pieceBefore (wsV RX0 172 RX0 yX0_entryAtOrAfter wsX0_entryAtOrAfter) := goodIn_app (goodIn_of _ (by decide +kernel)) ggX0_pieceBefore_X0_entryAtOrAfter
theorem dX0_pieceBefore_0 : decode cX0_pieceBefore 0 = .ok (.iconst 0, 1) := by decide +kernel
theorem dX0_pieceBefore_1 : decode cX0_pieceBefore 1 = .ok (.istore_n 2, 1) := by decide +kernel
theorem dX0_pieceBefore_2 : decode cX0_pieceBefore 2 = .ok (.iload_n 2, 1) := by decide +kernel
theorem dX0_pieceBefore_3 : decode cX0_pieceBefore 3 = .ok (.aload_n 0, 1) := by decide +kernel
theorem dX0_pieceBefore_4 : decode cX0_pieceBefore 4 = .ok (.getfield 62, 3) := by decide +kernel
theorem dX0_pieceBefore_7 : decode cX0_pieceBefore 7 = .ok (.if_icmp .ge 41, 3) := by decide +kernel
theorem dX0_pieceBefore_10 : decode cX0_pieceBefore 10 = .ok (.aload_n 0, 1) := by decide +kernel
theorem dX0_pieceBefore_11 : decode cX0_pieceBefore 11 = .ok (.iload_n 2, 1) := by decide +kernel
theorem dX0_pieceBefore_12 : decode cX0_pieceBefore 12 = .ok (.iload_n 1, 1) := by decide +kernel
theorem dX0_pieceBefore_13 : decode cX0_pieceBefore 13 = .ok (.invokevirtual 132, 3) := by decide +kernel
theorem dX0_pieceBefore_16 : decode cX0_pieceBefore 16 = .ok (.ifCond .eq 26, 3) := by decide +kernel
theorem dX0_pieceBefore_19 : decode cX0_pieceBefore 19 = .ok (.aload_n 0, 1) := by decide +kernel
theorem dX0_pieceBefore_20 : decode cX0_pieceBefore 20 = .ok (.iload_n 1, 1) := by decide +kernel
theorem dX0_pieceBefore_21 : decode cX0_pieceBefore 21 = .ok (.aload_n 0, 1) := by decide +kernel
theorem dX0_pieceBefore_22 : decode cX0_pieceBefore 22 = .ok (.getfield 44, 3) := by decide +kernel
theorem dX0_pieceBefore_25 : decode cX0_pieceBefore 25 = .ok (.iload_n 2, 1) := by decide +kernel
theorem dX0_pieceBefore_26 : decode cX0_pieceBefore 26 = .ok (.laload, 1) := by decide +kernel
theorem dX0_pieceBefore_27 : decode cX0_pieceBefore 27 = .ok (.invokevirtual 172, 3) := by decide +kernel
theorem dX0_pieceBefore_30 : decode cX0_pieceBefore 30 = .ok (.aload_n 0, 1) := by decide +kernel
theorem dX0_pieceBefore_31 : decode cX0_pieceBefore 31 = .ok (.getfield 41, 3) := by decide +kernel
theorem dX0_pieceBefore_34 : decode cX0_pieceBefore 34 = .ok (.iload_n 1, 1) := by decide +kernel
theorem dX0_pieceBefore_35 : decode cX0_pieceBefore 35 = .ok (.laload, 1) := by decide +kernel
theorem dX0_pieceBefore_36 : decode cX0_pieceBefore 36 = .ok (.lcmp, 1) := by decide +kernel
theorem dX0_pieceBefore_37 : decode cX0_pieceBefore 37 = .ok (.ifCond .ne 5, 3) := by decide +kernel
theorem dX0_pieceBefore_40 : decode cX0_pieceBefore 40 = .ok (.iload_n 2, 1) := by decide +kernel
theorem dX0_pieceBefore_41 : decode cX0_pieceBefore 41 = .ok (.ireturn, 1) := by decide +kernel
theorem dX0_pieceBefore_42 : decode cX0_pieceBefore 42 = .ok (.iinc 2 1, 3) := by decide +kernel
theorem dX0_pieceBefore_45 : decode cX0_pieceBefore 45 = .ok (.goto (-43), 3) := by decide +kernel
theorem dX0_pieceBefore_48 : decode cX0_pieceBefore 48 = .ok (.iconst (-1), 1) := by decide +kernel
theorem dX0_pieceBefore_49 : decode cX0_pieceBefore 49 = .ok (.ireturn, 1) := by decide +kernel
