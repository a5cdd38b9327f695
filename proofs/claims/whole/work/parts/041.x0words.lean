theorem mX0_isPiece_62 : Cond.fieldLink RX0 62 "StreetGraph" "pieceCount" "I" ∈ wsX0_isPiece := by decide +kernel
theorem inX0_isPiece : ∀ w ∈ wsX00, w ∈ wsX0_isPiece := by first | exact fun w h => List.mem_cons_of_mem _ (List.mem_append_right _ h) | decide +kernel
theorem mX0_isBarred_29 : Cond.fieldLink RX0 29 "StreetGraph" "barredBits" "[J" ∈ wsX0_isBarred := by decide +kernel
theorem inX0_isBarred : ∀ w ∈ wsX00, w ∈ wsX0_isBarred := by first | exact fun w h => List.mem_cons_of_mem _ (List.mem_append_right _ h) | decide +kernel
theorem hdX0_wordOfTurn : yX0_wordOfTurn.cls ≠ "java/lang/invoke/MethodHandle" ∧ yX0_wordOfTurn.cls ≠ "java/lang/invoke/VarHandle" ∧ (parseMethodDescriptor yX0_wordOfTurn.desc).map (fun d => d.parameters.length) = some 2 := by decide +kernel
theorem hdX0_bitOfTurn : yX0_bitOfTurn.cls ≠ "java/lang/invoke/MethodHandle" ∧ yX0_bitOfTurn.cls ≠ "java/lang/invoke/VarHandle" ∧ (parseMethodDescriptor yX0_bitOfTurn.desc).map (fun d => d.parameters.length) = some 1 := by decide +kernel
theorem hdX0_isPiece : yX0_isPiece.cls = RX0 ∧ yX0_isPiece.cls ≠ "java/lang/invoke/MethodHandle" ∧ yX0_isPiece.cls ≠ "java/lang/invoke/VarHandle" ∧ (parseMethodDescriptor yX0_isPiece.desc).map (fun d => d.parameters.length) = some 1 := by decide +kernel
theorem mX0_turn_13 : Cond.fieldLink RX0 13 "StreetGraph" "ends" "[I" ∈ wsX0_turn := by decide +kernel
theorem inX0_turn : ∀ w ∈ wsX00, w ∈ wsX0_turn := by first | exact fun w h => List.mem_cons_of_mem _ (List.mem_append_right _ h) | decide +kernel
theorem mX0_turn_9 : Cond.fieldLink RX0 9 "StreetGraph" "begins" "[I" ∈ wsX0_turn := by decide +kernel
theorem hdX0_isBarred : yX0_isBarred.cls = RX0 ∧ yX0_isBarred.cls ≠ "java/lang/invoke/MethodHandle" ∧ yX0_isBarred.cls ≠ "java/lang/invoke/VarHandle" ∧ (parseMethodDescriptor yX0_isBarred.desc).map (fun d => d.parameters.length) = some 2 := by decide +kernel
theorem mX0_turn_88 : Cond.fieldLink RX0 88 "StreetGraph" "barredCount" "I" ∈ wsX0_turn := by decide +kernel
theorem mX0_turn_29 : Cond.fieldLink RX0 29 "StreetGraph" "barredBits" "[J" ∈ wsX0_turn := by decide +kernel
theorem mX0_stop_16 : Cond.fieldLink RX0 16 "StreetGraph" "lengths" "[J" ∈ wsX0_stop := by decide +kernel
theorem inX0_stop : ∀ w ∈ wsX00, w ∈ wsX0_stop := by first | exact fun w h => List.mem_cons_of_mem _ (List.mem_append_right _ h) | decide +kernel
theorem mX0_stop_91 : Cond.fieldLink RX0 91 "StreetGraph" "stopCount" "I" ∈ wsX0_stop := by decide +kernel
theorem mX0_stop_32 : Cond.fieldLink RX0 32 "StreetGraph" "stopPieces" "[I" ∈ wsX0_stop := by decide +kernel
theorem mX0_stop_35 : Cond.fieldLink RX0 35 "StreetGraph" "stopSides" "[I" ∈ wsX0_stop := by decide +kernel
theorem mX0_stop_38 : Cond.fieldLink RX0 38 "StreetGraph" "stopMetres" "[J" ∈ wsX0_stop := by decide +kernel
theorem mX0_isStop_91 : Cond.fieldLink RX0 91 "StreetGraph" "stopCount" "I" ∈ wsX0_isStop := by decide +kernel
theorem inX0_isStop : ∀ w ∈ wsX00, w ∈ wsX0_isStop := by first | exact fun w h => List.mem_cons_of_mem _ (List.mem_append_right _ h) | decide +kernel
theorem mX0_secondsAcross_35 : Cond.fieldLink RX0 35 "StreetGraph" "stopSides" "[I" ∈ wsX0_secondsAcross := by decide +kernel
theorem inX0_secondsAcross : ∀ w ∈ wsX00, w ∈ wsX0_secondsAcross := by first | exact fun w h => List.mem_cons_of_mem _ (List.mem_append_right _ h) | decide +kernel
theorem mX0_secondsAcross_143 : Cond.constantLong RX0 143 (15 : Int64) ∈ wsX0_secondsAcross := by decide +kernel
theorem mX0_isStraightOn_32 : Cond.fieldLink RX0 32 "StreetGraph" "stopPieces" "[I" ∈ wsX0_isStraightOn := by decide +kernel
theorem inX0_isStraightOn : ∀ w ∈ wsX00, w ∈ wsX0_isStraightOn := by first | exact fun w h => List.mem_cons_of_mem _ (List.mem_append_right _ h) | decide +kernel
theorem mX0_isStraightOn_38 : Cond.fieldLink RX0 38 "StreetGraph" "stopMetres" "[J" ∈ wsX0_isStraightOn := by decide +kernel
theorem mX0_secondsFor_20 : Cond.fieldLink RX0 20 "StreetGraph" "speeds" "[J" ∈ wsX0_secondsFor := by decide +kernel
theorem inX0_secondsFor : ∀ w ∈ wsX00, w ∈ wsX0_secondsFor := by first | exact fun w h => List.mem_cons_of_mem _ (List.mem_append_right _ h) | decide +kernel
theorem mX0_secondsFor_141 : Cond.constantLong RX0 141 (10 : Int64) ∈ wsX0_secondsFor := by decide +kernel
theorem mX0_secondsFor_maxl : Cond.methodLink RX0 135 Lib.MathLoose.max_long.x ∈ wsX0_secondsFor := by decide +kernel
theorem mX0_secondsFor_maxs : Cond.static Lib.MathLoose.max_long.x ∈ wsX0_secondsFor := by decide +kernel
theorem mX0_secondsFor_maxi : Cond.initialized "java/lang/Math" ∈ wsX0_secondsFor := by decide +kernel
theorem mX0_secondsFor_maxc : Cond.code Lib.MathLoose.max_long.x Lib.MathLoose.max_long.code 4 (some .long) ∈ wsX0_secondsFor := by decide +kernel
theorem mX0_forgetLeastTimes_62 : Cond.fieldLink RX0 62 "StreetGraph" "pieceCount" "I" ∈ wsX0_forgetLeastTimes := by decide +kernel
theorem inX0_forgetLeastTimes : ∀ w ∈ wsX00, w ∈ wsX0_forgetLeastTimes := by first | exact fun w h => List.mem_cons_of_mem _ (List.mem_append_right _ h) | decide +kernel
theorem mX0_forgetLeastTimes_41 : Cond.fieldLink RX0 41 "StreetGraph" "entered" "[J" ∈ wsX0_forgetLeastTimes := by decide +kernel
theorem mX0_forgetLeastTimes_159 : Cond.constantLong RX0 159 (4000000000000000000 : Int64) ∈ wsX0_forgetLeastTimes := by decide +kernel
theorem mX0_forgetLeastTimes_44 : Cond.fieldLink RX0 44 "StreetGraph" "done" "[J" ∈ wsX0_forgetLeastTimes := by decide +kernel
theorem mX0_forgetLeastTimes_47 : Cond.fieldLink RX0 47 "StreetGraph" "settled" "[Z" ∈ wsX0_forgetLeastTimes := by decide +kernel
theorem mX0_earliestUnsettled_159 : Cond.constantLong RX0 159 (4000000000000000000 : Int64) ∈ wsX0_earliestUnsettled := by decide +kernel
theorem mX0_earliestUnsettled_62 : Cond.fieldLink RX0 62 "StreetGraph" "pieceCount" "I" ∈ wsX0_earliestUnsettled := by decide +kernel
theorem inX0_earliestUnsettled : ∀ w ∈ wsX00, w ∈ wsX0_earliestUnsettled := by first | exact fun w h => List.mem_cons_of_mem _ (List.mem_append_right _ h) | decide +kernel
theorem mX0_earliestUnsettled_47 : Cond.fieldLink RX0 47 "StreetGraph" "settled" "[Z" ∈ wsX0_earliestUnsettled := by decide +kernel
theorem mX0_earliestUnsettled_44 : Cond.fieldLink RX0 44 "StreetGraph" "done" "[J" ∈ wsX0_earliestUnsettled := by decide +kernel
theorem mX0_mayGoOn_13 : Cond.fieldLink RX0 13 "StreetGraph" "ends" "[I" ∈ wsX0_mayGoOn := by decide +kernel
theorem inX0_mayGoOn : ∀ w ∈ wsX00, w ∈ wsX0_mayGoOn := by first | exact fun w h => List.mem_cons_of_mem _ (List.mem_append_right _ h) | decide +kernel
theorem mX0_mayGoOn_9 : Cond.fieldLink RX0 9 "StreetGraph" "begins" "[I" ∈ wsX0_mayGoOn := by decide +kernel
theorem mX0_hasGate_26 : Cond.fieldLink RX0 26 "StreetGraph" "closes" "[J" ∈ wsX0_hasGate := by decide +kernel
theorem inX0_hasGate : ∀ w ∈ wsX00, w ∈ wsX0_hasGate := by first | exact fun w h => List.mem_cons_of_mem _ (List.mem_append_right _ h) | decide +kernel
theorem hdX0_hasGate : yX0_hasGate.cls = RX0 ∧ yX0_hasGate.cls ≠ "java/lang/invoke/MethodHandle" ∧ yX0_hasGate.cls ≠ "java/lang/invoke/VarHandle" ∧ (parseMethodDescriptor yX0_hasGate.desc).map (fun d => d.parameters.length) = some 1 := by decide +kernel
theorem mX0_entryAtOrAfter_116 : Cond.constantLong RX0 116 (86400 : Int64) ∈ wsX0_entryAtOrAfter := by decide +kernel
theorem mX0_entryAtOrAfter_23 : Cond.fieldLink RX0 23 "StreetGraph" "opens" "[J" ∈ wsX0_entryAtOrAfter := by decide +kernel
theorem inX0_entryAtOrAfter : ∀ w ∈ wsX00, w ∈ wsX0_entryAtOrAfter := by first | exact fun w h => List.mem_cons_of_mem _ (List.mem_append_right _ h) | decide +kernel
theorem mX0_entryAtOrAfter_26 : Cond.fieldLink RX0 26 "StreetGraph" "closes" "[J" ∈ wsX0_entryAtOrAfter := by decide +kernel
theorem mX0_goOnFrom_62 : Cond.fieldLink RX0 62 "StreetGraph" "pieceCount" "I" ∈ wsX0_goOnFrom := by decide +kernel
theorem inX0_goOnFrom : ∀ w ∈ wsX00, w ∈ wsX0_goOnFrom := by first | exact fun w h => List.mem_cons_of_mem _ (List.mem_append_right _ h) | decide +kernel
theorem hdX0_mayGoOn : yX0_mayGoOn.cls = RX0 ∧ yX0_mayGoOn.cls ≠ "java/lang/invoke/MethodHandle" ∧ yX0_mayGoOn.cls ≠ "java/lang/invoke/VarHandle" ∧ (parseMethodDescriptor yX0_mayGoOn.desc).map (fun d => d.parameters.length) = some 2 := by decide +kernel
theorem mX0_goOnFrom_44 : Cond.fieldLink RX0 44 "StreetGraph" "done" "[J" ∈ wsX0_goOnFrom := by decide +kernel
theorem hdX0_entryAtOrAfter : yX0_entryAtOrAfter.cls = RX0 ∧ yX0_entryAtOrAfter.cls ≠ "java/lang/invoke/MethodHandle" ∧ yX0_entryAtOrAfter.cls ≠ "java/lang/invoke/VarHandle" ∧ (parseMethodDescriptor yX0_entryAtOrAfter.desc).map (fun d => d.parameters.length) = some 2 := by decide +kernel
theorem mX0_goOnFrom_41 : Cond.fieldLink RX0 41 "StreetGraph" "entered" "[J" ∈ wsX0_goOnFrom := by decide +kernel
theorem mX0_goOnFrom_16 : Cond.fieldLink RX0 16 "StreetGraph" "lengths" "[J" ∈ wsX0_goOnFrom := by decide +kernel
theorem hdX0_secondsFor : yX0_secondsFor.cls = RX0 ∧ yX0_secondsFor.cls ≠ "java/lang/invoke/MethodHandle" ∧ yX0_secondsFor.cls ≠ "java/lang/invoke/VarHandle" ∧ (parseMethodDescriptor yX0_secondsFor.desc).map (fun d => d.parameters.length) = some 2 := by decide +kernel
theorem mX0_goOnFrom_minl : Cond.methodLink RX0 175 Lib.MathLoose.min_long.x ∈ wsX0_goOnFrom := by decide +kernel
theorem mX0_goOnFrom_mins : Cond.static Lib.MathLoose.min_long.x ∈ wsX0_goOnFrom := by decide +kernel
theorem mX0_goOnFrom_mini : Cond.initialized "java/lang/Math" ∈ wsX0_goOnFrom := by decide +kernel
theorem mX0_goOnFrom_minc : Cond.code Lib.MathLoose.min_long.x Lib.MathLoose.min_long.code 4 (some .long) ∈ wsX0_goOnFrom := by decide +kernel
theorem hdX0_forgetLeastTimes : yX0_forgetLeastTimes.cls = RX0 ∧ yX0_forgetLeastTimes.cls ≠ "java/lang/invoke/MethodHandle" ∧ yX0_forgetLeastTimes.cls ≠ "java/lang/invoke/VarHandle" ∧ (parseMethodDescriptor yX0_forgetLeastTimes.desc).map (fun d => d.parameters.length) = some 0 := by decide +kernel
theorem mX0_findLeastTimes_44 : Cond.fieldLink RX0 44 "StreetGraph" "done" "[J" ∈ wsX0_findLeastTimes := by decide +kernel
theorem inX0_findLeastTimes : ∀ w ∈ wsX00, w ∈ wsX0_findLeastTimes := by first | exact fun w h => List.mem_cons_of_mem _ (List.mem_append_right _ h) | decide +kernel
theorem mX0_findLeastTimes_62 : Cond.fieldLink RX0 62 "StreetGraph" "pieceCount" "I" ∈ wsX0_findLeastTimes := by decide +kernel
theorem hdX0_earliestUnsettled : yX0_earliestUnsettled.cls = RX0 ∧ yX0_earliestUnsettled.cls ≠ "java/lang/invoke/MethodHandle" ∧ yX0_earliestUnsettled.cls ≠ "java/lang/invoke/VarHandle" ∧ (parseMethodDescriptor yX0_earliestUnsettled.desc).map (fun d => d.parameters.length) = some 0 := by decide +kernel
theorem mX0_findLeastTimes_41 : Cond.fieldLink RX0 41 "StreetGraph" "entered" "[J" ∈ wsX0_findLeastTimes := by decide +kernel
theorem mX0_findLeastTimes_47 : Cond.fieldLink RX0 47 "StreetGraph" "settled" "[Z" ∈ wsX0_findLeastTimes := by decide +kernel
theorem hdX0_goOnFrom : yX0_goOnFrom.cls = RX0 ∧ yX0_goOnFrom.cls ≠ "java/lang/invoke/MethodHandle" ∧ yX0_goOnFrom.cls ≠ "java/lang/invoke/VarHandle" ∧ (parseMethodDescriptor yX0_goOnFrom.desc).map (fun d => d.parameters.length) = some 1 := by decide +kernel
theorem hdX0_secondsAcross : yX0_secondsAcross.cls = RX0 ∧ yX0_secondsAcross.cls ≠ "java/lang/invoke/MethodHandle" ∧ yX0_secondsAcross.cls ≠ "java/lang/invoke/VarHandle" ∧ (parseMethodDescriptor yX0_secondsAcross.desc).map (fun d => d.parameters.length) = some 1 := by decide +kernel
theorem mX0_leastArrival_32 : Cond.fieldLink RX0 32 "StreetGraph" "stopPieces" "[I" ∈ wsX0_leastArrival := by decide +kernel
theorem inX0_leastArrival : ∀ w ∈ wsX00, w ∈ wsX0_leastArrival := by first | exact fun w h => List.mem_cons_of_mem _ (List.mem_append_right _ h) | decide +kernel
theorem hdX0_isStraightOn : yX0_isStraightOn.cls = RX0 ∧ yX0_isStraightOn.cls ≠ "java/lang/invoke/MethodHandle" ∧ yX0_isStraightOn.cls ≠ "java/lang/invoke/VarHandle" ∧ (parseMethodDescriptor yX0_isStraightOn.desc).map (fun d => d.parameters.length) = some 2 := by decide +kernel
theorem mX0_leastArrival_16 : Cond.fieldLink RX0 16 "StreetGraph" "lengths" "[J" ∈ wsX0_leastArrival := by decide +kernel
theorem mX0_leastArrival_38 : Cond.fieldLink RX0 38 "StreetGraph" "stopMetres" "[J" ∈ wsX0_leastArrival := by decide +kernel
theorem hdX0_findLeastTimes : yX0_findLeastTimes.cls = RX0 ∧ yX0_findLeastTimes.cls ≠ "java/lang/invoke/MethodHandle" ∧ yX0_findLeastTimes.cls ≠ "java/lang/invoke/VarHandle" ∧ (parseMethodDescriptor yX0_findLeastTimes.desc).map (fun d => d.parameters.length) = some 3 := by decide +kernel
theorem mX0_leastArrival_41 : Cond.fieldLink RX0 41 "StreetGraph" "entered" "[J" ∈ wsX0_leastArrival := by decide +kernel
theorem mX0_leastArrival_159 : Cond.constantLong RX0 159 (4000000000000000000 : Int64) ∈ wsX0_leastArrival := by decide +kernel
theorem mX0_leastArrival_110 : Cond.constantLong RX0 110 (-1 : Int64) ∈ wsX0_leastArrival := by decide +kernel
theorem mX0_pieceBefore_62 : Cond.fieldLink RX0 62 "StreetGraph" "pieceCount" "I" ∈ wsX0_pieceBefore := by decide +kernel
theorem inX0_pieceBefore : ∀ w ∈ wsX00, w ∈ wsX0_pieceBefore := by first | exact fun w h => List.mem_cons_of_mem _ (List.mem_append_right _ h) | decide +kernel
theorem mX0_pieceBefore_44 : Cond.fieldLink RX0 44 "StreetGraph" "done" "[J" ∈ wsX0_pieceBefore := by decide +kernel
theorem mX0_pieceBefore_41 : Cond.fieldLink RX0 41 "StreetGraph" "entered" "[J" ∈ wsX0_pieceBefore := by decide +kernel
theorem mX0_keepSteps_32 : Cond.fieldLink RX0 32 "StreetGraph" "stopPieces" "[I" ∈ wsX0_keepSteps := by decide +kernel
theorem inX0_keepSteps : ∀ w ∈ wsX00, w ∈ wsX0_keepSteps := by first | exact fun w h => List.mem_cons_of_mem _ (List.mem_append_right _ h) | decide +kernel
theorem mX0_keepSteps_51 : Cond.fieldLink RX0 51 "StreetGraph" "stepsBack" "[I" ∈ wsX0_keepSteps := by decide +kernel
theorem mX0_keepSteps_107 : Cond.fieldLink RX0 107 "StreetGraph" "stepCount" "I" ∈ wsX0_keepSteps := by decide +kernel
theorem hdX0_pieceBefore : yX0_pieceBefore.cls = RX0 ∧ yX0_pieceBefore.cls ≠ "java/lang/invoke/MethodHandle" ∧ yX0_pieceBefore.cls ≠ "java/lang/invoke/VarHandle" ∧ (parseMethodDescriptor yX0_pieceBefore.desc).map (fun d => d.parameters.length) = some 1 := by decide +kernel
theorem hdX0_isStop : yX0_isStop.cls = RX0 ∧ yX0_isStop.cls ≠ "java/lang/invoke/MethodHandle" ∧ yX0_isStop.cls ≠ "java/lang/invoke/VarHandle" ∧ (parseMethodDescriptor yX0_isStop.desc).map (fun d => d.parameters.length) = some 1 := by decide +kernel
theorem mX0_way_97 : Cond.constantLong RX0 97 (-11 : Int64) ∈ wsX0_way := by decide +kernel
theorem mX0_way_101 : Cond.constantLong RX0 101 (-12 : Int64) ∈ wsX0_way := by decide +kernel
theorem mX0_way_99 : Cond.constantLong RX0 99 (1000000000000 : Int64) ∈ wsX0_way := by decide +kernel
theorem hdX0_leastArrival : yX0_leastArrival.cls = RX0 ∧ yX0_leastArrival.cls ≠ "java/lang/invoke/MethodHandle" ∧ yX0_leastArrival.cls ≠ "java/lang/invoke/VarHandle" ∧ (parseMethodDescriptor yX0_leastArrival.desc).map (fun d => d.parameters.length) = some 3 := by decide +kernel
theorem mX0_way_107 : Cond.fieldLink RX0 107 "StreetGraph" "stepCount" "I" ∈ wsX0_way := by decide +kernel
theorem inX0_way : ∀ w ∈ wsX00, w ∈ wsX0_way := by first | exact fun w h => List.mem_cons_of_mem _ (List.mem_append_right _ h) | decide +kernel
theorem mX0_way_110 : Cond.constantLong RX0 110 (-1 : Int64) ∈ wsX0_way := by decide +kernel
theorem hdX0_keepSteps : yX0_keepSteps.cls = RX0 ∧ yX0_keepSteps.cls ≠ "java/lang/invoke/MethodHandle" ∧ yX0_keepSteps.cls ≠ "java/lang/invoke/VarHandle" ∧ (parseMethodDescriptor yX0_keepSteps.desc).map (fun d => d.parameters.length) = some 2 := by decide +kernel
theorem mX0_step_107 : Cond.fieldLink RX0 107 "StreetGraph" "stepCount" "I" ∈ wsX0_step := by decide +kernel
theorem inX0_step : ∀ w ∈ wsX00, w ∈ wsX0_step := by first | exact fun w h => List.mem_cons_of_mem _ (List.mem_append_right _ h) | decide +kernel
theorem mX0_step_51 : Cond.fieldLink RX0 51 "StreetGraph" "stepsBack" "[I" ∈ wsX0_step := by decide +kernel
theorem mX0_gate_23 : Cond.fieldLink RX0 23 "StreetGraph" "opens" "[J" ∈ wsX0_gate := by decide +kernel
theorem inX0_gate : ∀ w ∈ wsX00, w ∈ wsX0_gate := by first | exact fun w h => List.mem_cons_of_mem _ (List.mem_append_right _ h) | decide +kernel
theorem mX0_gate_26 : Cond.fieldLink RX0 26 "StreetGraph" "closes" "[J" ∈ wsX0_gate := by decide +kernel
theorem mX0_gate_116 : Cond.constantLong RX0 116 (86400 : Int64) ∈ wsX0_gate := by decide +kernel
theorem mX0_change_60 : Cond.constantLong RX0 60 (1000 : Int64) ∈ wsX0_change := by decide +kernel
theorem mX0_change_20 : Cond.fieldLink RX0 20 "StreetGraph" "speeds" "[J" ∈ wsX0_change := by decide +kernel
theorem inX0_change : ∀ w ∈ wsX00, w ∈ wsX0_change := by first | exact fun w h => List.mem_cons_of_mem _ (List.mem_append_right _ h) | decide +kernel
theorem mX0_table_97 : Cond.constantLong RX0 97 (-11 : Int64) ∈ wsX0_table := by decide +kernel
theorem mX0_hasStopAtSide_91 : Cond.fieldLink RX0 91 "StreetGraph" "stopCount" "I" ∈ wsX0_hasStopAtSide := by decide +kernel
theorem inX0_hasStopAtSide : ∀ w ∈ wsX00, w ∈ wsX0_hasStopAtSide := by first | exact fun w h => List.mem_cons_of_mem _ (List.mem_append_right _ h) | decide +kernel
theorem mX0_hasStopAtSide_32 : Cond.fieldLink RX0 32 "StreetGraph" "stopPieces" "[I" ∈ wsX0_hasStopAtSide := by decide +kernel
theorem mX0_hasStopAtSide_35 : Cond.fieldLink RX0 35 "StreetGraph" "stopSides" "[I" ∈ wsX0_hasStopAtSide := by decide +kernel
theorem mX0_mayGoOnFrom_62 : Cond.fieldLink RX0 62 "StreetGraph" "pieceCount" "I" ∈ wsX0_mayGoOnFrom := by decide +kernel
theorem inX0_mayGoOnFrom : ∀ w ∈ wsX00, w ∈ wsX0_mayGoOnFrom := by first | exact fun w h => List.mem_cons_of_mem _ (List.mem_append_right _ h) | decide +kernel
theorem hdX0_hasStopAtSide : yX0_hasStopAtSide.cls = RX0 ∧ yX0_hasStopAtSide.cls ≠ "java/lang/invoke/MethodHandle" ∧ yX0_hasStopAtSide.cls ≠ "java/lang/invoke/VarHandle" ∧ (parseMethodDescriptor yX0_hasStopAtSide.desc).map (fun d => d.parameters.length) = some 2 := by decide +kernel
theorem hdX0_mayGoOnFrom : yX0_mayGoOnFrom.cls = RX0 ∧ yX0_mayGoOnFrom.cls ≠ "java/lang/invoke/MethodHandle" ∧ yX0_mayGoOnFrom.cls ≠ "java/lang/invoke/VarHandle" ∧ (parseMethodDescriptor yX0_mayGoOnFrom.desc).map (fun d => d.parameters.length) = some 1 := by decide +kernel
abbrev rmX0_isCrossing : Room := { frames := 0, cells := 0, slots := 0, locals := 0 }
abbrev rmX0_isPiece : Room := { frames := 0, cells := 0, slots := 0, locals := 0 }
abbrev rmX0_wordOfTurn : Room := { frames := 0, cells := 0, slots := 0, locals := 0 }
abbrev rmX0_bitOfTurn : Room := { frames := 0, cells := 0, slots := 0, locals := 0 }
abbrev rmX0_isBarred : Room := { frames := 1, cells := 0, slots := 0, locals := 21 }
abbrev rmX0_turn : Room := { frames := 2, cells := 0, slots := 0, locals := 43 }
abbrev rmX0_stop : Room := { frames := 1, cells := 0, slots := 0, locals := 21 }
abbrev rmX0_isStop : Room := { frames := 0, cells := 0, slots := 0, locals := 0 }
abbrev rmX0_secondsAcross : Room := { frames := 0, cells := 0, slots := 0, locals := 0 }
abbrev rmX0_isStraightOn : Room := { frames := 0, cells := 0, slots := 0, locals := 0 }
abbrev rmX0_secondsFor : Room := { frames := 1, cells := 0, slots := 0, locals := 23 }
abbrev rmX0_forgetLeastTimes : Room := { frames := 0, cells := 0, slots := 0, locals := 0 }
abbrev rmX0_earliestUnsettled : Room := { frames := 0, cells := 0, slots := 0, locals := 0 }
abbrev rmX0_mayGoOn : Room := { frames := 2, cells := 0, slots := 0, locals := 43 }
abbrev rmX0_hasGate : Room := { frames := 0, cells := 0, slots := 0, locals := 0 }
abbrev rmX0_entryAtOrAfter : Room := { frames := 1, cells := 0, slots := 0, locals := 21 }
abbrev rmX0_goOnFrom : Room := { frames := 3, cells := 0, slots := 0, locals := 65 }
abbrev rmX0_findLeastTimes : Room := { frames := 4, cells := 0, slots := 0, locals := 89 }
abbrev rmX0_leastArrival : Room := { frames := 5, cells := 0, slots := 0, locals := 115 }
abbrev rmX0_pieceBefore : Room := { frames := 3, cells := 0, slots := 0, locals := 65 }
abbrev rmX0_keepSteps : Room := { frames := 4, cells := 0, slots := 0, locals := 87 }
abbrev rmX0_way : Room := { frames := 6, cells := 0, slots := 0, locals := 145 }
abbrev rmX0_step : Room := { frames := 0, cells := 0, slots := 0, locals := 0 }
abbrev rmX0_gate : Room := { frames := 1, cells := 0, slots := 0, locals := 21 }
abbrev rmX0_change : Room := { frames := 1, cells := 0, slots := 0, locals := 21 }
abbrev rmX0_table : Room := { frames := 6, cells := 0, slots := 0, locals := 145 }
abbrev rmX0_hasStopAtSide : Room := { frames := 0, cells := 0, slots := 0, locals := 0 }
abbrev rmX0_mayGoOnFrom : Room := { frames := 3, cells := 0, slots := 0, locals := 65 }
abbrev rmX0_service : Room := { frames := 4, cells := 0, slots := 0, locals := 87 }
