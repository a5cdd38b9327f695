theorem mX1_thrown_51 : Cond.fieldLink RX1 51 "StreetGraphModel" "thrown" "I" ∈ wsX1_thrown := by decide +kernel
theorem inX1_thrown : ∀ w ∈ wsX10, w ∈ wsX1_thrown := by first | exact fun w h => List.mem_cons_of_mem _ (List.mem_append_right _ h) | decide +kernel
theorem mX1_isPiece_55 : Cond.fieldLink RX1 55 "StreetGraphModel" "pieces" "I" ∈ wsX1_isPiece := by decide +kernel
theorem inX1_isPiece : ∀ w ∈ wsX10, w ∈ wsX1_isPiece := by first | exact fun w h => List.mem_cons_of_mem _ (List.mem_append_right _ h) | decide +kernel
theorem mX1_isStop_58 : Cond.fieldLink RX1 58 "StreetGraphModel" "stops" "I" ∈ wsX1_isStop := by decide +kernel
theorem inX1_isStop : ∀ w ∈ wsX10, w ∈ wsX1_isStop := by first | exact fun w h => List.mem_cons_of_mem _ (List.mem_append_right _ h) | decide +kernel
theorem mX1_seconds_61 : Cond.constantLong RX1 61 (10 : Int64) ∈ wsX1_seconds := by decide +kernel
theorem mX1_seconds_20 : Cond.fieldLink RX1 20 "StreetGraphModel" "speed" "[J" ∈ wsX1_seconds := by decide +kernel
theorem inX1_seconds : ∀ w ∈ wsX10, w ∈ wsX1_seconds := by first | exact fun w h => List.mem_cons_of_mem _ (List.mem_append_right _ h) | decide +kernel
theorem mX1_piece_51 : Cond.fieldLink RX1 51 "StreetGraphModel" "thrown" "I" ∈ wsX1_piece := by decide +kernel
theorem inX1_piece : ∀ w ∈ wsX10, w ∈ wsX1_piece := by first | exact fun w h => List.mem_cons_of_mem _ (List.mem_append_right _ h) | decide +kernel
theorem mX1_piece_63 : Cond.constantLong RX1 63 (59 : Int64) ∈ wsX1_piece := by decide +kernel
theorem hdX1_in : yX1_in.cls ≠ "java/lang/invoke/MethodHandle" ∧ yX1_in.cls ≠ "java/lang/invoke/VarHandle" ∧ (parseMethodDescriptor yX1_in.desc).map (fun d => d.parameters.length) = some 3 := by decide +kernel
theorem mX1_piece_69 : Cond.constantLong RX1 69 (10000 : Int64) ∈ wsX1_piece := by decide +kernel
theorem mX1_piece_71 : Cond.constantLong RX1 71 (1000 : Int64) ∈ wsX1_piece := by decide +kernel
theorem mX1_piece_55 : Cond.fieldLink RX1 55 "StreetGraphModel" "pieces" "I" ∈ wsX1_piece := by decide +kernel
theorem mX1_piece_7 : Cond.fieldLink RX1 7 "StreetGraphModel" "begins" "[I" ∈ wsX1_piece := by decide +kernel
theorem mX1_piece_13 : Cond.fieldLink RX1 13 "StreetGraphModel" "ends" "[I" ∈ wsX1_piece := by decide +kernel
theorem mX1_piece_16 : Cond.fieldLink RX1 16 "StreetGraphModel" "length" "[J" ∈ wsX1_piece := by decide +kernel
theorem mX1_piece_20 : Cond.fieldLink RX1 20 "StreetGraphModel" "speed" "[J" ∈ wsX1_piece := by decide +kernel
theorem hdX1_isPiece : yX1_isPiece.cls = RX1 ∧ yX1_isPiece.cls ≠ "java/lang/invoke/MethodHandle" ∧ yX1_isPiece.cls ≠ "java/lang/invoke/VarHandle" ∧ (parseMethodDescriptor yX1_isPiece.desc).map (fun d => d.parameters.length) = some 1 := by decide +kernel
theorem mX1_piece2_51 : Cond.fieldLink RX1 51 "StreetGraphModel" "thrown" "I" ∈ wsX1_piece2 := by decide +kernel
theorem inX1_piece2 : ∀ w ∈ wsX10, w ∈ wsX1_piece2 := by first | exact fun w h => List.mem_cons_of_mem _ (List.mem_append_right _ h) | decide +kernel
theorem mX1_piece2_7 : Cond.fieldLink RX1 7 "StreetGraphModel" "begins" "[I" ∈ wsX1_piece2 := by decide +kernel
theorem mX1_piece2_13 : Cond.fieldLink RX1 13 "StreetGraphModel" "ends" "[I" ∈ wsX1_piece2 := by decide +kernel
theorem mX1_turn_51 : Cond.fieldLink RX1 51 "StreetGraphModel" "thrown" "I" ∈ wsX1_turn := by decide +kernel
theorem inX1_turn : ∀ w ∈ wsX10, w ∈ wsX1_turn := by first | exact fun w h => List.mem_cons_of_mem _ (List.mem_append_right _ h) | decide +kernel
theorem mX1_turn_13 : Cond.fieldLink RX1 13 "StreetGraphModel" "ends" "[I" ∈ wsX1_turn := by decide +kernel
theorem mX1_turn_7 : Cond.fieldLink RX1 7 "StreetGraphModel" "begins" "[I" ∈ wsX1_turn := by decide +kernel
theorem mX1_turn_29 : Cond.fieldLink RX1 29 "StreetGraphModel" "barred" "[Z" ∈ wsX1_turn := by decide +kernel
theorem mX1_stop_51 : Cond.fieldLink RX1 51 "StreetGraphModel" "thrown" "I" ∈ wsX1_stop := by decide +kernel
theorem inX1_stop : ∀ w ∈ wsX10, w ∈ wsX1_stop := by first | exact fun w h => List.mem_cons_of_mem _ (List.mem_append_right _ h) | decide +kernel
theorem mX1_stop_16 : Cond.fieldLink RX1 16 "StreetGraphModel" "length" "[J" ∈ wsX1_stop := by decide +kernel
theorem mX1_stop_58 : Cond.fieldLink RX1 58 "StreetGraphModel" "stops" "I" ∈ wsX1_stop := by decide +kernel
theorem mX1_stop_33 : Cond.fieldLink RX1 33 "StreetGraphModel" "on" "[I" ∈ wsX1_stop := by decide +kernel
theorem mX1_stop_36 : Cond.fieldLink RX1 36 "StreetGraphModel" "side" "[I" ∈ wsX1_stop := by decide +kernel
theorem mX1_stop_39 : Cond.fieldLink RX1 39 "StreetGraphModel" "at" "[J" ∈ wsX1_stop := by decide +kernel
theorem mX1_gate_51 : Cond.fieldLink RX1 51 "StreetGraphModel" "thrown" "I" ∈ wsX1_gate := by decide +kernel
theorem inX1_gate : ∀ w ∈ wsX10, w ∈ wsX1_gate := by first | exact fun w h => List.mem_cons_of_mem _ (List.mem_append_right _ h) | decide +kernel
theorem mX1_gate_23 : Cond.fieldLink RX1 23 "StreetGraphModel" "open" "[J" ∈ wsX1_gate := by decide +kernel
theorem mX1_gate_26 : Cond.fieldLink RX1 26 "StreetGraphModel" "close" "[J" ∈ wsX1_gate := by decide +kernel
theorem mX1_gate_77 : Cond.constantLong RX1 77 (86400 : Int64) ∈ wsX1_gate := by decide +kernel
theorem mX1_change_51 : Cond.fieldLink RX1 51 "StreetGraphModel" "thrown" "I" ∈ wsX1_change := by decide +kernel
theorem inX1_change : ∀ w ∈ wsX10, w ∈ wsX1_change := by first | exact fun w h => List.mem_cons_of_mem _ (List.mem_append_right _ h) | decide +kernel
theorem mX1_change_71 : Cond.constantLong RX1 71 (1000 : Int64) ∈ wsX1_change := by decide +kernel
theorem mX1_change_20 : Cond.fieldLink RX1 20 "StreetGraphModel" "speed" "[J" ∈ wsX1_change := by decide +kernel
theorem mX1_leads_13 : Cond.fieldLink RX1 13 "StreetGraphModel" "ends" "[I" ∈ wsX1_leads := by decide +kernel
theorem inX1_leads : ∀ w ∈ wsX10, w ∈ wsX1_leads := by first | exact fun w h => List.mem_cons_of_mem _ (List.mem_append_right _ h) | decide +kernel
theorem mX1_leads_7 : Cond.fieldLink RX1 7 "StreetGraphModel" "begins" "[I" ∈ wsX1_leads := by decide +kernel
theorem mX1_leads_29 : Cond.fieldLink RX1 29 "StreetGraphModel" "barred" "[Z" ∈ wsX1_leads := by decide +kernel
theorem mX1_entry_26 : Cond.fieldLink RX1 26 "StreetGraphModel" "close" "[J" ∈ wsX1_entry := by decide +kernel
theorem inX1_entry : ∀ w ∈ wsX10, w ∈ wsX1_entry := by first | exact fun w h => List.mem_cons_of_mem _ (List.mem_append_right _ h) | decide +kernel
theorem mX1_entry_77 : Cond.constantLong RX1 77 (86400 : Int64) ∈ wsX1_entry := by decide +kernel
theorem mX1_entry_23 : Cond.fieldLink RX1 23 "StreetGraphModel" "open" "[J" ∈ wsX1_entry := by decide +kernel
theorem mX1_crossing_36 : Cond.fieldLink RX1 36 "StreetGraphModel" "side" "[I" ∈ wsX1_crossing := by decide +kernel
theorem inX1_crossing : ∀ w ∈ wsX10, w ∈ wsX1_crossing := by first | exact fun w h => List.mem_cons_of_mem _ (List.mem_append_right _ h) | decide +kernel
theorem mX1_crossing_79 : Cond.constantLong RX1 79 (15 : Int64) ∈ wsX1_crossing := by decide +kernel
theorem hdX1_crossing : yX1_crossing.cls = RX1 ∧ yX1_crossing.cls ≠ "java/lang/invoke/MethodHandle" ∧ yX1_crossing.cls ≠ "java/lang/invoke/VarHandle" ∧ (parseMethodDescriptor yX1_crossing.desc).map (fun d => d.parameters.length) = some 1 := by decide +kernel
theorem mX1_rest_33 : Cond.fieldLink RX1 33 "StreetGraphModel" "on" "[I" ∈ wsX1_rest := by decide +kernel
theorem inX1_rest : ∀ w ∈ wsX10, w ∈ wsX1_rest := by first | exact fun w h => List.mem_cons_of_mem _ (List.mem_append_right _ h) | decide +kernel
theorem mX1_rest_16 : Cond.fieldLink RX1 16 "StreetGraphModel" "length" "[J" ∈ wsX1_rest := by decide +kernel
theorem mX1_rest_39 : Cond.fieldLink RX1 39 "StreetGraphModel" "at" "[J" ∈ wsX1_rest := by decide +kernel
theorem hdX1_seconds : yX1_seconds.cls = RX1 ∧ yX1_seconds.cls ≠ "java/lang/invoke/MethodHandle" ∧ yX1_seconds.cls ≠ "java/lang/invoke/VarHandle" ∧ (parseMethodDescriptor yX1_seconds.desc).map (fun d => d.parameters.length) = some 2 := by decide +kernel
theorem mX1_reach_42 : Cond.fieldLink RX1 42 "StreetGraphModel" "entered" "[J" ∈ wsX1_reach := by decide +kernel
theorem inX1_reach : ∀ w ∈ wsX10, w ∈ wsX1_reach := by first | exact fun w h => List.mem_cons_of_mem _ (List.mem_append_right _ h) | decide +kernel
theorem mX1_reach_89 : Cond.constantLong RX1 89 (4000000000000000000 : Int64) ∈ wsX1_reach := by decide +kernel
theorem mX1_reach_45 : Cond.fieldLink RX1 45 "StreetGraphModel" "done" "[J" ∈ wsX1_reach := by decide +kernel
theorem mX1_reach_33 : Cond.fieldLink RX1 33 "StreetGraphModel" "on" "[I" ∈ wsX1_reach := by decide +kernel
theorem hdX1_rest : yX1_rest.cls = RX1 ∧ yX1_rest.cls ≠ "java/lang/invoke/MethodHandle" ∧ yX1_rest.cls ≠ "java/lang/invoke/VarHandle" ∧ (parseMethodDescriptor yX1_rest.desc).map (fun d => d.parameters.length) = some 2 := by decide +kernel
theorem mX1_reach_55 : Cond.fieldLink RX1 55 "StreetGraphModel" "pieces" "I" ∈ wsX1_reach := by decide +kernel
theorem hdX1_leads : yX1_leads.cls = RX1 ∧ yX1_leads.cls ≠ "java/lang/invoke/MethodHandle" ∧ yX1_leads.cls ≠ "java/lang/invoke/VarHandle" ∧ (parseMethodDescriptor yX1_leads.desc).map (fun d => d.parameters.length) = some 2 := by decide +kernel
theorem mX1_reach_16 : Cond.fieldLink RX1 16 "StreetGraphModel" "length" "[J" ∈ wsX1_reach := by decide +kernel
theorem hdX1_entry : yX1_entry.cls = RX1 ∧ yX1_entry.cls ≠ "java/lang/invoke/MethodHandle" ∧ yX1_entry.cls ≠ "java/lang/invoke/VarHandle" ∧ (parseMethodDescriptor yX1_entry.desc).map (fun d => d.parameters.length) = some 2 := by decide +kernel
theorem mX1_straight_33 : Cond.fieldLink RX1 33 "StreetGraphModel" "on" "[I" ∈ wsX1_straight := by decide +kernel
theorem inX1_straight : ∀ w ∈ wsX10, w ∈ wsX1_straight := by first | exact fun w h => List.mem_cons_of_mem _ (List.mem_append_right _ h) | decide +kernel
theorem mX1_straight_89 : Cond.constantLong RX1 89 (4000000000000000000 : Int64) ∈ wsX1_straight := by decide +kernel
theorem mX1_straight_39 : Cond.fieldLink RX1 39 "StreetGraphModel" "at" "[J" ∈ wsX1_straight := by decide +kernel
theorem mX1_around_33 : Cond.fieldLink RX1 33 "StreetGraphModel" "on" "[I" ∈ wsX1_around := by decide +kernel
theorem inX1_around : ∀ w ∈ wsX10, w ∈ wsX1_around := by first | exact fun w h => List.mem_cons_of_mem _ (List.mem_append_right _ h) | decide +kernel
theorem mX1_around_42 : Cond.fieldLink RX1 42 "StreetGraphModel" "entered" "[J" ∈ wsX1_around := by decide +kernel
theorem mX1_around_89 : Cond.constantLong RX1 89 (4000000000000000000 : Int64) ∈ wsX1_around := by decide +kernel
theorem mX1_around_39 : Cond.fieldLink RX1 39 "StreetGraphModel" "at" "[J" ∈ wsX1_around := by decide +kernel
theorem mX1_before_55 : Cond.fieldLink RX1 55 "StreetGraphModel" "pieces" "I" ∈ wsX1_before := by decide +kernel
theorem inX1_before : ∀ w ∈ wsX10, w ∈ wsX1_before := by first | exact fun w h => List.mem_cons_of_mem _ (List.mem_append_right _ h) | decide +kernel
theorem mX1_before_45 : Cond.fieldLink RX1 45 "StreetGraphModel" "done" "[J" ∈ wsX1_before := by decide +kernel
theorem mX1_before_89 : Cond.constantLong RX1 89 (4000000000000000000 : Int64) ∈ wsX1_before := by decide +kernel
theorem mX1_before_42 : Cond.fieldLink RX1 42 "StreetGraphModel" "entered" "[J" ∈ wsX1_before := by decide +kernel
theorem mX1_way_51 : Cond.fieldLink RX1 51 "StreetGraphModel" "thrown" "I" ∈ wsX1_way := by decide +kernel
theorem inX1_way : ∀ w ∈ wsX10, w ∈ wsX1_way := by first | exact fun w h => List.mem_cons_of_mem _ (List.mem_append_right _ h) | decide +kernel
theorem hdX1_isStop : yX1_isStop.cls = RX1 ∧ yX1_isStop.cls ≠ "java/lang/invoke/MethodHandle" ∧ yX1_isStop.cls ≠ "java/lang/invoke/VarHandle" ∧ (parseMethodDescriptor yX1_isStop.desc).map (fun d => d.parameters.length) = some 1 := by decide +kernel
theorem mX1_way_104 : Cond.constantLong RX1 104 (-11 : Int64) ∈ wsX1_way := by decide +kernel
theorem mX1_way_106 : Cond.constantLong RX1 106 (1000000000000 : Int64) ∈ wsX1_way := by decide +kernel
theorem hdX1_reach : yX1_reach.cls = RX1 ∧ yX1_reach.cls ≠ "java/lang/invoke/MethodHandle" ∧ yX1_reach.cls ≠ "java/lang/invoke/VarHandle" ∧ (parseMethodDescriptor yX1_reach.desc).map (fun d => d.parameters.length) = some 2 := by decide +kernel
theorem hdX1_straight : yX1_straight.cls = RX1 ∧ yX1_straight.cls ≠ "java/lang/invoke/MethodHandle" ∧ yX1_straight.cls ≠ "java/lang/invoke/VarHandle" ∧ (parseMethodDescriptor yX1_straight.desc).map (fun d => d.parameters.length) = some 3 := by decide +kernel
theorem hdX1_around : yX1_around.cls = RX1 ∧ yX1_around.cls ≠ "java/lang/invoke/MethodHandle" ∧ yX1_around.cls ≠ "java/lang/invoke/VarHandle" ∧ (parseMethodDescriptor yX1_around.desc).map (fun d => d.parameters.length) = some 1 := by decide +kernel
theorem mX1_way_121 : Cond.fieldLink RX1 121 "StreetGraphModel" "steps" "I" ∈ wsX1_way := by decide +kernel
theorem mX1_way_89 : Cond.constantLong RX1 89 (4000000000000000000 : Int64) ∈ wsX1_way := by decide +kernel
theorem mX1_way_48 : Cond.fieldLink RX1 48 "StreetGraphModel" "back" "[I" ∈ wsX1_way := by decide +kernel
theorem mX1_way_33 : Cond.fieldLink RX1 33 "StreetGraphModel" "on" "[I" ∈ wsX1_way := by decide +kernel
theorem hdX1_before : yX1_before.cls = RX1 ∧ yX1_before.cls ≠ "java/lang/invoke/MethodHandle" ∧ yX1_before.cls ≠ "java/lang/invoke/VarHandle" ∧ (parseMethodDescriptor yX1_before.desc).map (fun d => d.parameters.length) = some 1 := by decide +kernel
theorem mX1_way_45 : Cond.fieldLink RX1 45 "StreetGraphModel" "done" "[J" ∈ wsX1_way := by decide +kernel
theorem mX1_way_124 : Cond.constantLong RX1 124 (-1 : Int64) ∈ wsX1_way := by decide +kernel
theorem mX1_way_108 : Cond.constantLong RX1 108 (-12 : Int64) ∈ wsX1_way := by decide +kernel
theorem mX1_step_51 : Cond.fieldLink RX1 51 "StreetGraphModel" "thrown" "I" ∈ wsX1_step := by decide +kernel
theorem inX1_step : ∀ w ∈ wsX10, w ∈ wsX1_step := by first | exact fun w h => List.mem_cons_of_mem _ (List.mem_append_right _ h) | decide +kernel
theorem mX1_step_121 : Cond.fieldLink RX1 121 "StreetGraphModel" "steps" "I" ∈ wsX1_step := by decide +kernel
theorem mX1_step_48 : Cond.fieldLink RX1 48 "StreetGraphModel" "back" "[I" ∈ wsX1_step := by decide +kernel
theorem mX1_table_51 : Cond.fieldLink RX1 51 "StreetGraphModel" "thrown" "I" ∈ wsX1_table := by decide +kernel
theorem inX1_table : ∀ w ∈ wsX10, w ∈ wsX1_table := by first | exact fun w h => List.mem_cons_of_mem _ (List.mem_append_right _ h) | decide +kernel
theorem mX1_table_104 : Cond.constantLong RX1 104 (-11 : Int64) ∈ wsX1_table := by decide +kernel
theorem mX1_table_89 : Cond.constantLong RX1 89 (4000000000000000000 : Int64) ∈ wsX1_table := by decide +kernel
theorem mX1_table_124 : Cond.constantLong RX1 124 (-1 : Int64) ∈ wsX1_table := by decide +kernel
theorem mX1_service_51 : Cond.fieldLink RX1 51 "StreetGraphModel" "thrown" "I" ∈ wsX1_service := by decide +kernel
theorem inX1_service : ∀ w ∈ wsX10, w ∈ wsX1_service := by first | exact fun w h => List.mem_cons_of_mem _ (List.mem_append_right _ h) | decide +kernel
theorem mX1_service_58 : Cond.fieldLink RX1 58 "StreetGraphModel" "stops" "I" ∈ wsX1_service := by decide +kernel
theorem mX1_service_55 : Cond.fieldLink RX1 55 "StreetGraphModel" "pieces" "I" ∈ wsX1_service := by decide +kernel
theorem mX1_service_33 : Cond.fieldLink RX1 33 "StreetGraphModel" "on" "[I" ∈ wsX1_service := by decide +kernel
theorem mX1_service_36 : Cond.fieldLink RX1 36 "StreetGraphModel" "side" "[I" ∈ wsX1_service := by decide +kernel
theorem mX1_service_26 : Cond.fieldLink RX1 26 "StreetGraphModel" "close" "[J" ∈ wsX1_service := by decide +kernel
abbrev rmX1_thrown : Room := { frames := 0, cells := 0, slots := 0, locals := 0 }
abbrev rmX1_in : Room := { frames := 0, cells := 0, slots := 0, locals := 0 }
abbrev rmX1_isPiece : Room := { frames := 0, cells := 0, slots := 0, locals := 0 }
abbrev rmX1_isStop : Room := { frames := 0, cells := 0, slots := 0, locals := 0 }
abbrev rmX1_seconds : Room := { frames := 0, cells := 0, slots := 0, locals := 0 }
abbrev rmX1_piece : Room := { frames := 1, cells := 0, slots := 0, locals := 25 }
abbrev rmX1_piece2 : Room := { frames := 1, cells := 0, slots := 0, locals := 21 }
abbrev rmX1_turn : Room := { frames := 1, cells := 0, slots := 0, locals := 21 }
abbrev rmX1_stop : Room := { frames := 1, cells := 0, slots := 0, locals := 25 }
abbrev rmX1_gate : Room := { frames := 1, cells := 0, slots := 0, locals := 21 }
abbrev rmX1_change : Room := { frames := 1, cells := 0, slots := 0, locals := 25 }
abbrev rmX1_leads : Room := { frames := 0, cells := 0, slots := 0, locals := 0 }
abbrev rmX1_entry : Room := { frames := 0, cells := 0, slots := 0, locals := 0 }
abbrev rmX1_crossing : Room := { frames := 0, cells := 0, slots := 0, locals := 0 }
abbrev rmX1_rest : Room := { frames := 1, cells := 0, slots := 0, locals := 27 }
abbrev rmX1_reach : Room := { frames := 2, cells := 0, slots := 0, locals := 50 }
abbrev rmX1_straight : Room := { frames := 1, cells := 0, slots := 0, locals := 27 }
abbrev rmX1_around : Room := { frames := 1, cells := 0, slots := 0, locals := 27 }
abbrev rmX1_before : Room := { frames := 1, cells := 0, slots := 0, locals := 25 }
abbrev rmX1_way : Room := { frames := 3, cells := 0, slots := 0, locals := 80 }
abbrev rmX1_step : Room := { frames := 0, cells := 0, slots := 0, locals := 0 }
abbrev rmX1_table : Room := { frames := 3, cells := 0, slots := 0, locals := 80 }
abbrev rmX1_service : Room := { frames := 1, cells := 0, slots := 0, locals := 22 }
