set_option maxHeartbeats 4000000 in
set_option maxRecDepth 100000 in
theorem kX1_thrown (l : Launch) (dC : Nat → ClassId) (dI : Nat → Nat → Nat) (cI cJ cZ : ClassId) (ad : Nat → Nat) (sz : Nat) (u : gS) (r9 : Int32) (h : fX1_thrown u = some r9) : Ki l yX1_thrown wsX1_thrown rmX1_thrown (dC, dI) vwCl (tyS cI cJ cZ) (wX1 cI cJ cZ ad) sz u [.ref (ad 0)] r9 u := by
  refine g_ofW (cc := cX1_thrown) (maxL := 1) (ret := (some .int)) (wf := (wX1 cI cJ cZ ad)) (u := u) (Qf := fun A => va_Qi (fun r1 u1 => r1 = r9 ∧ u1 = u) (gAt (dC, dI) vwCl (tyS cI cJ cZ) A (wX1 cI cJ cZ ad)) A) (by decide) rfl (Nat.le_of_ble_eq_true rfl) ?_
  intro p e s m below meth c A ls C0 hK hP hD hA hl
  have hS : va_S A s.heap s.heap [] := va_S.rf
  obtain ⟨hx, hb, hml, hown, hts, hr, hlocks⟩ := id C0
  have hl : lv_has ls 1 [(0, .ref ((ad 0)))] := hl
  unfold fX1_thrown at h
  refine lv_aload_n hx hb dX1_thrown_0 rfl (lv_at hl 0 rfl) ?_
  refine gfX1_thrown inX1_thrown mX1_thrown_51 hx hb hts hown hK hP dX1_thrown_1 ?_
  exact q_iret hx hb hr hlocks hK hP hD hS (Option.some.inj h) rfl dX1_thrown_4
set_option maxHeartbeats 4000000 in
set_option maxRecDepth 100000 in
theorem kX1_in (l : Launch) (dC : Nat → ClassId) (dI : Nat → Nat → Nat) (cI cJ cZ : ClassId) (ad : Nat → Nat) (sz : Nat) (u : gS) (x1 : Int64) (x2 : Int64) (x3 : Int64) (r9 : Int32) (h : fX1_in u x1 x2 x3 = some r9) : Ki l yX1_in wsX1_in rmX1_in (dC, dI) vwCl (tyS cI cJ cZ) (wX1 cI cJ cZ ad) sz u [.long x1, .long x2, .long x3] r9 u := by
  refine g_ofW (cc := cX1_in) (maxL := 6) (ret := (some .boolean)) (wf := (wX1 cI cJ cZ ad)) (u := u) (Qf := fun A => va_Qi (fun r1 u1 => r1 = r9 ∧ u1 = u) (gAt (dC, dI) vwCl (tyS cI cJ cZ) A (wX1 cI cJ cZ ad)) A) (by decide) rfl (Nat.le_of_ble_eq_true rfl) ?_
  intro p e s m below meth c A ls C0 hK hP hD hA hl
  have hS : va_S A s.heap s.heap [] := va_S.rf
  obtain ⟨hx, hb, hml, hown, hts, hr, hlocks⟩ := id C0
  have hl : lv_has ls 6 [(0, .long x1), (2, .long x2), (4, .long x3)] := hl
  unfold fX1_in at h
  refine lv_lload_n hx hb dX1_in_0 rfl (lv_at hl 0 rfl) ?_
  refine lv_lload_n hx hb dX1_in_1 rfl (lv_at hl 1 rfl) ?_
  refine q_lc_lt (tgt := 17) hx hb dX1_in_2 dX1_in_3 (by decide) (fun c1 => ?_) (fun c1 => ?_)
  · have h := q_t h c1
    refine lv_iconst (v := (0 : Int32)) hx hb dX1_in_17 (by decide) ?_
    exact q_zret hx hb hr hlocks hK hP hD hS rfl (Option.some.inj h) rfl dX1_in_18
  · have h := q_f h c1
    refine lv_lload_n hx hb dX1_in_6 rfl (lv_at hl 0 rfl) ?_
    refine lv_lload hx hb dX1_in_7 (lv_at hl 2 rfl) ?_
    refine q_lc_gt (tgt := 17) hx hb dX1_in_9 dX1_in_10 (by decide) (fun c2 => ?_) (fun c2 => ?_)
    · have h := q_t h c2
      refine lv_iconst (v := (0 : Int32)) hx hb dX1_in_17 (by decide) ?_
      exact q_zret hx hb hr hlocks hK hP hD hS rfl (Option.some.inj h) rfl dX1_in_18
    · have h := q_f h c2
      refine lv_iconst (v := (1 : Int32)) hx hb dX1_in_13 (by decide) ?_
      refine lv_goto (tgt := 18) hx hb dX1_in_14 (by decide) ?_
      exact q_zret hx hb hr hlocks hK hP hD hS rfl (Option.some.inj h) rfl dX1_in_18
set_option maxHeartbeats 4000000 in
set_option maxRecDepth 100000 in
theorem kX1_isPiece (l : Launch) (dC : Nat → ClassId) (dI : Nat → Nat → Nat) (cI cJ cZ : ClassId) (ad : Nat → Nat) (sz : Nat) (u : gS) (x1 : Int32) (r9 : Int32) (h : fX1_isPiece u x1 = some r9) : Ki l yX1_isPiece wsX1_isPiece rmX1_isPiece (dC, dI) vwCl (tyS cI cJ cZ) (wX1 cI cJ cZ ad) sz u [.ref (ad 0), .int x1] r9 u := by
  refine g_ofW (cc := cX1_isPiece) (maxL := 2) (ret := (some .boolean)) (wf := (wX1 cI cJ cZ ad)) (u := u) (Qf := fun A => va_Qi (fun r1 u1 => r1 = r9 ∧ u1 = u) (gAt (dC, dI) vwCl (tyS cI cJ cZ) A (wX1 cI cJ cZ ad)) A) (by decide) rfl (Nat.le_of_ble_eq_true rfl) ?_
  intro p e s m below meth c A ls C0 hK hP hD hA hl
  have hS : va_S A s.heap s.heap [] := va_S.rf
  obtain ⟨hx, hb, hml, hown, hts, hr, hlocks⟩ := id C0
  have hl : lv_has ls 2 [(0, .ref ((ad 0))), (1, .int x1)] := hl
  unfold fX1_isPiece at h
  refine lv_iload_n hx hb dX1_isPiece_0 rfl (lv_at hl 1 rfl) ?_
  refine lv_if_lt (tgt := 16) hx hb dX1_isPiece_1 (by decide) (fun c1 => ?_) (fun c1 => ?_)
  · have h := q_t h c1
    refine lv_iconst (v := (0 : Int32)) hx hb dX1_isPiece_16 (by decide) ?_
    exact q_zret hx hb hr hlocks hK hP hD hS rfl (Option.some.inj h) rfl dX1_isPiece_17
  · have h := q_f h c1
    refine lv_iload_n hx hb dX1_isPiece_4 rfl (lv_at hl 1 rfl) ?_
    refine lv_aload_n hx hb dX1_isPiece_5 rfl (lv_at hl 0 rfl) ?_
    refine gfX1_pieces inX1_isPiece mX1_isPiece_55 hx hb hts hown hK hP dX1_isPiece_6 ?_
    refine lv_icmp_ge (tgt := 16) hx hb dX1_isPiece_9 (by decide) (fun c2 => ?_) (fun c2 => ?_)
    · have h := q_t h c2
      refine lv_iconst (v := (0 : Int32)) hx hb dX1_isPiece_16 (by decide) ?_
      exact q_zret hx hb hr hlocks hK hP hD hS rfl (Option.some.inj h) rfl dX1_isPiece_17
    · have h := q_f h c2
      refine lv_iconst (v := (1 : Int32)) hx hb dX1_isPiece_12 (by decide) ?_
      refine lv_goto (tgt := 17) hx hb dX1_isPiece_13 (by decide) ?_
      exact q_zret hx hb hr hlocks hK hP hD hS rfl (Option.some.inj h) rfl dX1_isPiece_17
set_option maxHeartbeats 4000000 in
set_option maxRecDepth 100000 in
theorem kX1_isStop (l : Launch) (dC : Nat → ClassId) (dI : Nat → Nat → Nat) (cI cJ cZ : ClassId) (ad : Nat → Nat) (sz : Nat) (u : gS) (x1 : Int32) (r9 : Int32) (h : fX1_isStop u x1 = some r9) : Ki l yX1_isStop wsX1_isStop rmX1_isStop (dC, dI) vwCl (tyS cI cJ cZ) (wX1 cI cJ cZ ad) sz u [.ref (ad 0), .int x1] r9 u := by
  refine g_ofW (cc := cX1_isStop) (maxL := 2) (ret := (some .boolean)) (wf := (wX1 cI cJ cZ ad)) (u := u) (Qf := fun A => va_Qi (fun r1 u1 => r1 = r9 ∧ u1 = u) (gAt (dC, dI) vwCl (tyS cI cJ cZ) A (wX1 cI cJ cZ ad)) A) (by decide) rfl (Nat.le_of_ble_eq_true rfl) ?_
  intro p e s m below meth c A ls C0 hK hP hD hA hl
  have hS : va_S A s.heap s.heap [] := va_S.rf
  obtain ⟨hx, hb, hml, hown, hts, hr, hlocks⟩ := id C0
  have hl : lv_has ls 2 [(0, .ref ((ad 0))), (1, .int x1)] := hl
  unfold fX1_isStop at h
  refine lv_iload_n hx hb dX1_isStop_0 rfl (lv_at hl 1 rfl) ?_
  refine lv_if_lt (tgt := 16) hx hb dX1_isStop_1 (by decide) (fun c1 => ?_) (fun c1 => ?_)
  · have h := q_t h c1
    refine lv_iconst (v := (0 : Int32)) hx hb dX1_isStop_16 (by decide) ?_
    exact q_zret hx hb hr hlocks hK hP hD hS rfl (Option.some.inj h) rfl dX1_isStop_17
  · have h := q_f h c1
    refine lv_iload_n hx hb dX1_isStop_4 rfl (lv_at hl 1 rfl) ?_
    refine lv_aload_n hx hb dX1_isStop_5 rfl (lv_at hl 0 rfl) ?_
    refine gfX1_stops inX1_isStop mX1_isStop_58 hx hb hts hown hK hP dX1_isStop_6 ?_
    refine lv_icmp_ge (tgt := 16) hx hb dX1_isStop_9 (by decide) (fun c2 => ?_) (fun c2 => ?_)
    · have h := q_t h c2
      refine lv_iconst (v := (0 : Int32)) hx hb dX1_isStop_16 (by decide) ?_
      exact q_zret hx hb hr hlocks hK hP hD hS rfl (Option.some.inj h) rfl dX1_isStop_17
    · have h := q_f h c2
      refine lv_iconst (v := (1 : Int32)) hx hb dX1_isStop_12 (by decide) ?_
      refine lv_goto (tgt := 17) hx hb dX1_isStop_13 (by decide) ?_
      exact q_zret hx hb hr hlocks hK hP hD hS rfl (Option.some.inj h) rfl dX1_isStop_17
set_option maxHeartbeats 4000000 in
set_option maxRecDepth 100000 in
theorem kX1_seconds (l : Launch) (dC : Nat → ClassId) (dI : Nat → Nat → Nat) (cI cJ cZ : ClassId) (ad : Nat → Nat) (sz : Nat) (u : gS) (x1 : Int32) (x2 : Int64) (r9 : Int64) (h : fX1_seconds u x1 x2 = some r9) : Kl l yX1_seconds wsX1_seconds rmX1_seconds (dC, dI) vwCl (tyS cI cJ cZ) (wX1 cI cJ cZ ad) sz u [.ref (ad 0), .int x1, .long x2] r9 u := by
  refine g_ofW (cc := cX1_seconds) (maxL := 8) (ret := (some .long)) (wf := (wX1 cI cJ cZ ad)) (u := u) (Qf := fun A => va_Ql (fun r1 u1 => r1 = r9 ∧ u1 = u) (gAt (dC, dI) vwCl (tyS cI cJ cZ) A (wX1 cI cJ cZ ad)) A) (by decide) rfl (Nat.le_of_ble_eq_true rfl) ?_
  intro p e s m below meth c A ls C0 hK hP hD hA hl
  have hS : va_S A s.heap s.heap [] := va_S.rf
  obtain ⟨hx, hb, hml, hown, hts, hr, hlocks⟩ := id C0
  have hl : lv_has ls 8 [(0, .ref ((ad 0))), (1, .int x1), (2, .long x2)] := hl
  unfold fX1_seconds at h
  refine lv_ldc2 hx hb hown (hts _ mX1_seconds_61) dX1_seconds_0 ?_
  refine lv_lload_n hx hb dX1_seconds_3 rfl (lv_at hl 2 rfl) ?_
  refine lv_lmul hx hb dX1_seconds_4 ?_
  obtain ⟨v1, ev1, h⟩ := q_l h
  refine q_topl ev1 ?_
  refine lv_lstore (lv' := [(4, .long v1), (0, .ref ((ad 0))), (1, .int x1), (2, .long x2)]) hx hb dX1_seconds_5 hl (by decide) rfl (fun ls hl => ?_)
  refine lv_lload hx hb dX1_seconds_7 (lv_at hl 0 rfl) ?_
  refine lv_aload_n hx hb dX1_seconds_9 rfl (lv_at hl 1 rfl) ?_
  refine gfX1_speed inX1_seconds mX1_seconds_20 hx hb hts hown hK hP dX1_seconds_10 ?_
  refine lv_iload_n hx hb dX1_seconds_13 rfl (lv_at hl 2 rfl) ?_
  obtain ⟨hin, h⟩ := q_g h
  refine ldX1_speed hx hb hK hP hin dX1_seconds_14 ?_
  obtain ⟨hne, h⟩ := q_g h
  refine lv_ldiv hx hb dX1_seconds_15 hne ?_
  obtain ⟨v2, ev2, h⟩ := q_l h
  refine q_topl ev2 ?_
  refine lv_lstore (lv' := [(6, .long v2), (4, .long v1), (0, .ref ((ad 0))), (1, .int x1), (2, .long x2)]) hx hb dX1_seconds_16 hl (by decide) rfl (fun ls hl => ?_)
  refine lv_lload hx hb dX1_seconds_18 (lv_at hl 0 rfl) ?_
  refine lv_aload_n hx hb dX1_seconds_20 rfl (lv_at hl 2 rfl) ?_
  refine gfX1_speed inX1_seconds mX1_seconds_20 hx hb hts hown hK hP dX1_seconds_21 ?_
  refine lv_iload_n hx hb dX1_seconds_24 rfl (lv_at hl 3 rfl) ?_
  obtain ⟨hin, h⟩ := q_g h
  refine ldX1_speed hx hb hK hP hin dX1_seconds_25 ?_
  refine lv_lmul hx hb dX1_seconds_26 ?_
  refine lv_lload hx hb dX1_seconds_27 (lv_at hl 1 rfl) ?_
  refine q_lc_ge (tgt := 40) hx hb dX1_seconds_29 dX1_seconds_30 (by decide) (fun c3 => ?_) (fun c3 => ?_)
  · have h := q_t h c3
    refine lv_lload hx hb dX1_seconds_40 (lv_at hl 0 rfl) ?_
    exact q_lret hx hb hr hlocks hK hP hD hS (Option.some.inj h) rfl dX1_seconds_42
  · have h := q_f h c3
    refine lv_lload hx hb dX1_seconds_33 (lv_at hl 0 rfl) ?_
    refine lv_lconst (v := (1 : Int64)) hx hb dX1_seconds_35 (by decide) ?_
    refine lv_ladd hx hb dX1_seconds_36 ?_
    refine lv_goto (tgt := 42) hx hb dX1_seconds_37 (by decide) ?_
    exact q_lret hx hb hr hlocks hK hP hD hS (Option.some.inj h) rfl dX1_seconds_42
set_option maxHeartbeats 4000000 in
set_option maxRecDepth 100000 in
theorem kX1_piece (l : Launch) (dC : Nat → ClassId) (dI : Nat → Nat → Nat) (cI cJ cZ : ClassId) (ad : Nat → Nat) (sz : Nat) (u : gS) (x1 : Int32) (x2 : Int32) (x3 : Int64) (x4 : Int64) (r9 : Int32) (u9 : gS) (h : fX1_piece u x1 x2 x3 x4 = some (r9, u9)) : Ki l yX1_piece wsX1_piece rmX1_piece (dC, dI) vwCl (tyS cI cJ cZ) (wX1 cI cJ cZ ad) sz u [.ref (ad 0), .int x1, .int x2, .long x3, .long x4] r9 u9 := by
  refine g_ofW (cc := cX1_piece) (maxL := 7) (ret := (some .int)) (wf := (wX1 cI cJ cZ ad)) (u := u) (Qf := fun A => va_Qi (fun r1 u1 => r1 = r9 ∧ u1 = u9) (gAt (dC, dI) vwCl (tyS cI cJ cZ) A (wX1 cI cJ cZ ad)) A) (by decide) rfl (Nat.le_of_ble_eq_true rfl) ?_
  intro p e s m below meth c A ls C0 hK hP hD hA hl
  have hS : va_S A s.heap s.heap [] := va_S.rf
  obtain ⟨hx, hb, hml, hown, hts, hr, hlocks⟩ := id C0
  have hl : lv_has ls 7 [(0, .ref ((ad 0))), (1, .int x1), (2, .int x2), (3, .long x3), (5, .long x4)] := hl
  unfold fX1_piece at h
  refine lv_aload_n hx hb dX1_piece_0 rfl (lv_at hl 0 rfl) ?_
  refine lv_iconst (v := (0 : Int32)) hx hb dX1_piece_1 (by decide) ?_
  obtain ⟨u1, eu1, h⟩ := q_l h
  refine pfX1_thrown inX1_piece mX1_piece_51 hx hb hts hown hK hP hD hS eu1 dX1_piece_2 (fun H locs hP hD hS => ?_)
  refine lv_iload_n hx hb dX1_piece_5 rfl (lv_at hl 1 rfl) ?_
  refine lv_i2l (v := x1.toInt64) hx hb dX1_piece_6 rfl ?_
  refine lv_lconst (v := (0 : Int64)) hx hb dX1_piece_7 (by decide) ?_
  refine lv_ldc2 hx hb hown (hts _ mX1_piece_63) dX1_piece_8 ?_
  obtain ⟨r2, g4, h⟩ := q_s h
  refine q_Si (rest := []) (As := [.long x1.toInt64, .long (0 : Int64), .long (59 : Int64)]) ⟨hx, hb, hml, hown, hts⟩ (kX1_in l dC dI cI cJ cZ ad _ u1 x1.toInt64 (0 : Int64) (59 : Int64) r2 g4) (va_cwS 3 hts gX1_piece_X1_in rfl rfl rfl hdX1_in ⟨Nat.le_of_ble_eq_true rfl, Nat.le_of_ble_eq_true rfl⟩) hK hP hD hS hA rfl hl.1 (Nat.le_of_ble_eq_true rfl) rfl dX1_piece_11 ⟨Nat.zero_le _, Nat.zero_le _⟩ (fun H locs hP hD hS => ?_)
  refine lv_if_eq (tgt := 29) hx hb dX1_piece_14 (by decide) (fun c5 => ?_) (fun c5 => ?_)
  · have h := q_t h c5
    refine lv_bipush (v := (-11 : Int32)) hx hb dX1_piece_29 (by decide) ?_
    exact q_iret hx hb hr hlocks hK hP hD hS (q_p h).1 (q_p h).2 dX1_piece_31
  · have h := q_f h c5
    refine lv_iload_n hx hb dX1_piece_17 rfl (lv_at hl 2 rfl) ?_
    refine lv_i2l (v := x2.toInt64) hx hb dX1_piece_18 rfl ?_
    refine lv_lconst (v := (0 : Int64)) hx hb dX1_piece_19 (by decide) ?_
    refine lv_ldc2 hx hb hown (hts _ mX1_piece_63) dX1_piece_20 ?_
    obtain ⟨r6, g8, h⟩ := q_s h
    refine q_Si (rest := []) (As := [.long x2.toInt64, .long (0 : Int64), .long (59 : Int64)]) ⟨hx, hb, hml, hown, hts⟩ (kX1_in l dC dI cI cJ cZ ad _ u1 x2.toInt64 (0 : Int64) (59 : Int64) r6 g8) (va_cwS 3 hts gX1_piece_X1_in rfl rfl rfl hdX1_in ⟨Nat.le_of_ble_eq_true rfl, Nat.le_of_ble_eq_true rfl⟩) hK hP hD hS hA rfl hl.1 (Nat.le_of_ble_eq_true rfl) rfl dX1_piece_23 ⟨Nat.zero_le _, Nat.zero_le _⟩ (fun H locs hP hD hS => ?_)
    refine lv_if_ne (tgt := 32) hx hb dX1_piece_26 (by decide) (fun c9 => ?_) (fun c9 => ?_)
    · have h := q_f h c9
      refine lv_lload_n hx hb dX1_piece_32 rfl (lv_at hl 3 rfl) ?_
      refine lv_lconst (v := (1 : Int64)) hx hb dX1_piece_33 (by decide) ?_
      refine lv_ldc2 hx hb hown (hts _ mX1_piece_69) dX1_piece_34 ?_
      obtain ⟨r10, g12, h⟩ := q_s h
      refine q_Si (rest := []) (As := [.long x3, .long (1 : Int64), .long (10000 : Int64)]) ⟨hx, hb, hml, hown, hts⟩ (kX1_in l dC dI cI cJ cZ ad _ u1 x3 (1 : Int64) (10000 : Int64) r10 g12) (va_cwS 3 hts gX1_piece_X1_in rfl rfl rfl hdX1_in ⟨Nat.le_of_ble_eq_true rfl, Nat.le_of_ble_eq_true rfl⟩) hK hP hD hS hA rfl hl.1 (Nat.le_of_ble_eq_true rfl) rfl dX1_piece_37 ⟨Nat.zero_le _, Nat.zero_le _⟩ (fun H locs hP hD hS => ?_)
      refine lv_if_eq (tgt := 55) hx hb dX1_piece_40 (by decide) (fun c13 => ?_) (fun c13 => ?_)
      · have h := q_t h c13
        refine lv_bipush (v := (-12 : Int32)) hx hb dX1_piece_55 (by decide) ?_
        exact q_iret hx hb hr hlocks hK hP hD hS (q_p h).1 (q_p h).2 dX1_piece_57
      · have h := q_f h c13
        refine lv_lload hx hb dX1_piece_43 (lv_at hl 4 rfl) ?_
        refine lv_lconst (v := (0 : Int64)) hx hb dX1_piece_45 (by decide) ?_
        refine lv_ldc2 hx hb hown (hts _ mX1_piece_71) dX1_piece_46 ?_
        obtain ⟨r14, g16, h⟩ := q_s h
        refine q_Si (rest := []) (As := [.long x4, .long (0 : Int64), .long (1000 : Int64)]) ⟨hx, hb, hml, hown, hts⟩ (kX1_in l dC dI cI cJ cZ ad _ u1 x4 (0 : Int64) (1000 : Int64) r14 g16) (va_cwS 3 hts gX1_piece_X1_in rfl rfl rfl hdX1_in ⟨Nat.le_of_ble_eq_true rfl, Nat.le_of_ble_eq_true rfl⟩) hK hP hD hS hA rfl hl.1 (Nat.le_of_ble_eq_true rfl) rfl dX1_piece_49 ⟨Nat.zero_le _, Nat.zero_le _⟩ (fun H locs hP hD hS => ?_)
        refine lv_if_ne (tgt := 58) hx hb dX1_piece_52 (by decide) (fun c17 => ?_) (fun c17 => ?_)
        · have h := q_f h c17
          refine lv_aload_n hx hb dX1_piece_58 rfl (lv_at hl 0 rfl) ?_
          refine gfX1_pieces inX1_piece mX1_piece_55 hx hb hts hown hK hP dX1_piece_59 ?_
          refine lv_bipush (v := (120 : Int32)) hx hb dX1_piece_62 (by decide) ?_
          refine lv_icmp_ne (tgt := 70) hx hb dX1_piece_64 (by decide) (fun c18 => ?_) (fun c18 => ?_)
          · have h := q_f h c18
            refine lv_aload_n hx hb dX1_piece_70 rfl (lv_at hl 0 rfl) ?_
            refine lv_lload hx hb dX1_piece_71 (lv_at hl 4 rfl) ?_
            refine lv_lconst (v := (0 : Int64)) hx hb dX1_piece_73 (by decide) ?_
            refine q_lc_ne (tgt := 82) hx hb dX1_piece_74 dX1_piece_75 (by decide) (fun c19 => ?_) (fun c19 => ?_)
            · have h := q_f h c19
              refine lv_iconst (v := (0 : Int32)) hx hb dX1_piece_82 (by decide) ?_
              obtain ⟨u20, eu20, h⟩ := q_l h
              refine pfX1_thrown inX1_piece mX1_piece_51 hx hb hts hown hK hP hD hS eu20 dX1_piece_83 (fun H locs hP hD hS => ?_)
              refine lv_aload_n hx hb dX1_piece_86 rfl (lv_at hl 0 rfl) ?_
              refine gfX1_thrown inX1_piece mX1_piece_51 hx hb hts hown hK hP dX1_piece_87 ?_
              refine lv_if_le (tgt := 95) hx hb dX1_piece_90 (by decide) (fun c21 => ?_) (fun c21 => ?_)
              · have h := q_t h c21
                refine lv_aload_n hx hb dX1_piece_95 rfl (lv_at hl 0 rfl) ?_
                refine gfX1_begins inX1_piece mX1_piece_7 hx hb hts hown hK hP dX1_piece_96 ?_
                refine lv_aload_n hx hb dX1_piece_99 rfl (lv_at hl 0 rfl) ?_
                refine gfX1_pieces inX1_piece mX1_piece_55 hx hb hts hown hK hP dX1_piece_100 ?_
                refine lv_iload_n hx hb dX1_piece_103 rfl (lv_at hl 1 rfl) ?_
                obtain ⟨hin, h⟩ := q_g h
                obtain ⟨u22, eu22, h⟩ := q_l h
                refine stX1_begins hx hb hK hP hD hS hin eu22 dX1_piece_104 (fun H locs hP hD hS => ?_)
                refine lv_aload_n hx hb dX1_piece_105 rfl (lv_at hl 0 rfl) ?_
                refine gfX1_ends inX1_piece mX1_piece_13 hx hb hts hown hK hP dX1_piece_106 ?_
                refine lv_aload_n hx hb dX1_piece_109 rfl (lv_at hl 0 rfl) ?_
                refine gfX1_pieces inX1_piece mX1_piece_55 hx hb hts hown hK hP dX1_piece_110 ?_
                refine lv_iload_n hx hb dX1_piece_113 rfl (lv_at hl 2 rfl) ?_
                obtain ⟨hin, h⟩ := q_g h
                obtain ⟨u23, eu23, h⟩ := q_l h
                refine stX1_ends hx hb hK hP hD hS hin eu23 dX1_piece_114 (fun H locs hP hD hS => ?_)
                refine lv_aload_n hx hb dX1_piece_115 rfl (lv_at hl 0 rfl) ?_
                refine gfX1_length inX1_piece mX1_piece_16 hx hb hts hown hK hP dX1_piece_116 ?_
                refine lv_aload_n hx hb dX1_piece_119 rfl (lv_at hl 0 rfl) ?_
                refine gfX1_pieces inX1_piece mX1_piece_55 hx hb hts hown hK hP dX1_piece_120 ?_
                refine lv_lload_n hx hb dX1_piece_123 rfl (lv_at hl 3 rfl) ?_
                obtain ⟨hin, h⟩ := q_g h
                obtain ⟨u24, eu24, h⟩ := q_l h
                refine stX1_length hx hb hK hP hD hS hin eu24 dX1_piece_124 (fun H locs hP hD hS => ?_)
                refine lv_aload_n hx hb dX1_piece_125 rfl (lv_at hl 0 rfl) ?_
                refine gfX1_speed inX1_piece mX1_piece_20 hx hb hts hown hK hP dX1_piece_126 ?_
                refine lv_aload_n hx hb dX1_piece_129 rfl (lv_at hl 0 rfl) ?_
                refine gfX1_pieces inX1_piece mX1_piece_55 hx hb hts hown hK hP dX1_piece_130 ?_
                refine lv_lload hx hb dX1_piece_133 (lv_at hl 4 rfl) ?_
                obtain ⟨hin, h⟩ := q_g h
                obtain ⟨u25, eu25, h⟩ := q_l h
                refine stX1_speed hx hb hK hP hD hS hin eu25 dX1_piece_135 (fun H locs hP hD hS => ?_)
                refine lv_aload_n hx hb dX1_piece_136 rfl (lv_at hl 0 rfl) ?_
                refine lv_dup hx hb dX1_piece_137 rfl ?_
                refine gfX1_pieces inX1_piece mX1_piece_55 hx hb hts hown hK hP dX1_piece_138 ?_
                refine lv_iconst (v := (1 : Int32)) hx hb dX1_piece_141 (by decide) ?_
                refine lv_iadd hx hb dX1_piece_142 ?_
                obtain ⟨u26, eu26, h⟩ := q_l h
                refine pfX1_pieces inX1_piece mX1_piece_55 hx hb hts hown hK hP hD hS eu26 dX1_piece_143 (fun H locs hP hD hS => ?_)
                refine lv_aload_n hx hb dX1_piece_146 rfl (lv_at hl 0 rfl) ?_
                refine gfX1_pieces inX1_piece mX1_piece_55 hx hb hts hown hK hP dX1_piece_147 ?_
                refine lv_iconst (v := (1 : Int32)) hx hb dX1_piece_150 (by decide) ?_
                refine lv_isub hx hb dX1_piece_151 ?_
                exact q_iret hx hb hr hlocks hK hP hD hS (q_p h).1 (q_p h).2 dX1_piece_152
              · have h := q_f h c21
                refine lv_iconst (v := (0 : Int32)) hx hb dX1_piece_93 (by decide) ?_
                exact q_iret hx hb hr hlocks hK hP hD hS (q_p h).1 (q_p h).2 dX1_piece_94
            · have h := q_t h c19
              refine lv_iconst (v := (1 : Int32)) hx hb dX1_piece_78 (by decide) ?_
              refine lv_goto (tgt := 83) hx hb dX1_piece_79 (by decide) ?_
              obtain ⟨u27, eu27, h⟩ := q_l h
              refine pfX1_thrown inX1_piece mX1_piece_51 hx hb hts hown hK hP hD hS eu27 dX1_piece_83 (fun H locs hP hD hS => ?_)
              refine lv_aload_n hx hb dX1_piece_86 rfl (lv_at hl 0 rfl) ?_
              refine gfX1_thrown inX1_piece mX1_piece_51 hx hb hts hown hK hP dX1_piece_87 ?_
              refine lv_if_le (tgt := 95) hx hb dX1_piece_90 (by decide) (fun c28 => ?_) (fun c28 => ?_)
              · have h := q_t h c28
                refine lv_aload_n hx hb dX1_piece_95 rfl (lv_at hl 0 rfl) ?_
                refine gfX1_begins inX1_piece mX1_piece_7 hx hb hts hown hK hP dX1_piece_96 ?_
                refine lv_aload_n hx hb dX1_piece_99 rfl (lv_at hl 0 rfl) ?_
                refine gfX1_pieces inX1_piece mX1_piece_55 hx hb hts hown hK hP dX1_piece_100 ?_
                refine lv_iload_n hx hb dX1_piece_103 rfl (lv_at hl 1 rfl) ?_
                obtain ⟨hin, h⟩ := q_g h
                obtain ⟨u29, eu29, h⟩ := q_l h
                refine stX1_begins hx hb hK hP hD hS hin eu29 dX1_piece_104 (fun H locs hP hD hS => ?_)
                refine lv_aload_n hx hb dX1_piece_105 rfl (lv_at hl 0 rfl) ?_
                refine gfX1_ends inX1_piece mX1_piece_13 hx hb hts hown hK hP dX1_piece_106 ?_
                refine lv_aload_n hx hb dX1_piece_109 rfl (lv_at hl 0 rfl) ?_
                refine gfX1_pieces inX1_piece mX1_piece_55 hx hb hts hown hK hP dX1_piece_110 ?_
                refine lv_iload_n hx hb dX1_piece_113 rfl (lv_at hl 2 rfl) ?_
                obtain ⟨hin, h⟩ := q_g h
                obtain ⟨u30, eu30, h⟩ := q_l h
                refine stX1_ends hx hb hK hP hD hS hin eu30 dX1_piece_114 (fun H locs hP hD hS => ?_)
                refine lv_aload_n hx hb dX1_piece_115 rfl (lv_at hl 0 rfl) ?_
                refine gfX1_length inX1_piece mX1_piece_16 hx hb hts hown hK hP dX1_piece_116 ?_
                refine lv_aload_n hx hb dX1_piece_119 rfl (lv_at hl 0 rfl) ?_
                refine gfX1_pieces inX1_piece mX1_piece_55 hx hb hts hown hK hP dX1_piece_120 ?_
                refine lv_lload_n hx hb dX1_piece_123 rfl (lv_at hl 3 rfl) ?_
                obtain ⟨hin, h⟩ := q_g h
                obtain ⟨u31, eu31, h⟩ := q_l h
                refine stX1_length hx hb hK hP hD hS hin eu31 dX1_piece_124 (fun H locs hP hD hS => ?_)
                refine lv_aload_n hx hb dX1_piece_125 rfl (lv_at hl 0 rfl) ?_
                refine gfX1_speed inX1_piece mX1_piece_20 hx hb hts hown hK hP dX1_piece_126 ?_
                refine lv_aload_n hx hb dX1_piece_129 rfl (lv_at hl 0 rfl) ?_
                refine gfX1_pieces inX1_piece mX1_piece_55 hx hb hts hown hK hP dX1_piece_130 ?_
                refine lv_lload hx hb dX1_piece_133 (lv_at hl 4 rfl) ?_
                obtain ⟨hin, h⟩ := q_g h
                obtain ⟨u32, eu32, h⟩ := q_l h
                refine stX1_speed hx hb hK hP hD hS hin eu32 dX1_piece_135 (fun H locs hP hD hS => ?_)
                refine lv_aload_n hx hb dX1_piece_136 rfl (lv_at hl 0 rfl) ?_
                refine lv_dup hx hb dX1_piece_137 rfl ?_
                refine gfX1_pieces inX1_piece mX1_piece_55 hx hb hts hown hK hP dX1_piece_138 ?_
                refine lv_iconst (v := (1 : Int32)) hx hb dX1_piece_141 (by decide) ?_
                refine lv_iadd hx hb dX1_piece_142 ?_
                obtain ⟨u33, eu33, h⟩ := q_l h
                refine pfX1_pieces inX1_piece mX1_piece_55 hx hb hts hown hK hP hD hS eu33 dX1_piece_143 (fun H locs hP hD hS => ?_)
                refine lv_aload_n hx hb dX1_piece_146 rfl (lv_at hl 0 rfl) ?_
                refine gfX1_pieces inX1_piece mX1_piece_55 hx hb hts hown hK hP dX1_piece_147 ?_
                refine lv_iconst (v := (1 : Int32)) hx hb dX1_piece_150 (by decide) ?_
                refine lv_isub hx hb dX1_piece_151 ?_
                exact q_iret hx hb hr hlocks hK hP hD hS (q_p h).1 (q_p h).2 dX1_piece_152
              · have h := q_f h c28
                refine lv_iconst (v := (0 : Int32)) hx hb dX1_piece_93 (by decide) ?_
                exact q_iret hx hb hr hlocks hK hP hD hS (q_p h).1 (q_p h).2 dX1_piece_94
          · have h := q_t h c18
            refine lv_bipush (v := (-14 : Int32)) hx hb dX1_piece_67 (by decide) ?_
            exact q_iret hx hb hr hlocks hK hP hD hS (q_p h).1 (q_p h).2 dX1_piece_69
        · have h := q_t h c17
          refine lv_bipush (v := (-12 : Int32)) hx hb dX1_piece_55 (by decide) ?_
          exact q_iret hx hb hr hlocks hK hP hD hS (q_p h).1 (q_p h).2 dX1_piece_57
    · have h := q_t h c9
      refine lv_bipush (v := (-11 : Int32)) hx hb dX1_piece_29 (by decide) ?_
      exact q_iret hx hb hr hlocks hK hP hD hS (q_p h).1 (q_p h).2 dX1_piece_31
set_option maxHeartbeats 4000000 in
set_option maxRecDepth 100000 in
theorem kX1_piece2 (l : Launch) (dC : Nat → ClassId) (dI : Nat → Nat → Nat) (cI cJ cZ : ClassId) (ad : Nat → Nat) (sz : Nat) (u : gS) (x1 : Int32) (r9 : Int32) (u9 : gS) (h : fX1_piece2 u x1 = some (r9, u9)) : Ki l yX1_piece2 wsX1_piece2 rmX1_piece2 (dC, dI) vwCl (tyS cI cJ cZ) (wX1 cI cJ cZ ad) sz u [.ref (ad 0), .int x1] r9 u9 := by
  refine g_ofW (cc := cX1_piece2) (maxL := 2) (ret := (some .int)) (wf := (wX1 cI cJ cZ ad)) (u := u) (Qf := fun A => va_Qi (fun r1 u1 => r1 = r9 ∧ u1 = u9) (gAt (dC, dI) vwCl (tyS cI cJ cZ) A (wX1 cI cJ cZ ad)) A) (by decide) rfl (Nat.le_of_ble_eq_true rfl) ?_
  intro p e s m below meth c A ls C0 hK hP hD hA hl
  have hS : va_S A s.heap s.heap [] := va_S.rf
  obtain ⟨hx, hb, hml, hown, hts, hr, hlocks⟩ := id C0
  have hl : lv_has ls 2 [(0, .ref ((ad 0))), (1, .int x1)] := hl
  unfold fX1_piece2 at h
  refine lv_aload_n hx hb dX1_piece2_0 rfl (lv_at hl 0 rfl) ?_
  refine lv_aload_n hx hb dX1_piece2_1 rfl (lv_at hl 0 rfl) ?_
  refine lv_iload_n hx hb dX1_piece2_2 rfl (lv_at hl 1 rfl) ?_
  obtain ⟨r1, g3, h⟩ := q_s h
  refine q_Vi (rest := [.ref (ad 0)]) (As := [.int x1]) ⟨hx, hb, hml, hown, hts⟩ (kX1_isPiece l dC dI cI cJ cZ ad _ u x1 r1 g3) (cwV 1 hts gX1_piece2_X1_isPiece rfl rfl rfl hdX1_isPiece ⟨Nat.le_of_ble_eq_true rfl, Nat.le_of_ble_eq_true rfl⟩) (rvX1 hK hP) hK hP hD hS hA rfl hl.1 (Nat.le_of_ble_eq_true rfl) rfl dX1_piece2_3 ⟨Nat.zero_le _, Nat.zero_le _⟩ (fun H locs hP hD hS => ?_)
  refine lv_if_eq (tgt := 13) hx hb dX1_piece2_6 (by decide) (fun c4 => ?_) (fun c4 => ?_)
  · have h := q_t h c4
    refine lv_iconst (v := (1 : Int32)) hx hb dX1_piece2_13 (by decide) ?_
    obtain ⟨u5, eu5, h⟩ := q_l h
    refine pfX1_thrown inX1_piece2 mX1_piece2_51 hx hb hts hown hK hP hD hS eu5 dX1_piece2_14 (fun H locs hP hD hS => ?_)
    refine lv_aload_n hx hb dX1_piece2_17 rfl (lv_at hl 0 rfl) ?_
    refine gfX1_thrown inX1_piece2 mX1_piece2_51 hx hb hts hown hK hP dX1_piece2_18 ?_
    refine lv_if_le (tgt := 28) hx hb dX1_piece2_21 (by decide) (fun c6 => ?_) (fun c6 => ?_)
    · have h := q_t h c6
      refine lv_bipush (v := (60 : Int32)) hx hb dX1_piece2_28 (by decide) ?_
      refine lv_aload_n hx hb dX1_piece2_30 rfl (lv_at hl 0 rfl) ?_
      refine gfX1_begins inX1_piece2 mX1_piece2_7 hx hb hts hown hK hP dX1_piece2_31 ?_
      refine lv_iload_n hx hb dX1_piece2_34 rfl (lv_at hl 1 rfl) ?_
      obtain ⟨hin, h⟩ := q_g h
      refine ldX1_begins hx hb hK hP hin dX1_piece2_35 ?_
      refine lv_imul hx hb dX1_piece2_36 ?_
      refine lv_aload_n hx hb dX1_piece2_37 rfl (lv_at hl 0 rfl) ?_
      refine gfX1_ends inX1_piece2 mX1_piece2_13 hx hb hts hown hK hP dX1_piece2_38 ?_
      refine lv_iload_n hx hb dX1_piece2_41 rfl (lv_at hl 1 rfl) ?_
      obtain ⟨hin, h⟩ := q_g h
      refine ldX1_ends hx hb hK hP hin dX1_piece2_42 ?_
      refine lv_iadd hx hb dX1_piece2_43 ?_
      exact q_iret hx hb hr hlocks hK hP hD hS (q_p h).1 (q_p h).2 dX1_piece2_44
    · have h := q_f h c6
      refine lv_iconst (v := (0 : Int32)) hx hb dX1_piece2_24 (by decide) ?_
      refine lv_goto (tgt := 44) hx hb dX1_piece2_25 (by decide) ?_
      exact q_iret hx hb hr hlocks hK hP hD hS (q_p h).1 (q_p h).2 dX1_piece2_44
  · have h := q_f h c4
    refine lv_iconst (v := (0 : Int32)) hx hb dX1_piece2_9 (by decide) ?_
    refine lv_goto (tgt := 14) hx hb dX1_piece2_10 (by decide) ?_
    obtain ⟨u7, eu7, h⟩ := q_l h
    refine pfX1_thrown inX1_piece2 mX1_piece2_51 hx hb hts hown hK hP hD hS eu7 dX1_piece2_14 (fun H locs hP hD hS => ?_)
    refine lv_aload_n hx hb dX1_piece2_17 rfl (lv_at hl 0 rfl) ?_
    refine gfX1_thrown inX1_piece2 mX1_piece2_51 hx hb hts hown hK hP dX1_piece2_18 ?_
    refine lv_if_le (tgt := 28) hx hb dX1_piece2_21 (by decide) (fun c8 => ?_) (fun c8 => ?_)
    · have h := q_t h c8
      refine lv_bipush (v := (60 : Int32)) hx hb dX1_piece2_28 (by decide) ?_
      refine lv_aload_n hx hb dX1_piece2_30 rfl (lv_at hl 0 rfl) ?_
      refine gfX1_begins inX1_piece2 mX1_piece2_7 hx hb hts hown hK hP dX1_piece2_31 ?_
      refine lv_iload_n hx hb dX1_piece2_34 rfl (lv_at hl 1 rfl) ?_
      obtain ⟨hin, h⟩ := q_g h
      refine ldX1_begins hx hb hK hP hin dX1_piece2_35 ?_
      refine lv_imul hx hb dX1_piece2_36 ?_
      refine lv_aload_n hx hb dX1_piece2_37 rfl (lv_at hl 0 rfl) ?_
      refine gfX1_ends inX1_piece2 mX1_piece2_13 hx hb hts hown hK hP dX1_piece2_38 ?_
      refine lv_iload_n hx hb dX1_piece2_41 rfl (lv_at hl 1 rfl) ?_
      obtain ⟨hin, h⟩ := q_g h
      refine ldX1_ends hx hb hK hP hin dX1_piece2_42 ?_
      refine lv_iadd hx hb dX1_piece2_43 ?_
      exact q_iret hx hb hr hlocks hK hP hD hS (q_p h).1 (q_p h).2 dX1_piece2_44
    · have h := q_f h c8
      refine lv_iconst (v := (0 : Int32)) hx hb dX1_piece2_24 (by decide) ?_
      refine lv_goto (tgt := 44) hx hb dX1_piece2_25 (by decide) ?_
      exact q_iret hx hb hr hlocks hK hP hD hS (q_p h).1 (q_p h).2 dX1_piece2_44
set_option maxHeartbeats 4000000 in
set_option maxRecDepth 100000 in
theorem kX1_turn_L60 {l : Launch} {dC : Nat → ClassId} {dI : Nat → Nat → Nat} {cI cJ cZ : ClassId} {ad : Nat → Nat} {p : Program} {e : Env} {s : State} {m : MethodId} {below : List Frame} {meth : Method} {c : Code} {A : Nat → Prop} {args : Array Value} {r9 : Int32} {u9 : gS} (C0 : gCtx p s m meth c args cX1_turn 6 (some .int) wsX1_turn yX1_turn.cls) (hK : va_K (dC, dI) vwCl (tyS cI cJ cZ) s) (hA : ∀ q, s.heap.size ≤ q → A q) :
    ∀ (n : Nat) (u : gS) (y4 : Int32) (y5 : Int32) (H : Heap) (locs : List Loc) (ls : Array Slot), fX1_turn_L60 n u y4 y5 = some (r9, u9) → va_P (dC, dI) vwCl ((wX1 cI cJ cZ ad) u) H → va_D A ((wX1 cI cJ cZ ad) u) → va_S A s.heap H locs → lv_has ls 6 [(0, .ref ((ad 0))), (4, .int y4), (5, .int y5)] → W p l e rmX1_turn s m args below meth c H locs 0 0 (MQ below (va_Qi (fun r1 u1 => r1 = r9 ∧ u1 = u9) (gAt (dC, dI) vwCl (tyS cI cJ cZ) A (wX1 cI cJ cZ ad)) A) args s 0 0 A) (F0 m 60 ls []) := by
  obtain ⟨hx, hb, hml, hown, hts, hr, hlocks⟩ := id C0
  intro n
  induction n with
  | zero =>
    intro u y4 y5 H locs ls h
    cases h
  | succ n ih60 =>
    intro u y4 y5 H locs ls h hP hD hS hl
    have h : fX1_turn_L60_b (fX1_turn_L60 n) u y4 y5 = some (r9, u9) := h
    unfold fX1_turn_L60_b at h
    refine lv_iload hx hb dX1_turn_60 (lv_at hl 2 rfl) ?_
    refine lv_sipush (v := (14400 : Int32)) hx hb dX1_turn_62 (by decide) ?_
    refine lv_icmp_ge (tgt := 95) hx hb dX1_turn_65 (by decide) (fun c12 => ?_) (fun c12 => ?_)
    · have h := q_t h c12
      refine lv_iload hx hb dX1_turn_95 (lv_at hl 1 rfl) ?_
      exact q_iret hx hb hr hlocks hK hP hD hS (q_p h).1 (q_p h).2 dX1_turn_97
    · have h := q_f h c12
      refine lv_aload_n hx hb dX1_turn_68 rfl (lv_at hl 0 rfl) ?_
      refine gfX1_barred inX1_turn mX1_turn_29 hx hb hts hown hK hP dX1_turn_69 ?_
      refine lv_iload hx hb dX1_turn_72 (lv_at hl 2 rfl) ?_
      obtain ⟨hin, h⟩ := q_g h
      refine ldX1_barred hx hb hK hP hin dX1_turn_74 ?_
      refine lv_if_eq (tgt := 85) hx hb dX1_turn_75 (by decide) (fun c13 => ?_) (fun c13 => ?_)
      · have h := q_t h c13
        refine lv_iload hx hb dX1_turn_85 (lv_at hl 1 rfl) ?_
        refine lv_istore (lv' := [(4, .int y4), (0, .ref ((ad 0))), (5, .int y5)]) hx hb dX1_turn_87 hl (by decide) rfl (fun ls hl => ?_)
        obtain ⟨v14, ev14, h⟩ := q_l h
        refine lv_iinc (v := v14) (lv' := [(5, .int v14), (4, .int y4), (0, .ref ((ad 0)))]) hx hb dX1_turn_89 hl (k := 2) rfl (by rw [ev14]; rfl) (by decide) rfl (fun ls hl => ?_)
        refine lv_goto (tgt := 60) hx hb dX1_turn_92 (by decide) ?_
        exact ih60 u y4 v14 _ _ _ h hP hD hS (lv_sub hl [2, 1, 0] rfl)
      · have h := q_f h c13
        refine lv_iload hx hb dX1_turn_78 (lv_at hl 1 rfl) ?_
        refine lv_iconst (v := (1 : Int32)) hx hb dX1_turn_80 (by decide) ?_
        refine lv_iadd hx hb dX1_turn_81 ?_
        refine lv_goto (tgt := 87) hx hb dX1_turn_82 (by decide) ?_
        obtain ⟨v15, ev15, h⟩ := q_l h
        refine q_topi ev15 ?_
        refine lv_istore (lv' := [(4, .int v15), (0, .ref ((ad 0))), (5, .int y5)]) hx hb dX1_turn_87 hl (by decide) rfl (fun ls hl => ?_)
        obtain ⟨v16, ev16, h⟩ := q_l h
        refine lv_iinc (v := v16) (lv' := [(5, .int v16), (4, .int v15), (0, .ref ((ad 0)))]) hx hb dX1_turn_89 hl (k := 2) rfl (by rw [ev16]; rfl) (by decide) rfl (fun ls hl => ?_)
        refine lv_goto (tgt := 60) hx hb dX1_turn_92 (by decide) ?_
        exact ih60 u v15 v16 _ _ _ h hP hD hS (lv_sub hl [2, 1, 0] rfl)
set_option maxHeartbeats 4000000 in
set_option maxRecDepth 100000 in
theorem kX1_turn (l : Launch) (dC : Nat → ClassId) (dI : Nat → Nat → Nat) (cI cJ cZ : ClassId) (ad : Nat → Nat) (sz : Nat) (u : gS) (x1 : Int32) (x2 : Int32) (x3 : Int32) (r9 : Int32) (u9 : gS) (h : fX1_turn u x1 x2 x3 = some (r9, u9)) : Ki l yX1_turn wsX1_turn rmX1_turn (dC, dI) vwCl (tyS cI cJ cZ) (wX1 cI cJ cZ ad) sz u [.ref (ad 0), .int x1, .int x2, .int x3] r9 u9 := by
  refine g_ofW (cc := cX1_turn) (maxL := 6) (ret := (some .int)) (wf := (wX1 cI cJ cZ ad)) (u := u) (Qf := fun A => va_Qi (fun r1 u1 => r1 = r9 ∧ u1 = u9) (gAt (dC, dI) vwCl (tyS cI cJ cZ) A (wX1 cI cJ cZ ad)) A) (by decide) rfl (Nat.le_of_ble_eq_true rfl) ?_
  intro p e s m below meth c A ls C0 hK hP hD hA hl
  have hS : va_S A s.heap s.heap [] := va_S.rf
  obtain ⟨hx, hb, hml, hown, hts, hr, hlocks⟩ := id C0
  have hl : lv_has ls 6 [(0, .ref ((ad 0))), (1, .int x1), (2, .int x2), (3, .int x3)] := hl
  unfold fX1_turn at h
  refine lv_aload_n hx hb dX1_turn_0 rfl (lv_at hl 0 rfl) ?_
  refine lv_iconst (v := (0 : Int32)) hx hb dX1_turn_1 (by decide) ?_
  obtain ⟨u1, eu1, h⟩ := q_l h
  refine pfX1_thrown inX1_turn mX1_turn_51 hx hb hts hown hK hP hD hS eu1 dX1_turn_2 (fun H locs hP hD hS => ?_)
  refine lv_aload_n hx hb dX1_turn_5 rfl (lv_at hl 0 rfl) ?_
  refine lv_iload_n hx hb dX1_turn_6 rfl (lv_at hl 1 rfl) ?_
  obtain ⟨r2, g4, h⟩ := q_s h
  refine q_Vi (rest := []) (As := [.int x1]) ⟨hx, hb, hml, hown, hts⟩ (kX1_isPiece l dC dI cI cJ cZ ad _ u1 x1 r2 g4) (cwV 1 hts gX1_turn_X1_isPiece rfl rfl rfl hdX1_isPiece ⟨Nat.le_of_ble_eq_true rfl, Nat.le_of_ble_eq_true rfl⟩) (rvX1 hK hP) hK hP hD hS hA rfl hl.1 (Nat.le_of_ble_eq_true rfl) rfl dX1_turn_7 ⟨Nat.zero_le _, Nat.zero_le _⟩ (fun H locs hP hD hS => ?_)
  refine lv_if_eq (tgt := 21) hx hb dX1_turn_10 (by decide) (fun c5 => ?_) (fun c5 => ?_)
  · have h := q_t h c5
    refine lv_bipush (v := (-11 : Int32)) hx hb dX1_turn_21 (by decide) ?_
    exact q_iret hx hb hr hlocks hK hP hD hS (q_p h).1 (q_p h).2 dX1_turn_23
  · have h := q_f h c5
    refine lv_aload_n hx hb dX1_turn_13 rfl (lv_at hl 0 rfl) ?_
    refine lv_iload_n hx hb dX1_turn_14 rfl (lv_at hl 2 rfl) ?_
    obtain ⟨r6, g8, h⟩ := q_s h
    refine q_Vi (rest := []) (As := [.int x2]) ⟨hx, hb, hml, hown, hts⟩ (kX1_isPiece l dC dI cI cJ cZ ad _ u1 x2 r6 g8) (cwV 1 hts gX1_turn_X1_isPiece rfl rfl rfl hdX1_isPiece ⟨Nat.le_of_ble_eq_true rfl, Nat.le_of_ble_eq_true rfl⟩) (rvX1 hK hP) hK hP hD hS hA rfl hl.1 (Nat.le_of_ble_eq_true rfl) rfl dX1_turn_15 ⟨Nat.zero_le _, Nat.zero_le _⟩ (fun H locs hP hD hS => ?_)
    refine lv_if_ne (tgt := 24) hx hb dX1_turn_18 (by decide) (fun c9 => ?_) (fun c9 => ?_)
    · have h := q_f h c9
      refine lv_aload_n hx hb dX1_turn_24 rfl (lv_at hl 0 rfl) ?_
      refine gfX1_ends inX1_turn mX1_turn_13 hx hb hts hown hK hP dX1_turn_25 ?_
      refine lv_iload_n hx hb dX1_turn_28 rfl (lv_at hl 1 rfl) ?_
      obtain ⟨hin, h⟩ := q_g h
      refine ldX1_ends hx hb hK hP hin dX1_turn_29 ?_
      refine lv_aload_n hx hb dX1_turn_30 rfl (lv_at hl 0 rfl) ?_
      refine gfX1_begins inX1_turn mX1_turn_7 hx hb hts hown hK hP dX1_turn_31 ?_
      refine lv_iload_n hx hb dX1_turn_34 rfl (lv_at hl 2 rfl) ?_
      obtain ⟨hin, h⟩ := q_g h
      refine ldX1_begins hx hb hK hP hin dX1_turn_35 ?_
      refine lv_icmp_eq (tgt := 42) hx hb dX1_turn_36 (by decide) (fun c10 => ?_) (fun c10 => ?_)
      · have h := q_t h c10
        refine lv_aload_n hx hb dX1_turn_42 rfl (lv_at hl 0 rfl) ?_
        refine gfX1_barred inX1_turn mX1_turn_29 hx hb hts hown hK hP dX1_turn_43 ?_
        refine lv_bipush (v := (120 : Int32)) hx hb dX1_turn_46 (by decide) ?_
        refine lv_iload_n hx hb dX1_turn_48 rfl (lv_at hl 1 rfl) ?_
        refine lv_imul hx hb dX1_turn_49 ?_
        refine lv_iload_n hx hb dX1_turn_50 rfl (lv_at hl 2 rfl) ?_
        refine lv_iadd hx hb dX1_turn_51 ?_
        refine lv_iload_n hx hb dX1_turn_52 rfl (lv_at hl 3 rfl) ?_
        obtain ⟨hin, h⟩ := q_g h
        obtain ⟨u11, eu11, h⟩ := q_l h
        refine stX1_barred hx hb hK hP hD hS hin eu11 dX1_turn_53 (fun H locs hP hD hS => ?_)
        refine lv_iconst (v := (0 : Int32)) hx hb dX1_turn_54 (by decide) ?_
        refine lv_istore (lv' := [(4, .int (0 : Int32)), (0, .ref ((ad 0))), (1, .int x1), (2, .int x2), (3, .int x3)]) hx hb dX1_turn_55 hl (by decide) rfl (fun ls hl => ?_)
        refine lv_iconst (v := (0 : Int32)) hx hb dX1_turn_57 (by decide) ?_
        refine lv_istore (lv' := [(5, .int (0 : Int32)), (4, .int (0 : Int32)), (0, .ref ((ad 0))), (1, .int x1), (2, .int x2), (3, .int x3)]) hx hb dX1_turn_58 hl (by decide) rfl (fun ls hl => ?_)
        exact kX1_turn_L60 C0 hK hA 14500 u11 (0 : Int32) (0 : Int32) _ _ _ h hP hD hS (lv_sub hl [2, 1, 0] rfl)
      · have h := q_f h c10
        refine lv_bipush (v := (-13 : Int32)) hx hb dX1_turn_39 (by decide) ?_
        exact q_iret hx hb hr hlocks hK hP hD hS (q_p h).1 (q_p h).2 dX1_turn_41
    · have h := q_t h c9
      refine lv_bipush (v := (-11 : Int32)) hx hb dX1_turn_21 (by decide) ?_
      exact q_iret hx hb hr hlocks hK hP hD hS (q_p h).1 (q_p h).2 dX1_turn_23
set_option maxHeartbeats 4000000 in
set_option maxRecDepth 100000 in
theorem kX1_stop (l : Launch) (dC : Nat → ClassId) (dI : Nat → Nat → Nat) (cI cJ cZ : ClassId) (ad : Nat → Nat) (sz : Nat) (u : gS) (x1 : Int32) (x2 : Int32) (x3 : Int64) (r9 : Int32) (u9 : gS) (h : fX1_stop u x1 x2 x3 = some (r9, u9)) : Ki l yX1_stop wsX1_stop rmX1_stop (dC, dI) vwCl (tyS cI cJ cZ) (wX1 cI cJ cZ ad) sz u [.ref (ad 0), .int x1, .int x2, .long x3] r9 u9 := by
  refine g_ofW (cc := cX1_stop) (maxL := 5) (ret := (some .int)) (wf := (wX1 cI cJ cZ ad)) (u := u) (Qf := fun A => va_Qi (fun r1 u1 => r1 = r9 ∧ u1 = u9) (gAt (dC, dI) vwCl (tyS cI cJ cZ) A (wX1 cI cJ cZ ad)) A) (by decide) rfl (Nat.le_of_ble_eq_true rfl) ?_
  intro p e s m below meth c A ls C0 hK hP hD hA hl
  have hS : va_S A s.heap s.heap [] := va_S.rf
  obtain ⟨hx, hb, hml, hown, hts, hr, hlocks⟩ := id C0
  have hl : lv_has ls 5 [(0, .ref ((ad 0))), (1, .int x1), (2, .int x2), (3, .long x3)] := hl
  unfold fX1_stop at h
  refine lv_aload_n hx hb dX1_stop_0 rfl (lv_at hl 0 rfl) ?_
  refine lv_iconst (v := (0 : Int32)) hx hb dX1_stop_1 (by decide) ?_
  obtain ⟨u1, eu1, h⟩ := q_l h
  refine pfX1_thrown inX1_stop mX1_stop_51 hx hb hts hown hK hP hD hS eu1 dX1_stop_2 (fun H locs hP hD hS => ?_)
  refine lv_aload_n hx hb dX1_stop_5 rfl (lv_at hl 0 rfl) ?_
  refine lv_iload_n hx hb dX1_stop_6 rfl (lv_at hl 1 rfl) ?_
  obtain ⟨r2, g4, h⟩ := q_s h
  refine q_Vi (rest := []) (As := [.int x1]) ⟨hx, hb, hml, hown, hts⟩ (kX1_isPiece l dC dI cI cJ cZ ad _ u1 x1 r2 g4) (cwV 1 hts gX1_stop_X1_isPiece rfl rfl rfl hdX1_isPiece ⟨Nat.le_of_ble_eq_true rfl, Nat.le_of_ble_eq_true rfl⟩) (rvX1 hK hP) hK hP hD hS hA rfl hl.1 (Nat.le_of_ble_eq_true rfl) rfl dX1_stop_7 ⟨Nat.zero_le _, Nat.zero_le _⟩ (fun H locs hP hD hS => ?_)
  refine lv_if_ne (tgt := 16) hx hb dX1_stop_10 (by decide) (fun c5 => ?_) (fun c5 => ?_)
  · have h := q_f h c5
    refine lv_iload_n hx hb dX1_stop_16 rfl (lv_at hl 2 rfl) ?_
    refine lv_i2l (v := x2.toInt64) hx hb dX1_stop_17 rfl ?_
    refine lv_lconst (v := (0 : Int64)) hx hb dX1_stop_18 (by decide) ?_
    refine lv_lconst (v := (1 : Int64)) hx hb dX1_stop_19 (by decide) ?_
    obtain ⟨r6, g8, h⟩ := q_s h
    refine q_Si (rest := []) (As := [.long x2.toInt64, .long (0 : Int64), .long (1 : Int64)]) ⟨hx, hb, hml, hown, hts⟩ (kX1_in l dC dI cI cJ cZ ad _ u1 x2.toInt64 (0 : Int64) (1 : Int64) r6 g8) (va_cwS 3 hts gX1_stop_X1_in rfl rfl rfl hdX1_in ⟨Nat.le_of_ble_eq_true rfl, Nat.le_of_ble_eq_true rfl⟩) hK hP hD hS hA rfl hl.1 (Nat.le_of_ble_eq_true rfl) rfl dX1_stop_20 ⟨Nat.zero_le _, Nat.zero_le _⟩ (fun H locs hP hD hS => ?_)
    refine lv_if_eq (tgt := 40) hx hb dX1_stop_23 (by decide) (fun c9 => ?_) (fun c9 => ?_)
    · have h := q_t h c9
      refine lv_bipush (v := (-12 : Int32)) hx hb dX1_stop_40 (by decide) ?_
      exact q_iret hx hb hr hlocks hK hP hD hS (q_p h).1 (q_p h).2 dX1_stop_42
    · have h := q_f h c9
      refine lv_lload_n hx hb dX1_stop_26 rfl (lv_at hl 3 rfl) ?_
      refine lv_lconst (v := (0 : Int64)) hx hb dX1_stop_27 (by decide) ?_
      refine lv_aload_n hx hb dX1_stop_28 rfl (lv_at hl 0 rfl) ?_
      refine gfX1_length inX1_stop mX1_stop_16 hx hb hts hown hK hP dX1_stop_29 ?_
      refine lv_iload_n hx hb dX1_stop_32 rfl (lv_at hl 1 rfl) ?_
      obtain ⟨hin, h⟩ := q_g h
      refine ldX1_length hx hb hK hP hin dX1_stop_33 ?_
      obtain ⟨r10, g12, h⟩ := q_s h
      refine q_Si (rest := []) (As := [.long x3, .long (0 : Int64), .long (gl u1 0 x1.toNatClampNeg)]) ⟨hx, hb, hml, hown, hts⟩ (kX1_in l dC dI cI cJ cZ ad _ u1 x3 (0 : Int64) (gl u1 0 x1.toNatClampNeg) r10 g12) (va_cwS 3 hts gX1_stop_X1_in rfl rfl rfl hdX1_in ⟨Nat.le_of_ble_eq_true rfl, Nat.le_of_ble_eq_true rfl⟩) hK hP hD hS hA rfl hl.1 (Nat.le_of_ble_eq_true rfl) rfl dX1_stop_34 ⟨Nat.zero_le _, Nat.zero_le _⟩ (fun H locs hP hD hS => ?_)
      refine lv_if_ne (tgt := 43) hx hb dX1_stop_37 (by decide) (fun c13 => ?_) (fun c13 => ?_)
      · have h := q_f h c13
        refine lv_aload_n hx hb dX1_stop_43 rfl (lv_at hl 0 rfl) ?_
        refine gfX1_stops inX1_stop mX1_stop_58 hx hb hts hown hK hP dX1_stop_44 ?_
        refine lv_bipush (v := (100 : Int32)) hx hb dX1_stop_47 (by decide) ?_
        refine lv_icmp_ne (tgt := 55) hx hb dX1_stop_49 (by decide) (fun c14 => ?_) (fun c14 => ?_)
        · have h := q_f h c14
          refine lv_aload_n hx hb dX1_stop_55 rfl (lv_at hl 0 rfl) ?_
          refine gfX1_on inX1_stop mX1_stop_33 hx hb hts hown hK hP dX1_stop_56 ?_
          refine lv_aload_n hx hb dX1_stop_59 rfl (lv_at hl 0 rfl) ?_
          refine gfX1_stops inX1_stop mX1_stop_58 hx hb hts hown hK hP dX1_stop_60 ?_
          refine lv_iload_n hx hb dX1_stop_63 rfl (lv_at hl 1 rfl) ?_
          obtain ⟨hin, h⟩ := q_g h
          obtain ⟨u15, eu15, h⟩ := q_l h
          refine stX1_on hx hb hK hP hD hS hin eu15 dX1_stop_64 (fun H locs hP hD hS => ?_)
          refine lv_aload_n hx hb dX1_stop_65 rfl (lv_at hl 0 rfl) ?_
          refine gfX1_side inX1_stop mX1_stop_36 hx hb hts hown hK hP dX1_stop_66 ?_
          refine lv_aload_n hx hb dX1_stop_69 rfl (lv_at hl 0 rfl) ?_
          refine gfX1_stops inX1_stop mX1_stop_58 hx hb hts hown hK hP dX1_stop_70 ?_
          refine lv_iload_n hx hb dX1_stop_73 rfl (lv_at hl 2 rfl) ?_
          obtain ⟨hin, h⟩ := q_g h
          obtain ⟨u16, eu16, h⟩ := q_l h
          refine stX1_side hx hb hK hP hD hS hin eu16 dX1_stop_74 (fun H locs hP hD hS => ?_)
          refine lv_aload_n hx hb dX1_stop_75 rfl (lv_at hl 0 rfl) ?_
          refine gfX1_at inX1_stop mX1_stop_39 hx hb hts hown hK hP dX1_stop_76 ?_
          refine lv_aload_n hx hb dX1_stop_79 rfl (lv_at hl 0 rfl) ?_
          refine gfX1_stops inX1_stop mX1_stop_58 hx hb hts hown hK hP dX1_stop_80 ?_
          refine lv_lload_n hx hb dX1_stop_83 rfl (lv_at hl 3 rfl) ?_
          obtain ⟨hin, h⟩ := q_g h
          obtain ⟨u17, eu17, h⟩ := q_l h
          refine stX1_at hx hb hK hP hD hS hin eu17 dX1_stop_84 (fun H locs hP hD hS => ?_)
          refine lv_aload_n hx hb dX1_stop_85 rfl (lv_at hl 0 rfl) ?_
          refine lv_dup hx hb dX1_stop_86 rfl ?_
          refine gfX1_stops inX1_stop mX1_stop_58 hx hb hts hown hK hP dX1_stop_87 ?_
          refine lv_iconst (v := (1 : Int32)) hx hb dX1_stop_90 (by decide) ?_
          refine lv_iadd hx hb dX1_stop_91 ?_
          obtain ⟨u18, eu18, h⟩ := q_l h
          refine pfX1_stops inX1_stop mX1_stop_58 hx hb hts hown hK hP hD hS eu18 dX1_stop_92 (fun H locs hP hD hS => ?_)
          refine lv_aload_n hx hb dX1_stop_95 rfl (lv_at hl 0 rfl) ?_
          refine gfX1_stops inX1_stop mX1_stop_58 hx hb hts hown hK hP dX1_stop_96 ?_
          refine lv_iconst (v := (1 : Int32)) hx hb dX1_stop_99 (by decide) ?_
          refine lv_isub hx hb dX1_stop_100 ?_
          exact q_iret hx hb hr hlocks hK hP hD hS (q_p h).1 (q_p h).2 dX1_stop_101
        · have h := q_t h c14
          refine lv_bipush (v := (-14 : Int32)) hx hb dX1_stop_52 (by decide) ?_
          exact q_iret hx hb hr hlocks hK hP hD hS (q_p h).1 (q_p h).2 dX1_stop_54
      · have h := q_t h c13
        refine lv_bipush (v := (-12 : Int32)) hx hb dX1_stop_40 (by decide) ?_
        exact q_iret hx hb hr hlocks hK hP hD hS (q_p h).1 (q_p h).2 dX1_stop_42
  · have h := q_t h c5
    refine lv_bipush (v := (-11 : Int32)) hx hb dX1_stop_13 (by decide) ?_
    exact q_iret hx hb hr hlocks hK hP hD hS (q_p h).1 (q_p h).2 dX1_stop_15
