set_option maxHeartbeats 4000000 in
set_option maxRecDepth 100000 in
theorem kX0_isCrossing (l : Launch) (dC : Nat → ClassId) (dI : Nat → Nat → Nat) (cI cJ cZ : ClassId) (ad : Nat → Nat) (sz : Nat) (u : gS) (x1 : Int32) (r9 : Int32) (h : fX0_isCrossing u x1 = some r9) : Ki l yX0_isCrossing wsX0_isCrossing rmX0_isCrossing (dC, dI) vwCl (tyS cI cJ cZ) (wX0 cI cJ cZ ad) sz u [.int x1] r9 u := by
  refine g_ofW (cc := cX0_isCrossing) (maxL := 1) (ret := (some .boolean)) (wf := (wX0 cI cJ cZ ad)) (u := u) (Qf := fun A => va_Qi (fun r1 u1 => r1 = r9 ∧ u1 = u) (gAt (dC, dI) vwCl (tyS cI cJ cZ) A (wX0 cI cJ cZ ad)) A) (by decide) rfl (Nat.le_of_ble_eq_true rfl) ?_
  intro p e s m below meth c A ls C0 hK hP hD hA hl
  have hS : va_S A s.heap s.heap [] := va_S.rf
  obtain ⟨hx, hb, hml, hown, hts, hr, hlocks⟩ := id C0
  have hl : lv_has ls 1 [(0, .int x1)] := hl
  unfold fX0_isCrossing at h
  refine lv_iload_n hx hb dX0_isCrossing_0 rfl (lv_at hl 0 rfl) ?_
  refine lv_if_lt (tgt := 14) hx hb dX0_isCrossing_1 (by decide) (fun c1 => ?_) (fun c1 => ?_)
  · have h := q_t h c1
    refine lv_iconst (v := (0 : Int32)) hx hb dX0_isCrossing_14 (by decide) ?_
    exact q_zret hx hb hr hlocks hK hP hD hS rfl (Option.some.inj h) rfl dX0_isCrossing_15
  · have h := q_f h c1
    refine lv_iload_n hx hb dX0_isCrossing_4 rfl (lv_at hl 0 rfl) ?_
    refine lv_bipush (v := (60 : Int32)) hx hb dX0_isCrossing_5 (by decide) ?_
    refine lv_icmp_ge (tgt := 14) hx hb dX0_isCrossing_7 (by decide) (fun c2 => ?_) (fun c2 => ?_)
    · have h := q_t h c2
      refine lv_iconst (v := (0 : Int32)) hx hb dX0_isCrossing_14 (by decide) ?_
      exact q_zret hx hb hr hlocks hK hP hD hS rfl (Option.some.inj h) rfl dX0_isCrossing_15
    · have h := q_f h c2
      refine lv_iconst (v := (1 : Int32)) hx hb dX0_isCrossing_10 (by decide) ?_
      refine lv_goto (tgt := 15) hx hb dX0_isCrossing_11 (by decide) ?_
      exact q_zret hx hb hr hlocks hK hP hD hS rfl (Option.some.inj h) rfl dX0_isCrossing_15
set_option maxHeartbeats 4000000 in
set_option maxRecDepth 100000 in
theorem kX0_isPiece (l : Launch) (dC : Nat → ClassId) (dI : Nat → Nat → Nat) (cI cJ cZ : ClassId) (ad : Nat → Nat) (sz : Nat) (u : gS) (x1 : Int32) (r9 : Int32) (h : fX0_isPiece u x1 = some r9) : Ki l yX0_isPiece wsX0_isPiece rmX0_isPiece (dC, dI) vwCl (tyS cI cJ cZ) (wX0 cI cJ cZ ad) sz u [.ref (ad 0), .int x1] r9 u := by
  refine g_ofW (cc := cX0_isPiece) (maxL := 2) (ret := (some .boolean)) (wf := (wX0 cI cJ cZ ad)) (u := u) (Qf := fun A => va_Qi (fun r1 u1 => r1 = r9 ∧ u1 = u) (gAt (dC, dI) vwCl (tyS cI cJ cZ) A (wX0 cI cJ cZ ad)) A) (by decide) rfl (Nat.le_of_ble_eq_true rfl) ?_
  intro p e s m below meth c A ls C0 hK hP hD hA hl
  have hS : va_S A s.heap s.heap [] := va_S.rf
  obtain ⟨hx, hb, hml, hown, hts, hr, hlocks⟩ := id C0
  have hl : lv_has ls 2 [(0, .ref ((ad 0))), (1, .int x1)] := hl
  unfold fX0_isPiece at h
  refine lv_iload_n hx hb dX0_isPiece_0 rfl (lv_at hl 1 rfl) ?_
  refine lv_if_lt (tgt := 16) hx hb dX0_isPiece_1 (by decide) (fun c1 => ?_) (fun c1 => ?_)
  · have h := q_t h c1
    refine lv_iconst (v := (0 : Int32)) hx hb dX0_isPiece_16 (by decide) ?_
    exact q_zret hx hb hr hlocks hK hP hD hS rfl (Option.some.inj h) rfl dX0_isPiece_17
  · have h := q_f h c1
    refine lv_iload_n hx hb dX0_isPiece_4 rfl (lv_at hl 1 rfl) ?_
    refine lv_aload_n hx hb dX0_isPiece_5 rfl (lv_at hl 0 rfl) ?_
    refine gfX0_pieceCount inX0_isPiece mX0_isPiece_62 hx hb hts hown hK hP dX0_isPiece_6 ?_
    refine lv_icmp_ge (tgt := 16) hx hb dX0_isPiece_9 (by decide) (fun c2 => ?_) (fun c2 => ?_)
    · have h := q_t h c2
      refine lv_iconst (v := (0 : Int32)) hx hb dX0_isPiece_16 (by decide) ?_
      exact q_zret hx hb hr hlocks hK hP hD hS rfl (Option.some.inj h) rfl dX0_isPiece_17
    · have h := q_f h c2
      refine lv_iconst (v := (1 : Int32)) hx hb dX0_isPiece_12 (by decide) ?_
      refine lv_goto (tgt := 17) hx hb dX0_isPiece_13 (by decide) ?_
      exact q_zret hx hb hr hlocks hK hP hD hS rfl (Option.some.inj h) rfl dX0_isPiece_17
set_option maxHeartbeats 4000000 in
set_option maxRecDepth 100000 in
theorem kX0_wordOfTurn (l : Launch) (dC : Nat → ClassId) (dI : Nat → Nat → Nat) (cI cJ cZ : ClassId) (ad : Nat → Nat) (sz : Nat) (u : gS) (x1 : Int32) (x2 : Int32) (r9 : Int32) (h : fX0_wordOfTurn u x1 x2 = some r9) : Ki l yX0_wordOfTurn wsX0_wordOfTurn rmX0_wordOfTurn (dC, dI) vwCl (tyS cI cJ cZ) (wX0 cI cJ cZ ad) sz u [.int x1, .int x2] r9 u := by
  refine g_ofW (cc := cX0_wordOfTurn) (maxL := 2) (ret := (some .int)) (wf := (wX0 cI cJ cZ ad)) (u := u) (Qf := fun A => va_Qi (fun r1 u1 => r1 = r9 ∧ u1 = u) (gAt (dC, dI) vwCl (tyS cI cJ cZ) A (wX0 cI cJ cZ ad)) A) (by decide) rfl (Nat.le_of_ble_eq_true rfl) ?_
  intro p e s m below meth c A ls C0 hK hP hD hA hl
  have hS : va_S A s.heap s.heap [] := va_S.rf
  obtain ⟨hx, hb, hml, hown, hts, hr, hlocks⟩ := id C0
  have hl : lv_has ls 2 [(0, .int x1), (1, .int x2)] := hl
  unfold fX0_wordOfTurn at h
  refine lv_iload_n hx hb dX0_wordOfTurn_0 rfl (lv_at hl 0 rfl) ?_
  refine lv_iconst (v := (2 : Int32)) hx hb dX0_wordOfTurn_1 (by decide) ?_
  refine lv_imul hx hb dX0_wordOfTurn_2 ?_
  refine lv_iload_n hx hb dX0_wordOfTurn_3 rfl (lv_at hl 1 rfl) ?_
  refine lv_bipush (v := (64 : Int32)) hx hb dX0_wordOfTurn_4 (by decide) ?_
  refine lv_idiv hx hb dX0_wordOfTurn_6 (by decide) ?_
  refine lv_iadd hx hb dX0_wordOfTurn_7 ?_
  exact q_iret hx hb hr hlocks hK hP hD hS (Option.some.inj h) rfl dX0_wordOfTurn_8
set_option maxHeartbeats 4000000 in
set_option maxRecDepth 100000 in
theorem kX0_bitOfTurn (l : Launch) (dC : Nat → ClassId) (dI : Nat → Nat → Nat) (cI cJ cZ : ClassId) (ad : Nat → Nat) (sz : Nat) (u : gS) (x1 : Int32) (r9 : Int64) (h : fX0_bitOfTurn u x1 = some r9) : Kl l yX0_bitOfTurn wsX0_bitOfTurn rmX0_bitOfTurn (dC, dI) vwCl (tyS cI cJ cZ) (wX0 cI cJ cZ ad) sz u [.int x1] r9 u := by
  refine g_ofW (cc := cX0_bitOfTurn) (maxL := 1) (ret := (some .long)) (wf := (wX0 cI cJ cZ ad)) (u := u) (Qf := fun A => va_Ql (fun r1 u1 => r1 = r9 ∧ u1 = u) (gAt (dC, dI) vwCl (tyS cI cJ cZ) A (wX0 cI cJ cZ ad)) A) (by decide) rfl (Nat.le_of_ble_eq_true rfl) ?_
  intro p e s m below meth c A ls C0 hK hP hD hA hl
  have hS : va_S A s.heap s.heap [] := va_S.rf
  obtain ⟨hx, hb, hml, hown, hts, hr, hlocks⟩ := id C0
  have hl : lv_has ls 1 [(0, .int x1)] := hl
  unfold fX0_bitOfTurn at h
  refine lv_lconst (v := (1 : Int64)) hx hb dX0_bitOfTurn_0 (by decide) ?_
  refine lv_iload_n hx hb dX0_bitOfTurn_1 rfl (lv_at hl 0 rfl) ?_
  refine lv_bipush (v := (64 : Int32)) hx hb dX0_bitOfTurn_2 (by decide) ?_
  refine lv_irem hx hb dX0_bitOfTurn_4 (by decide) ?_
  refine lv_lshl (v := (1 : Int64) <<< ((x1 - x1 / (64 : Int32) * (64 : Int32)).toInt64 &&& 63)) hx hb dX0_bitOfTurn_5 rfl ?_
  exact q_lret hx hb hr hlocks hK hP hD hS (Option.some.inj h) rfl dX0_bitOfTurn_6
set_option maxHeartbeats 4000000 in
set_option maxRecDepth 100000 in
theorem kX0_isBarred (l : Launch) (dC : Nat → ClassId) (dI : Nat → Nat → Nat) (cI cJ cZ : ClassId) (ad : Nat → Nat) (sz : Nat) (u : gS) (x1 : Int32) (x2 : Int32) (r9 : Int32) (h : fX0_isBarred u x1 x2 = some r9) : Ki l yX0_isBarred wsX0_isBarred rmX0_isBarred (dC, dI) vwCl (tyS cI cJ cZ) (wX0 cI cJ cZ ad) sz u [.ref (ad 0), .int x1, .int x2] r9 u := by
  refine g_ofW (cc := cX0_isBarred) (maxL := 3) (ret := (some .boolean)) (wf := (wX0 cI cJ cZ ad)) (u := u) (Qf := fun A => va_Qi (fun r1 u1 => r1 = r9 ∧ u1 = u) (gAt (dC, dI) vwCl (tyS cI cJ cZ) A (wX0 cI cJ cZ ad)) A) (by decide) rfl (Nat.le_of_ble_eq_true rfl) ?_
  intro p e s m below meth c A ls C0 hK hP hD hA hl
  have hS : va_S A s.heap s.heap [] := va_S.rf
  obtain ⟨hx, hb, hml, hown, hts, hr, hlocks⟩ := id C0
  have hl : lv_has ls 3 [(0, .ref ((ad 0))), (1, .int x1), (2, .int x2)] := hl
  unfold fX0_isBarred at h
  refine lv_aload_n hx hb dX0_isBarred_0 rfl (lv_at hl 0 rfl) ?_
  refine gfX0_barredBits inX0_isBarred mX0_isBarred_29 hx hb hts hown hK hP dX0_isBarred_1 ?_
  refine lv_iload_n hx hb dX0_isBarred_4 rfl (lv_at hl 1 rfl) ?_
  refine lv_iload_n hx hb dX0_isBarred_5 rfl (lv_at hl 2 rfl) ?_
  obtain ⟨r1, g3, h⟩ := q_s h
  refine q_Si (rest := [.ref (ad 7)]) (As := [.int x1, .int x2]) ⟨hx, hb, hml, hown, hts⟩ (kX0_wordOfTurn l dC dI cI cJ cZ ad _ u x1 x2 r1 g3) (va_cwS 2 hts gX0_isBarred_X0_wordOfTurn rfl rfl rfl hdX0_wordOfTurn ⟨Nat.le_of_ble_eq_true rfl, Nat.le_of_ble_eq_true rfl⟩) hK hP hD hS hA rfl hl.1 (Nat.le_of_ble_eq_true rfl) rfl dX0_isBarred_6 ⟨Nat.zero_le _, Nat.zero_le _⟩ (fun H locs hP hD hS => ?_)
  obtain ⟨hin, h⟩ := q_g h
  refine ldX0_barredBits hx hb hK hP hin dX0_isBarred_9 ?_
  refine lv_iload_n hx hb dX0_isBarred_10 rfl (lv_at hl 2 rfl) ?_
  obtain ⟨r4, g6, h⟩ := q_s h
  refine q_Sl (rest := [.long (gl u 4 r1.toNatClampNeg)]) (As := [.int x2]) ⟨hx, hb, hml, hown, hts⟩ (kX0_bitOfTurn l dC dI cI cJ cZ ad _ u x2 r4 g6) (va_cwS 1 hts gX0_isBarred_X0_bitOfTurn rfl rfl rfl hdX0_bitOfTurn ⟨Nat.le_of_ble_eq_true rfl, Nat.le_of_ble_eq_true rfl⟩) hK hP hD hS hA rfl hl.1 (Nat.le_of_ble_eq_true rfl) rfl dX0_isBarred_11 ⟨Nat.zero_le _, Nat.zero_le _⟩ (fun H locs hP hD hS => ?_)
  refine lv_land hx hb dX0_isBarred_14 ?_
  refine lv_lconst (v := (0 : Int64)) hx hb dX0_isBarred_15 (by decide) ?_
  refine q_lc_eq (tgt := 24) hx hb dX0_isBarred_16 dX0_isBarred_17 (by decide) (fun c7 => ?_) (fun c7 => ?_)
  · have h := q_t h c7
    refine lv_iconst (v := (0 : Int32)) hx hb dX0_isBarred_24 (by decide) ?_
    exact q_zret hx hb hr hlocks hK hP hD hS rfl (Option.some.inj h) rfl dX0_isBarred_25
  · have h := q_f h c7
    refine lv_iconst (v := (1 : Int32)) hx hb dX0_isBarred_20 (by decide) ?_
    refine lv_goto (tgt := 25) hx hb dX0_isBarred_21 (by decide) ?_
    exact q_zret hx hb hr hlocks hK hP hD hS rfl (Option.some.inj h) rfl dX0_isBarred_25
set_option maxHeartbeats 4000000 in
set_option maxRecDepth 100000 in
theorem kX0_turn (l : Launch) (dC : Nat → ClassId) (dI : Nat → Nat → Nat) (cI cJ cZ : ClassId) (ad : Nat → Nat) (sz : Nat) (u : gS) (x1 : Int32) (x2 : Int32) (x3 : Int32) (r9 : Int32) (u9 : gS) (h : fX0_turn u x1 x2 x3 = some (r9, u9)) : Ki l yX0_turn wsX0_turn rmX0_turn (dC, dI) vwCl (tyS cI cJ cZ) (wX0 cI cJ cZ ad) sz u [.ref (ad 0), .int x1, .int x2, .int x3] r9 u9 := by
  refine g_ofW (cc := cX0_turn) (maxL := 4) (ret := (some .int)) (wf := (wX0 cI cJ cZ ad)) (u := u) (Qf := fun A => va_Qi (fun r1 u1 => r1 = r9 ∧ u1 = u9) (gAt (dC, dI) vwCl (tyS cI cJ cZ) A (wX0 cI cJ cZ ad)) A) (by decide) rfl (Nat.le_of_ble_eq_true rfl) ?_
  intro p e s m below meth c A ls C0 hK hP hD hA hl
  have hS : va_S A s.heap s.heap [] := va_S.rf
  obtain ⟨hx, hb, hml, hown, hts, hr, hlocks⟩ := id C0
  have hl : lv_has ls 4 [(0, .ref ((ad 0))), (1, .int x1), (2, .int x2), (3, .int x3)] := hl
  unfold fX0_turn at h
  refine lv_aload_n hx hb dX0_turn_0 rfl (lv_at hl 0 rfl) ?_
  refine lv_iload_n hx hb dX0_turn_1 rfl (lv_at hl 1 rfl) ?_
  obtain ⟨r1, g3, h⟩ := q_s h
  refine q_Vi (rest := []) (As := [.int x1]) ⟨hx, hb, hml, hown, hts⟩ (kX0_isPiece l dC dI cI cJ cZ ad _ u x1 r1 g3) (cwV 1 hts gX0_turn_X0_isPiece rfl rfl rfl hdX0_isPiece ⟨Nat.le_of_ble_eq_true rfl, Nat.le_of_ble_eq_true rfl⟩) (rvX0 hK hP) hK hP hD hS hA rfl hl.1 (Nat.le_of_ble_eq_true rfl) rfl dX0_turn_2 ⟨Nat.zero_le _, Nat.zero_le _⟩ (fun H locs hP hD hS => ?_)
  refine lv_if_eq (tgt := 16) hx hb dX0_turn_5 (by decide) (fun c4 => ?_) (fun c4 => ?_)
  · have h := q_t h c4
    refine lv_bipush (v := (-11 : Int32)) hx hb dX0_turn_16 (by decide) ?_
    exact q_iret hx hb hr hlocks hK hP hD hS (q_p h).1 (q_p h).2 dX0_turn_18
  · have h := q_f h c4
    refine lv_aload_n hx hb dX0_turn_8 rfl (lv_at hl 0 rfl) ?_
    refine lv_iload_n hx hb dX0_turn_9 rfl (lv_at hl 2 rfl) ?_
    obtain ⟨r5, g7, h⟩ := q_s h
    refine q_Vi (rest := []) (As := [.int x2]) ⟨hx, hb, hml, hown, hts⟩ (kX0_isPiece l dC dI cI cJ cZ ad _ u x2 r5 g7) (cwV 1 hts gX0_turn_X0_isPiece rfl rfl rfl hdX0_isPiece ⟨Nat.le_of_ble_eq_true rfl, Nat.le_of_ble_eq_true rfl⟩) (rvX0 hK hP) hK hP hD hS hA rfl hl.1 (Nat.le_of_ble_eq_true rfl) rfl dX0_turn_10 ⟨Nat.zero_le _, Nat.zero_le _⟩ (fun H locs hP hD hS => ?_)
    refine lv_if_ne (tgt := 19) hx hb dX0_turn_13 (by decide) (fun c8 => ?_) (fun c8 => ?_)
    · have h := q_f h c8
      refine lv_aload_n hx hb dX0_turn_19 rfl (lv_at hl 0 rfl) ?_
      refine gfX0_ends inX0_turn mX0_turn_13 hx hb hts hown hK hP dX0_turn_20 ?_
      refine lv_iload_n hx hb dX0_turn_23 rfl (lv_at hl 1 rfl) ?_
      obtain ⟨hin, h⟩ := q_g h
      refine ldX0_ends hx hb hK hP hin dX0_turn_24 ?_
      refine lv_aload_n hx hb dX0_turn_25 rfl (lv_at hl 0 rfl) ?_
      refine gfX0_begins inX0_turn mX0_turn_9 hx hb hts hown hK hP dX0_turn_26 ?_
      refine lv_iload_n hx hb dX0_turn_29 rfl (lv_at hl 2 rfl) ?_
      obtain ⟨hin, h⟩ := q_g h
      refine ldX0_begins hx hb hK hP hin dX0_turn_30 ?_
      refine lv_icmp_eq (tgt := 37) hx hb dX0_turn_31 (by decide) (fun c9 => ?_) (fun c9 => ?_)
      · have h := q_t h c9
        refine lv_aload_n hx hb dX0_turn_37 rfl (lv_at hl 0 rfl) ?_
        refine lv_iload_n hx hb dX0_turn_38 rfl (lv_at hl 1 rfl) ?_
        refine lv_iload_n hx hb dX0_turn_39 rfl (lv_at hl 2 rfl) ?_
        obtain ⟨r10, g12, h⟩ := q_s h
        refine q_Vi (rest := []) (As := [.int x1, .int x2]) ⟨hx, hb, hml, hown, hts⟩ (kX0_isBarred l dC dI cI cJ cZ ad _ u x1 x2 r10 g12) (cwV 2 hts gX0_turn_X0_isBarred rfl rfl rfl hdX0_isBarred ⟨Nat.le_of_ble_eq_true rfl, Nat.le_of_ble_eq_true rfl⟩) (rvX0 hK hP) hK hP hD hS hA rfl hl.1 (Nat.le_of_ble_eq_true rfl) rfl dX0_turn_40 ⟨Nat.zero_le _, Nat.zero_le _⟩ (fun H locs hP hD hS => ?_)
        refine lv_iload_n hx hb dX0_turn_43 rfl (lv_at hl 3 rfl) ?_
        refine lv_icmp_eq (tgt := 82) hx hb dX0_turn_44 (by decide) (fun c13 => ?_) (fun c13 => ?_)
        · have h := q_t h c13
          refine lv_aload_n hx hb dX0_turn_82 rfl (lv_at hl 0 rfl) ?_
          refine gfX0_barredCount inX0_turn mX0_turn_88 hx hb hts hown hK hP dX0_turn_83 ?_
          exact q_iret hx hb hr hlocks hK hP hD hS (q_p h).1 (q_p h).2 dX0_turn_86
        · have h := q_f h c13
          refine lv_aload_n hx hb dX0_turn_47 rfl (lv_at hl 0 rfl) ?_
          refine gfX0_barredBits inX0_turn mX0_turn_29 hx hb hts hown hK hP dX0_turn_48 ?_
          refine lv_iload_n hx hb dX0_turn_51 rfl (lv_at hl 1 rfl) ?_
          refine lv_iload_n hx hb dX0_turn_52 rfl (lv_at hl 2 rfl) ?_
          obtain ⟨r14, g16, h⟩ := q_s h
          refine q_Si (rest := [.ref (ad 7)]) (As := [.int x1, .int x2]) ⟨hx, hb, hml, hown, hts⟩ (kX0_wordOfTurn l dC dI cI cJ cZ ad _ u x1 x2 r14 g16) (va_cwS 2 hts gX0_turn_X0_wordOfTurn rfl rfl rfl hdX0_wordOfTurn ⟨Nat.le_of_ble_eq_true rfl, Nat.le_of_ble_eq_true rfl⟩) hK hP hD hS hA rfl hl.1 (Nat.le_of_ble_eq_true rfl) rfl dX0_turn_53 ⟨Nat.zero_le _, Nat.zero_le _⟩ (fun H locs hP hD hS => ?_)
          refine lv_dup2_11 hx hb dX0_turn_56 rfl rfl ?_
          obtain ⟨hin, h⟩ := q_g h
          refine ldX0_barredBits hx hb hK hP hin dX0_turn_57 ?_
          refine lv_iload_n hx hb dX0_turn_58 rfl (lv_at hl 2 rfl) ?_
          obtain ⟨r17, g19, h⟩ := q_s h
          refine q_Sl (rest := [.long (gl u 4 r14.toNatClampNeg), .int r14, .ref (ad 7)]) (As := [.int x2]) ⟨hx, hb, hml, hown, hts⟩ (kX0_bitOfTurn l dC dI cI cJ cZ ad _ u x2 r17 g19) (va_cwS 1 hts gX0_turn_X0_bitOfTurn rfl rfl rfl hdX0_bitOfTurn ⟨Nat.le_of_ble_eq_true rfl, Nat.le_of_ble_eq_true rfl⟩) hK hP hD hS hA rfl hl.1 (Nat.le_of_ble_eq_true rfl) rfl dX0_turn_59 ⟨Nat.zero_le _, Nat.zero_le _⟩ (fun H locs hP hD hS => ?_)
          refine lv_lxor hx hb dX0_turn_62 ?_
          obtain ⟨hin, h⟩ := q_g h
          obtain ⟨u20, eu20, h⟩ := q_l h
          refine stX0_barredBits hx hb hK hP hD hS hin eu20 dX0_turn_63 (fun H locs hP hD hS => ?_)
          refine lv_aload_n hx hb dX0_turn_64 rfl (lv_at hl 0 rfl) ?_
          refine lv_dup hx hb dX0_turn_65 rfl ?_
          refine gfX0_barredCount inX0_turn mX0_turn_88 hx hb hts hown hK hP dX0_turn_66 ?_
          refine lv_iload_n hx hb dX0_turn_69 rfl (lv_at hl 3 rfl) ?_
          refine lv_if_eq (tgt := 77) hx hb dX0_turn_70 (by decide) (fun c21 => ?_) (fun c21 => ?_)
          · have h := q_t h c21
            refine lv_iconst (v := (-1 : Int32)) hx hb dX0_turn_77 (by decide) ?_
            refine lv_iadd hx hb dX0_turn_78 ?_
            obtain ⟨u22, eu22, h⟩ := q_l h
            refine pfX0_barredCount inX0_turn mX0_turn_88 hx hb hts hown hK hP hD hS eu22 dX0_turn_79 (fun H locs hP hD hS => ?_)
            refine lv_aload_n hx hb dX0_turn_82 rfl (lv_at hl 0 rfl) ?_
            refine gfX0_barredCount inX0_turn mX0_turn_88 hx hb hts hown hK hP dX0_turn_83 ?_
            exact q_iret hx hb hr hlocks hK hP hD hS (q_p h).1 (q_p h).2 dX0_turn_86
          · have h := q_f h c21
            refine lv_iconst (v := (1 : Int32)) hx hb dX0_turn_73 (by decide) ?_
            refine lv_goto (tgt := 78) hx hb dX0_turn_74 (by decide) ?_
            refine lv_iadd hx hb dX0_turn_78 ?_
            obtain ⟨u23, eu23, h⟩ := q_l h
            refine pfX0_barredCount inX0_turn mX0_turn_88 hx hb hts hown hK hP hD hS eu23 dX0_turn_79 (fun H locs hP hD hS => ?_)
            refine lv_aload_n hx hb dX0_turn_82 rfl (lv_at hl 0 rfl) ?_
            refine gfX0_barredCount inX0_turn mX0_turn_88 hx hb hts hown hK hP dX0_turn_83 ?_
            exact q_iret hx hb hr hlocks hK hP hD hS (q_p h).1 (q_p h).2 dX0_turn_86
      · have h := q_f h c9
        refine lv_bipush (v := (-13 : Int32)) hx hb dX0_turn_34 (by decide) ?_
        exact q_iret hx hb hr hlocks hK hP hD hS (q_p h).1 (q_p h).2 dX0_turn_36
    · have h := q_t h c8
      refine lv_bipush (v := (-11 : Int32)) hx hb dX0_turn_16 (by decide) ?_
      exact q_iret hx hb hr hlocks hK hP hD hS (q_p h).1 (q_p h).2 dX0_turn_18
set_option maxHeartbeats 4000000 in
set_option maxRecDepth 100000 in
theorem kX0_stop (l : Launch) (dC : Nat → ClassId) (dI : Nat → Nat → Nat) (cI cJ cZ : ClassId) (ad : Nat → Nat) (sz : Nat) (u : gS) (x1 : Int32) (x2 : Int32) (x3 : Int64) (r9 : Int32) (u9 : gS) (h : fX0_stop u x1 x2 x3 = some (r9, u9)) : Ki l yX0_stop wsX0_stop rmX0_stop (dC, dI) vwCl (tyS cI cJ cZ) (wX0 cI cJ cZ ad) sz u [.ref (ad 0), .int x1, .int x2, .long x3] r9 u9 := by
  refine g_ofW (cc := cX0_stop) (maxL := 5) (ret := (some .int)) (wf := (wX0 cI cJ cZ ad)) (u := u) (Qf := fun A => va_Qi (fun r1 u1 => r1 = r9 ∧ u1 = u9) (gAt (dC, dI) vwCl (tyS cI cJ cZ) A (wX0 cI cJ cZ ad)) A) (by decide) rfl (Nat.le_of_ble_eq_true rfl) ?_
  intro p e s m below meth c A ls C0 hK hP hD hA hl
  have hS : va_S A s.heap s.heap [] := va_S.rf
  obtain ⟨hx, hb, hml, hown, hts, hr, hlocks⟩ := id C0
  have hl : lv_has ls 5 [(0, .ref ((ad 0))), (1, .int x1), (2, .int x2), (3, .long x3)] := hl
  unfold fX0_stop at h
  refine lv_aload_n hx hb dX0_stop_0 rfl (lv_at hl 0 rfl) ?_
  refine lv_iload_n hx hb dX0_stop_1 rfl (lv_at hl 1 rfl) ?_
  obtain ⟨r1, g3, h⟩ := q_s h
  refine q_Vi (rest := []) (As := [.int x1]) ⟨hx, hb, hml, hown, hts⟩ (kX0_isPiece l dC dI cI cJ cZ ad _ u x1 r1 g3) (cwV 1 hts gX0_stop_X0_isPiece rfl rfl rfl hdX0_isPiece ⟨Nat.le_of_ble_eq_true rfl, Nat.le_of_ble_eq_true rfl⟩) (rvX0 hK hP) hK hP hD hS hA rfl hl.1 (Nat.le_of_ble_eq_true rfl) rfl dX0_stop_2 ⟨Nat.zero_le _, Nat.zero_le _⟩ (fun H locs hP hD hS => ?_)
  refine lv_if_ne (tgt := 11) hx hb dX0_stop_5 (by decide) (fun c4 => ?_) (fun c4 => ?_)
  · have h := q_f h c4
    refine lv_iload_n hx hb dX0_stop_11 rfl (lv_at hl 2 rfl) ?_
    refine lv_if_lt (tgt := 37) hx hb dX0_stop_12 (by decide) (fun c5 => ?_) (fun c5 => ?_)
    · have h := q_t h c5
      refine lv_bipush (v := (-12 : Int32)) hx hb dX0_stop_37 (by decide) ?_
      exact q_iret hx hb hr hlocks hK hP hD hS (q_p h).1 (q_p h).2 dX0_stop_39
    · have h := q_f h c5
      refine lv_iload_n hx hb dX0_stop_15 rfl (lv_at hl 2 rfl) ?_
      refine lv_iconst (v := (1 : Int32)) hx hb dX0_stop_16 (by decide) ?_
      refine lv_icmp_gt (tgt := 37) hx hb dX0_stop_17 (by decide) (fun c6 => ?_) (fun c6 => ?_)
      · have h := q_t h c6
        refine lv_bipush (v := (-12 : Int32)) hx hb dX0_stop_37 (by decide) ?_
        exact q_iret hx hb hr hlocks hK hP hD hS (q_p h).1 (q_p h).2 dX0_stop_39
      · have h := q_f h c6
        refine lv_lload_n hx hb dX0_stop_20 rfl (lv_at hl 3 rfl) ?_
        refine lv_lconst (v := (0 : Int64)) hx hb dX0_stop_21 (by decide) ?_
        refine q_lc_lt (tgt := 37) hx hb dX0_stop_22 dX0_stop_23 (by decide) (fun c7 => ?_) (fun c7 => ?_)
        · have h := q_t h c7
          refine lv_bipush (v := (-12 : Int32)) hx hb dX0_stop_37 (by decide) ?_
          exact q_iret hx hb hr hlocks hK hP hD hS (q_p h).1 (q_p h).2 dX0_stop_39
        · have h := q_f h c7
          refine lv_lload_n hx hb dX0_stop_26 rfl (lv_at hl 3 rfl) ?_
          refine lv_aload_n hx hb dX0_stop_27 rfl (lv_at hl 0 rfl) ?_
          refine gfX0_lengths inX0_stop mX0_stop_16 hx hb hts hown hK hP dX0_stop_28 ?_
          refine lv_iload_n hx hb dX0_stop_31 rfl (lv_at hl 1 rfl) ?_
          obtain ⟨hin, h⟩ := q_g h
          refine ldX0_lengths hx hb hK hP hin dX0_stop_32 ?_
          refine q_lc_le (tgt := 40) hx hb dX0_stop_33 dX0_stop_34 (by decide) (fun c8 => ?_) (fun c8 => ?_)
          · have h := q_t h c8
            refine lv_aload_n hx hb dX0_stop_40 rfl (lv_at hl 0 rfl) ?_
            refine gfX0_stopCount inX0_stop mX0_stop_91 hx hb hts hown hK hP dX0_stop_41 ?_
            refine lv_bipush (v := (100 : Int32)) hx hb dX0_stop_44 (by decide) ?_
            refine lv_icmp_lt (tgt := 52) hx hb dX0_stop_46 (by decide) (fun c9 => ?_) (fun c9 => ?_)
            · have h := q_t h c9
              refine lv_aload_n hx hb dX0_stop_52 rfl (lv_at hl 0 rfl) ?_
              refine gfX0_stopPieces inX0_stop mX0_stop_32 hx hb hts hown hK hP dX0_stop_53 ?_
              refine lv_aload_n hx hb dX0_stop_56 rfl (lv_at hl 0 rfl) ?_
              refine gfX0_stopCount inX0_stop mX0_stop_91 hx hb hts hown hK hP dX0_stop_57 ?_
              refine lv_iload_n hx hb dX0_stop_60 rfl (lv_at hl 1 rfl) ?_
              obtain ⟨hin, h⟩ := q_g h
              obtain ⟨u10, eu10, h⟩ := q_l h
              refine stX0_stopPieces hx hb hK hP hD hS hin eu10 dX0_stop_61 (fun H locs hP hD hS => ?_)
              refine lv_aload_n hx hb dX0_stop_62 rfl (lv_at hl 0 rfl) ?_
              refine gfX0_stopSides inX0_stop mX0_stop_35 hx hb hts hown hK hP dX0_stop_63 ?_
              refine lv_aload_n hx hb dX0_stop_66 rfl (lv_at hl 0 rfl) ?_
              refine gfX0_stopCount inX0_stop mX0_stop_91 hx hb hts hown hK hP dX0_stop_67 ?_
              refine lv_iload_n hx hb dX0_stop_70 rfl (lv_at hl 2 rfl) ?_
              obtain ⟨hin, h⟩ := q_g h
              obtain ⟨u11, eu11, h⟩ := q_l h
              refine stX0_stopSides hx hb hK hP hD hS hin eu11 dX0_stop_71 (fun H locs hP hD hS => ?_)
              refine lv_aload_n hx hb dX0_stop_72 rfl (lv_at hl 0 rfl) ?_
              refine gfX0_stopMetres inX0_stop mX0_stop_38 hx hb hts hown hK hP dX0_stop_73 ?_
              refine lv_aload_n hx hb dX0_stop_76 rfl (lv_at hl 0 rfl) ?_
              refine gfX0_stopCount inX0_stop mX0_stop_91 hx hb hts hown hK hP dX0_stop_77 ?_
              refine lv_lload_n hx hb dX0_stop_80 rfl (lv_at hl 3 rfl) ?_
              obtain ⟨hin, h⟩ := q_g h
              obtain ⟨u12, eu12, h⟩ := q_l h
              refine stX0_stopMetres hx hb hK hP hD hS hin eu12 dX0_stop_81 (fun H locs hP hD hS => ?_)
              refine lv_aload_n hx hb dX0_stop_82 rfl (lv_at hl 0 rfl) ?_
              refine lv_dup hx hb dX0_stop_83 rfl ?_
              refine gfX0_stopCount inX0_stop mX0_stop_91 hx hb hts hown hK hP dX0_stop_84 ?_
              refine lv_iconst (v := (1 : Int32)) hx hb dX0_stop_87 (by decide) ?_
              refine lv_iadd hx hb dX0_stop_88 ?_
              obtain ⟨u13, eu13, h⟩ := q_l h
              refine pfX0_stopCount inX0_stop mX0_stop_91 hx hb hts hown hK hP hD hS eu13 dX0_stop_89 (fun H locs hP hD hS => ?_)
              refine lv_aload_n hx hb dX0_stop_92 rfl (lv_at hl 0 rfl) ?_
              refine gfX0_stopCount inX0_stop mX0_stop_91 hx hb hts hown hK hP dX0_stop_93 ?_
              refine lv_iconst (v := (1 : Int32)) hx hb dX0_stop_96 (by decide) ?_
              refine lv_isub hx hb dX0_stop_97 ?_
              exact q_iret hx hb hr hlocks hK hP hD hS (q_p h).1 (q_p h).2 dX0_stop_98
            · have h := q_f h c9
              refine lv_bipush (v := (-14 : Int32)) hx hb dX0_stop_49 (by decide) ?_
              exact q_iret hx hb hr hlocks hK hP hD hS (q_p h).1 (q_p h).2 dX0_stop_51
          · have h := q_f h c8
            refine lv_bipush (v := (-12 : Int32)) hx hb dX0_stop_37 (by decide) ?_
            exact q_iret hx hb hr hlocks hK hP hD hS (q_p h).1 (q_p h).2 dX0_stop_39
  · have h := q_t h c4
    refine lv_bipush (v := (-11 : Int32)) hx hb dX0_stop_8 (by decide) ?_
    exact q_iret hx hb hr hlocks hK hP hD hS (q_p h).1 (q_p h).2 dX0_stop_10
set_option maxHeartbeats 4000000 in
set_option maxRecDepth 100000 in
theorem kX0_isStop (l : Launch) (dC : Nat → ClassId) (dI : Nat → Nat → Nat) (cI cJ cZ : ClassId) (ad : Nat → Nat) (sz : Nat) (u : gS) (x1 : Int32) (r9 : Int32) (h : fX0_isStop u x1 = some r9) : Ki l yX0_isStop wsX0_isStop rmX0_isStop (dC, dI) vwCl (tyS cI cJ cZ) (wX0 cI cJ cZ ad) sz u [.ref (ad 0), .int x1] r9 u := by
  refine g_ofW (cc := cX0_isStop) (maxL := 2) (ret := (some .boolean)) (wf := (wX0 cI cJ cZ ad)) (u := u) (Qf := fun A => va_Qi (fun r1 u1 => r1 = r9 ∧ u1 = u) (gAt (dC, dI) vwCl (tyS cI cJ cZ) A (wX0 cI cJ cZ ad)) A) (by decide) rfl (Nat.le_of_ble_eq_true rfl) ?_
  intro p e s m below meth c A ls C0 hK hP hD hA hl
  have hS : va_S A s.heap s.heap [] := va_S.rf
  obtain ⟨hx, hb, hml, hown, hts, hr, hlocks⟩ := id C0
  have hl : lv_has ls 2 [(0, .ref ((ad 0))), (1, .int x1)] := hl
  unfold fX0_isStop at h
  refine lv_iload_n hx hb dX0_isStop_0 rfl (lv_at hl 1 rfl) ?_
  refine lv_if_lt (tgt := 16) hx hb dX0_isStop_1 (by decide) (fun c1 => ?_) (fun c1 => ?_)
  · have h := q_t h c1
    refine lv_iconst (v := (0 : Int32)) hx hb dX0_isStop_16 (by decide) ?_
    exact q_zret hx hb hr hlocks hK hP hD hS rfl (Option.some.inj h) rfl dX0_isStop_17
  · have h := q_f h c1
    refine lv_iload_n hx hb dX0_isStop_4 rfl (lv_at hl 1 rfl) ?_
    refine lv_aload_n hx hb dX0_isStop_5 rfl (lv_at hl 0 rfl) ?_
    refine gfX0_stopCount inX0_isStop mX0_isStop_91 hx hb hts hown hK hP dX0_isStop_6 ?_
    refine lv_icmp_ge (tgt := 16) hx hb dX0_isStop_9 (by decide) (fun c2 => ?_) (fun c2 => ?_)
    · have h := q_t h c2
      refine lv_iconst (v := (0 : Int32)) hx hb dX0_isStop_16 (by decide) ?_
      exact q_zret hx hb hr hlocks hK hP hD hS rfl (Option.some.inj h) rfl dX0_isStop_17
    · have h := q_f h c2
      refine lv_iconst (v := (1 : Int32)) hx hb dX0_isStop_12 (by decide) ?_
      refine lv_goto (tgt := 17) hx hb dX0_isStop_13 (by decide) ?_
      exact q_zret hx hb hr hlocks hK hP hD hS rfl (Option.some.inj h) rfl dX0_isStop_17
set_option maxHeartbeats 4000000 in
set_option maxRecDepth 100000 in
theorem kX0_secondsAcross (l : Launch) (dC : Nat → ClassId) (dI : Nat → Nat → Nat) (cI cJ cZ : ClassId) (ad : Nat → Nat) (sz : Nat) (u : gS) (x1 : Int32) (r9 : Int64) (h : fX0_secondsAcross u x1 = some r9) : Kl l yX0_secondsAcross wsX0_secondsAcross rmX0_secondsAcross (dC, dI) vwCl (tyS cI cJ cZ) (wX0 cI cJ cZ ad) sz u [.ref (ad 0), .int x1] r9 u := by
  refine g_ofW (cc := cX0_secondsAcross) (maxL := 2) (ret := (some .long)) (wf := (wX0 cI cJ cZ ad)) (u := u) (Qf := fun A => va_Ql (fun r1 u1 => r1 = r9 ∧ u1 = u) (gAt (dC, dI) vwCl (tyS cI cJ cZ) A (wX0 cI cJ cZ ad)) A) (by decide) rfl (Nat.le_of_ble_eq_true rfl) ?_
  intro p e s m below meth c A ls C0 hK hP hD hA hl
  have hS : va_S A s.heap s.heap [] := va_S.rf
  obtain ⟨hx, hb, hml, hown, hts, hr, hlocks⟩ := id C0
  have hl : lv_has ls 2 [(0, .ref ((ad 0))), (1, .int x1)] := hl
  unfold fX0_secondsAcross at h
  refine lv_aload_n hx hb dX0_secondsAcross_0 rfl (lv_at hl 0 rfl) ?_
  refine gfX0_stopSides inX0_secondsAcross mX0_secondsAcross_35 hx hb hts hown hK hP dX0_secondsAcross_1 ?_
  refine lv_iload_n hx hb dX0_secondsAcross_4 rfl (lv_at hl 1 rfl) ?_
  obtain ⟨hin, h⟩ := q_g h
  refine ldX0_stopSides hx hb hK hP hin dX0_secondsAcross_5 ?_
  refine lv_iconst (v := (1 : Int32)) hx hb dX0_secondsAcross_6 (by decide) ?_
  refine lv_icmp_ne (tgt := 16) hx hb dX0_secondsAcross_7 (by decide) (fun c1 => ?_) (fun c1 => ?_)
  · have h := q_f h c1
    refine lv_lconst (v := (0 : Int64)) hx hb dX0_secondsAcross_16 (by decide) ?_
    exact q_lret hx hb hr hlocks hK hP hD hS (Option.some.inj h) rfl dX0_secondsAcross_17
  · have h := q_t h c1
    refine lv_ldc2 hx hb hown (hts _ mX0_secondsAcross_143) dX0_secondsAcross_10 ?_
    refine lv_goto (tgt := 17) hx hb dX0_secondsAcross_13 (by decide) ?_
    exact q_lret hx hb hr hlocks hK hP hD hS (Option.some.inj h) rfl dX0_secondsAcross_17
set_option maxHeartbeats 4000000 in
set_option maxRecDepth 100000 in
theorem kX0_isStraightOn (l : Launch) (dC : Nat → ClassId) (dI : Nat → Nat → Nat) (cI cJ cZ : ClassId) (ad : Nat → Nat) (sz : Nat) (u : gS) (x1 : Int32) (x2 : Int32) (r9 : Int32) (h : fX0_isStraightOn u x1 x2 = some r9) : Ki l yX0_isStraightOn wsX0_isStraightOn rmX0_isStraightOn (dC, dI) vwCl (tyS cI cJ cZ) (wX0 cI cJ cZ ad) sz u [.ref (ad 0), .int x1, .int x2] r9 u := by
  refine g_ofW (cc := cX0_isStraightOn) (maxL := 3) (ret := (some .boolean)) (wf := (wX0 cI cJ cZ ad)) (u := u) (Qf := fun A => va_Qi (fun r1 u1 => r1 = r9 ∧ u1 = u) (gAt (dC, dI) vwCl (tyS cI cJ cZ) A (wX0 cI cJ cZ ad)) A) (by decide) rfl (Nat.le_of_ble_eq_true rfl) ?_
  intro p e s m below meth c A ls C0 hK hP hD hA hl
  have hS : va_S A s.heap s.heap [] := va_S.rf
  obtain ⟨hx, hb, hml, hown, hts, hr, hlocks⟩ := id C0
  have hl : lv_has ls 3 [(0, .ref ((ad 0))), (1, .int x1), (2, .int x2)] := hl
  unfold fX0_isStraightOn at h
  refine lv_aload_n hx hb dX0_isStraightOn_0 rfl (lv_at hl 0 rfl) ?_
  refine gfX0_stopPieces inX0_isStraightOn mX0_isStraightOn_32 hx hb hts hown hK hP dX0_isStraightOn_1 ?_
  refine lv_iload_n hx hb dX0_isStraightOn_4 rfl (lv_at hl 1 rfl) ?_
  obtain ⟨hin, h⟩ := q_g h
  refine ldX0_stopPieces hx hb hK hP hin dX0_isStraightOn_5 ?_
  refine lv_aload_n hx hb dX0_isStraightOn_6 rfl (lv_at hl 0 rfl) ?_
  refine gfX0_stopPieces inX0_isStraightOn mX0_isStraightOn_32 hx hb hts hown hK hP dX0_isStraightOn_7 ?_
  refine lv_iload_n hx hb dX0_isStraightOn_10 rfl (lv_at hl 2 rfl) ?_
  obtain ⟨hin, h⟩ := q_g h
  refine ldX0_stopPieces hx hb hK hP hin dX0_isStraightOn_11 ?_
  refine lv_icmp_ne (tgt := 35) hx hb dX0_isStraightOn_12 (by decide) (fun c1 => ?_) (fun c1 => ?_)
  · have h := q_f h c1
    refine lv_iconst (v := (0 : Int32)) hx hb dX0_isStraightOn_35 (by decide) ?_
    exact q_zret hx hb hr hlocks hK hP hD hS rfl (Option.some.inj h) rfl dX0_isStraightOn_36
  · have h := q_t h c1
    refine lv_aload_n hx hb dX0_isStraightOn_15 rfl (lv_at hl 0 rfl) ?_
    refine gfX0_stopMetres inX0_isStraightOn mX0_isStraightOn_38 hx hb hts hown hK hP dX0_isStraightOn_16 ?_
    refine lv_iload_n hx hb dX0_isStraightOn_19 rfl (lv_at hl 1 rfl) ?_
    obtain ⟨hin, h⟩ := q_g h
    refine ldX0_stopMetres hx hb hK hP hin dX0_isStraightOn_20 ?_
    refine lv_aload_n hx hb dX0_isStraightOn_21 rfl (lv_at hl 0 rfl) ?_
    refine gfX0_stopMetres inX0_isStraightOn mX0_isStraightOn_38 hx hb hts hown hK hP dX0_isStraightOn_22 ?_
    refine lv_iload_n hx hb dX0_isStraightOn_25 rfl (lv_at hl 2 rfl) ?_
    obtain ⟨hin, h⟩ := q_g h
    refine ldX0_stopMetres hx hb hK hP hin dX0_isStraightOn_26 ?_
    refine q_lc_gt (tgt := 35) hx hb dX0_isStraightOn_27 dX0_isStraightOn_28 (by decide) (fun c2 => ?_) (fun c2 => ?_)
    · have h := q_t h c2
      refine lv_iconst (v := (0 : Int32)) hx hb dX0_isStraightOn_35 (by decide) ?_
      exact q_zret hx hb hr hlocks hK hP hD hS rfl (Option.some.inj h) rfl dX0_isStraightOn_36
    · have h := q_f h c2
      refine lv_iconst (v := (1 : Int32)) hx hb dX0_isStraightOn_31 (by decide) ?_
      refine lv_goto (tgt := 36) hx hb dX0_isStraightOn_32 (by decide) ?_
      exact q_zret hx hb hr hlocks hK hP hD hS rfl (Option.some.inj h) rfl dX0_isStraightOn_36
set_option maxHeartbeats 4000000 in
set_option maxRecDepth 100000 in
theorem kX0_secondsFor (l : Launch) (dC : Nat → ClassId) (dI : Nat → Nat → Nat) (cI cJ cZ : ClassId) (ad : Nat → Nat) (sz : Nat) (u : gS) (x1 : Int32) (x2 : Int64) (r9 : Int64) (h : fX0_secondsFor u x1 x2 = some r9) : Kl l yX0_secondsFor wsX0_secondsFor rmX0_secondsFor (dC, dI) vwCl (tyS cI cJ cZ) (wX0 cI cJ cZ ad) sz u [.ref (ad 0), .int x1, .long x2] r9 u := by
  refine g_ofW (cc := cX0_secondsFor) (maxL := 6) (ret := (some .long)) (wf := (wX0 cI cJ cZ ad)) (u := u) (Qf := fun A => va_Ql (fun r1 u1 => r1 = r9 ∧ u1 = u) (gAt (dC, dI) vwCl (tyS cI cJ cZ) A (wX0 cI cJ cZ ad)) A) (by decide) rfl (Nat.le_of_ble_eq_true rfl) ?_
  intro p e s m below meth c A ls C0 hK hP hD hA hl
  have hS : va_S A s.heap s.heap [] := va_S.rf
  obtain ⟨hx, hb, hml, hown, hts, hr, hlocks⟩ := id C0
  have hl : lv_has ls 6 [(0, .ref ((ad 0))), (1, .int x1), (2, .long x2)] := hl
  unfold fX0_secondsFor at h
  refine lv_lconst (v := (1 : Int64)) hx hb dX0_secondsFor_0 (by decide) ?_
  refine lv_aload_n hx hb dX0_secondsFor_1 rfl (lv_at hl 0 rfl) ?_
  refine gfX0_speeds inX0_secondsFor mX0_secondsFor_20 hx hb hts hown hK hP dX0_secondsFor_2 ?_
  refine lv_iload_n hx hb dX0_secondsFor_5 rfl (lv_at hl 1 rfl) ?_
  obtain ⟨hin, h⟩ := q_g h
  refine ldX0_speeds hx hb hK hP hin dX0_secondsFor_6 ?_
  refine va_mmax_long hx hb (by rw [hml]; exact hl.1.symm) hown (hts _ mX0_secondsFor_maxl) (hts _ mX0_secondsFor_maxs) (hts _ mX0_secondsFor_maxi) (hts _ mX0_secondsFor_maxc) (Nat.le_of_ble_eq_true rfl) (Nat.le_of_ble_eq_true rfl) (Nat.zero_le _) (Nat.zero_le _) dX0_secondsFor_7 ?_
  obtain ⟨v1, ev1, h⟩ := q_l h
  refine q_topl ev1 ?_
  refine lv_lstore (lv' := [(4, .long v1), (0, .ref ((ad 0))), (1, .int x1), (2, .long x2)]) hx hb dX0_secondsFor_10 hl (by decide) rfl (fun ls hl => ?_)
  refine lv_ldc2 hx hb hown (hts _ mX0_secondsFor_141) dX0_secondsFor_12 ?_
  refine lv_lload_n hx hb dX0_secondsFor_15 rfl (lv_at hl 3 rfl) ?_
  refine lv_lmul hx hb dX0_secondsFor_16 ?_
  refine lv_lload hx hb dX0_secondsFor_17 (lv_at hl 0 rfl) ?_
  refine lv_ladd hx hb dX0_secondsFor_19 ?_
  refine lv_lconst (v := (1 : Int64)) hx hb dX0_secondsFor_20 (by decide) ?_
  refine lv_lsub hx hb dX0_secondsFor_21 ?_
  refine lv_lload hx hb dX0_secondsFor_22 (lv_at hl 0 rfl) ?_
  obtain ⟨hne, h⟩ := q_g h
  refine lv_ldiv hx hb dX0_secondsFor_24 hne ?_
  exact q_lret hx hb hr hlocks hK hP hD hS (Option.some.inj h) rfl dX0_secondsFor_25
set_option maxHeartbeats 4000000 in
set_option maxRecDepth 100000 in
theorem kX0_forgetLeastTimes_L2 {l : Launch} {dC : Nat → ClassId} {dI : Nat → Nat → Nat} {cI cJ cZ : ClassId} {ad : Nat → Nat} {p : Program} {e : Env} {s : State} {m : MethodId} {below : List Frame} {meth : Method} {c : Code} {A : Nat → Prop} {args : Array Value} {u9 : gS} (C0 : gCtx p s m meth c args cX0_forgetLeastTimes 2 none wsX0_forgetLeastTimes yX0_forgetLeastTimes.cls) (hK : va_K (dC, dI) vwCl (tyS cI cJ cZ) s) (hA : ∀ q, s.heap.size ≤ q → A q) :
    ∀ (n : Nat) (u : gS) (y1 : Int32) (H : Heap) (locs : List Loc) (ls : Array Slot), fX0_forgetLeastTimes_L2 n u y1 = some u9 → va_P (dC, dI) vwCl ((wX0 cI cJ cZ ad) u) H → va_D A ((wX0 cI cJ cZ ad) u) → va_S A s.heap H locs → lv_has ls 2 [(0, .ref ((ad 0))), (1, .int y1)] → W p l e rmX0_forgetLeastTimes s m args below meth c H locs 0 0 (MQ below (va_Qv (fun u1 => u1 = u9) (gAt (dC, dI) vwCl (tyS cI cJ cZ) A (wX0 cI cJ cZ ad)) A) args s 0 0 A) (F0 m 2 ls []) := by
  obtain ⟨hx, hb, hml, hown, hts, hr, hlocks⟩ := id C0
  intro n
  induction n with
  | zero =>
    intro u y1 H locs ls h
    cases h
  | succ n ih2 =>
    intro u y1 H locs ls h hP hD hS hl
    have h : fX0_forgetLeastTimes_L2_b (fX0_forgetLeastTimes_L2 n) u y1 = some u9 := h
    unfold fX0_forgetLeastTimes_L2_b at h
    refine lv_iload_n hx hb dX0_forgetLeastTimes_2 rfl (lv_at hl 1 rfl) ?_
    refine lv_aload_n hx hb dX0_forgetLeastTimes_3 rfl (lv_at hl 0 rfl) ?_
    refine gfX0_pieceCount inX0_forgetLeastTimes mX0_forgetLeastTimes_62 hx hb hts hown hK hP dX0_forgetLeastTimes_4 ?_
    refine lv_icmp_ge (tgt := 41) hx hb dX0_forgetLeastTimes_7 (by decide) (fun c1 => ?_) (fun c1 => ?_)
    · have h := q_t h c1
      exact q_vret hx hb hr hlocks hK hP hD hS (Option.some.inj h) dX0_forgetLeastTimes_41
    · have h := q_f h c1
      refine lv_aload_n hx hb dX0_forgetLeastTimes_10 rfl (lv_at hl 0 rfl) ?_
      refine gfX0_entered inX0_forgetLeastTimes mX0_forgetLeastTimes_41 hx hb hts hown hK hP dX0_forgetLeastTimes_11 ?_
      refine lv_iload_n hx hb dX0_forgetLeastTimes_14 rfl (lv_at hl 1 rfl) ?_
      refine lv_ldc2 hx hb hown (hts _ mX0_forgetLeastTimes_159) dX0_forgetLeastTimes_15 ?_
      obtain ⟨hin, h⟩ := q_g h
      obtain ⟨u2, eu2, h⟩ := q_l h
      refine stX0_entered hx hb hK hP hD hS hin eu2 dX0_forgetLeastTimes_18 (fun H locs hP hD hS => ?_)
      refine lv_aload_n hx hb dX0_forgetLeastTimes_19 rfl (lv_at hl 0 rfl) ?_
      refine gfX0_done inX0_forgetLeastTimes mX0_forgetLeastTimes_44 hx hb hts hown hK hP dX0_forgetLeastTimes_20 ?_
      refine lv_iload_n hx hb dX0_forgetLeastTimes_23 rfl (lv_at hl 1 rfl) ?_
      refine lv_ldc2 hx hb hown (hts _ mX0_forgetLeastTimes_159) dX0_forgetLeastTimes_24 ?_
      obtain ⟨hin, h⟩ := q_g h
      obtain ⟨u3, eu3, h⟩ := q_l h
      refine stX0_done hx hb hK hP hD hS hin eu3 dX0_forgetLeastTimes_27 (fun H locs hP hD hS => ?_)
      refine lv_aload_n hx hb dX0_forgetLeastTimes_28 rfl (lv_at hl 0 rfl) ?_
      refine gfX0_settled inX0_forgetLeastTimes mX0_forgetLeastTimes_47 hx hb hts hown hK hP dX0_forgetLeastTimes_29 ?_
      refine lv_iload_n hx hb dX0_forgetLeastTimes_32 rfl (lv_at hl 1 rfl) ?_
      refine lv_iconst (v := (0 : Int32)) hx hb dX0_forgetLeastTimes_33 (by decide) ?_
      obtain ⟨hin, h⟩ := q_g h
      obtain ⟨u4, eu4, h⟩ := q_l h
      refine stX0_settled hx hb hK hP hD hS hin eu4 dX0_forgetLeastTimes_34 (fun H locs hP hD hS => ?_)
      obtain ⟨v5, ev5, h⟩ := q_l h
      refine lv_iinc (v := v5) (lv' := [(1, .int v5), (0, .ref ((ad 0)))]) hx hb dX0_forgetLeastTimes_35 hl (k := 1) rfl (by rw [ev5]; rfl) (by decide) rfl (fun ls hl => ?_)
      refine lv_goto (tgt := 2) hx hb dX0_forgetLeastTimes_38 (by decide) ?_
      exact ih2 u4 v5 _ _ _ h hP hD hS (lv_sub hl [1, 0] rfl)
set_option maxHeartbeats 4000000 in
set_option maxRecDepth 100000 in
theorem kX0_forgetLeastTimes (l : Launch) (dC : Nat → ClassId) (dI : Nat → Nat → Nat) (cI cJ cZ : ClassId) (ad : Nat → Nat) (sz : Nat) (u : gS) (u9 : gS) (h : fX0_forgetLeastTimes u = some u9) : Kv l yX0_forgetLeastTimes wsX0_forgetLeastTimes rmX0_forgetLeastTimes (dC, dI) vwCl (tyS cI cJ cZ) (wX0 cI cJ cZ ad) sz u [.ref (ad 0)] u9 := by
  refine g_ofW (cc := cX0_forgetLeastTimes) (maxL := 2) (ret := none) (wf := (wX0 cI cJ cZ ad)) (u := u) (Qf := fun A => va_Qv (fun u1 => u1 = u9) (gAt (dC, dI) vwCl (tyS cI cJ cZ) A (wX0 cI cJ cZ ad)) A) (by decide) rfl (Nat.le_of_ble_eq_true rfl) ?_
  intro p e s m below meth c A ls C0 hK hP hD hA hl
  have hS : va_S A s.heap s.heap [] := va_S.rf
  obtain ⟨hx, hb, hml, hown, hts, hr, hlocks⟩ := id C0
  have hl : lv_has ls 2 [(0, .ref ((ad 0)))] := hl
  unfold fX0_forgetLeastTimes at h
  refine lv_iconst (v := (0 : Int32)) hx hb dX0_forgetLeastTimes_0 (by decide) ?_
  refine lv_istore_n (lv' := [(1, .int (0 : Int32)), (0, .ref ((ad 0)))]) hx hb dX0_forgetLeastTimes_1 rfl hl (by decide) rfl (fun ls hl => ?_)
  exact kX0_forgetLeastTimes_L2 C0 hK hA 200 u (0 : Int32) _ _ _ h hP hD hS (lv_sub hl [1, 0] rfl)
set_option maxHeartbeats 4000000 in
set_option maxRecDepth 100000 in
theorem kX0_earliestUnsettled_L9 {l : Launch} {dC : Nat → ClassId} {dI : Nat → Nat → Nat} {cI cJ cZ : ClassId} {ad : Nat → Nat} {p : Program} {e : Env} {s : State} {m : MethodId} {below : List Frame} {meth : Method} {c : Code} {A : Nat → Prop} {args : Array Value} {r9 : Int32} {u : gS} (C0 : gCtx p s m meth c args cX0_earliestUnsettled 5 (some .int) wsX0_earliestUnsettled yX0_earliestUnsettled.cls) (hK : va_K (dC, dI) vwCl (tyS cI cJ cZ) s) (hA : ∀ q, s.heap.size ≤ q → A q) :
    ∀ (n : Nat) (y1 : Int32) (y2 : Int64) (y4 : Int32) (H : Heap) (locs : List Loc) (ls : Array Slot), fX0_earliestUnsettled_L9 n u y1 y2 y4 = some r9 → va_P (dC, dI) vwCl ((wX0 cI cJ cZ ad) u) H → va_D A ((wX0 cI cJ cZ ad) u) → va_S A s.heap H locs → lv_has ls 5 [(0, .ref ((ad 0))), (1, .int y1), (2, .long y2), (4, .int y4)] → W p l e rmX0_earliestUnsettled s m args below meth c H locs 0 0 (MQ below (va_Qi (fun r1 u1 => r1 = r9 ∧ u1 = u) (gAt (dC, dI) vwCl (tyS cI cJ cZ) A (wX0 cI cJ cZ ad)) A) args s 0 0 A) (F0 m 9 ls []) := by
  obtain ⟨hx, hb, hml, hown, hts, hr, hlocks⟩ := id C0
  intro n
  induction n with
  | zero =>
    intro y1 y2 y4 H locs ls h
    cases h
  | succ n ih9 =>
    intro y1 y2 y4 H locs ls h hP hD hS hl
    have h : fX0_earliestUnsettled_L9_b (fX0_earliestUnsettled_L9 n) u y1 y2 y4 = some r9 := h
    unfold fX0_earliestUnsettled_L9_b at h
    refine lv_iload hx hb dX0_earliestUnsettled_9 (lv_at hl 3 rfl) ?_
    refine lv_aload_n hx hb dX0_earliestUnsettled_11 rfl (lv_at hl 0 rfl) ?_
    refine gfX0_pieceCount inX0_earliestUnsettled mX0_earliestUnsettled_62 hx hb hts hown hK hP dX0_earliestUnsettled_12 ?_
    refine lv_icmp_ge (tgt := 57) hx hb dX0_earliestUnsettled_15 (by decide) (fun c1 => ?_) (fun c1 => ?_)
    · have h := q_t h c1
      refine lv_iload_n hx hb dX0_earliestUnsettled_57 rfl (lv_at hl 1 rfl) ?_
      exact q_iret hx hb hr hlocks hK hP hD hS (Option.some.inj h) rfl dX0_earliestUnsettled_58
    · have h := q_f h c1
      refine lv_aload_n hx hb dX0_earliestUnsettled_18 rfl (lv_at hl 0 rfl) ?_
      refine gfX0_settled inX0_earliestUnsettled mX0_earliestUnsettled_47 hx hb hts hown hK hP dX0_earliestUnsettled_19 ?_
      refine lv_iload hx hb dX0_earliestUnsettled_22 (lv_at hl 3 rfl) ?_
      obtain ⟨hin, h⟩ := q_g h
      refine ldX0_settled hx hb hK hP hin dX0_earliestUnsettled_24 ?_
      refine lv_if_ne (tgt := 51) hx hb dX0_earliestUnsettled_25 (by decide) (fun c2 => ?_) (fun c2 => ?_)
      · have h := q_f h c2
        obtain ⟨v3, ev3, h⟩ := q_l h
        refine lv_iinc (v := v3) (lv' := [(4, .int v3), (0, .ref ((ad 0))), (1, .int y1), (2, .long y2)]) hx hb dX0_earliestUnsettled_51 hl (k := 3) rfl (by rw [ev3]; rfl) (by decide) rfl (fun ls hl => ?_)
        refine lv_goto (tgt := 9) hx hb dX0_earliestUnsettled_54 (by decide) ?_
        exact ih9 y1 y2 v3 _ _ _ h hP hD hS (lv_sub hl [1, 2, 3, 0] rfl)
      · have h := q_t h c2
        refine lv_aload_n hx hb dX0_earliestUnsettled_28 rfl (lv_at hl 0 rfl) ?_
        refine gfX0_done inX0_earliestUnsettled mX0_earliestUnsettled_44 hx hb hts hown hK hP dX0_earliestUnsettled_29 ?_
        refine lv_iload hx hb dX0_earliestUnsettled_32 (lv_at hl 3 rfl) ?_
        obtain ⟨hin, h⟩ := q_g h
        refine ldX0_done hx hb hK hP hin dX0_earliestUnsettled_34 ?_
        refine lv_lload_n hx hb dX0_earliestUnsettled_35 rfl (lv_at hl 2 rfl) ?_
        refine q_lc_ge (tgt := 51) hx hb dX0_earliestUnsettled_36 dX0_earliestUnsettled_37 (by decide) (fun c4 => ?_) (fun c4 => ?_)
        · have h := q_t h c4
          obtain ⟨v5, ev5, h⟩ := q_l h
          refine lv_iinc (v := v5) (lv' := [(4, .int v5), (0, .ref ((ad 0))), (1, .int y1), (2, .long y2)]) hx hb dX0_earliestUnsettled_51 hl (k := 3) rfl (by rw [ev5]; rfl) (by decide) rfl (fun ls hl => ?_)
          refine lv_goto (tgt := 9) hx hb dX0_earliestUnsettled_54 (by decide) ?_
          exact ih9 y1 y2 v5 _ _ _ h hP hD hS (lv_sub hl [1, 2, 3, 0] rfl)
        · have h := q_f h c4
          refine lv_iload hx hb dX0_earliestUnsettled_40 (lv_at hl 3 rfl) ?_
          refine lv_istore_n (lv' := [(1, .int y4), (0, .ref ((ad 0))), (2, .long y2), (4, .int y4)]) hx hb dX0_earliestUnsettled_42 rfl hl (by decide) rfl (fun ls hl => ?_)
          refine lv_aload_n hx hb dX0_earliestUnsettled_43 rfl (lv_at hl 1 rfl) ?_
          refine gfX0_done inX0_earliestUnsettled mX0_earliestUnsettled_44 hx hb hts hown hK hP dX0_earliestUnsettled_44 ?_
          refine lv_iload hx hb dX0_earliestUnsettled_47 (lv_at hl 3 rfl) ?_
          obtain ⟨hin, h⟩ := q_g h
          refine ldX0_done hx hb hK hP hin dX0_earliestUnsettled_49 ?_
          obtain ⟨v6, ev6, h⟩ := q_l h
          refine q_topl ev6 ?_
          refine lv_lstore_n (lv' := [(2, .long v6), (1, .int y4), (0, .ref ((ad 0))), (4, .int y4)]) hx hb dX0_earliestUnsettled_50 rfl hl (by decide) rfl (fun ls hl => ?_)
          obtain ⟨v7, ev7, h⟩ := q_l h
          refine lv_iinc (v := v7) (lv' := [(4, .int v7), (2, .long v6), (1, .int y4), (0, .ref ((ad 0)))]) hx hb dX0_earliestUnsettled_51 hl (k := 3) rfl (by rw [ev7]; rfl) (by decide) rfl (fun ls hl => ?_)
          refine lv_goto (tgt := 9) hx hb dX0_earliestUnsettled_54 (by decide) ?_
          exact ih9 y4 v6 v7 _ _ _ h hP hD hS (lv_sub hl [3, 2, 1, 0] rfl)
set_option maxHeartbeats 4000000 in
set_option maxRecDepth 100000 in
theorem kX0_earliestUnsettled (l : Launch) (dC : Nat → ClassId) (dI : Nat → Nat → Nat) (cI cJ cZ : ClassId) (ad : Nat → Nat) (sz : Nat) (u : gS) (r9 : Int32) (h : fX0_earliestUnsettled u = some r9) : Ki l yX0_earliestUnsettled wsX0_earliestUnsettled rmX0_earliestUnsettled (dC, dI) vwCl (tyS cI cJ cZ) (wX0 cI cJ cZ ad) sz u [.ref (ad 0)] r9 u := by
  refine g_ofW (cc := cX0_earliestUnsettled) (maxL := 5) (ret := (some .int)) (wf := (wX0 cI cJ cZ ad)) (u := u) (Qf := fun A => va_Qi (fun r1 u1 => r1 = r9 ∧ u1 = u) (gAt (dC, dI) vwCl (tyS cI cJ cZ) A (wX0 cI cJ cZ ad)) A) (by decide) rfl (Nat.le_of_ble_eq_true rfl) ?_
  intro p e s m below meth c A ls C0 hK hP hD hA hl
  have hS : va_S A s.heap s.heap [] := va_S.rf
  obtain ⟨hx, hb, hml, hown, hts, hr, hlocks⟩ := id C0
  have hl : lv_has ls 5 [(0, .ref ((ad 0)))] := hl
  unfold fX0_earliestUnsettled at h
  refine lv_iconst (v := (-1 : Int32)) hx hb dX0_earliestUnsettled_0 (by decide) ?_
  refine lv_istore_n (lv' := [(1, .int (-1 : Int32)), (0, .ref ((ad 0)))]) hx hb dX0_earliestUnsettled_1 rfl hl (by decide) rfl (fun ls hl => ?_)
  refine lv_ldc2 hx hb hown (hts _ mX0_earliestUnsettled_159) dX0_earliestUnsettled_2 ?_
  refine lv_lstore_n (lv' := [(2, .long (4000000000000000000 : Int64)), (1, .int (-1 : Int32)), (0, .ref ((ad 0)))]) hx hb dX0_earliestUnsettled_5 rfl hl (by decide) rfl (fun ls hl => ?_)
  refine lv_iconst (v := (0 : Int32)) hx hb dX0_earliestUnsettled_6 (by decide) ?_
  refine lv_istore (lv' := [(4, .int (0 : Int32)), (2, .long (4000000000000000000 : Int64)), (1, .int (-1 : Int32)), (0, .ref ((ad 0)))]) hx hb dX0_earliestUnsettled_7 hl (by decide) rfl (fun ls hl => ?_)
  exact kX0_earliestUnsettled_L9 C0 hK hA 200 (-1 : Int32) (4000000000000000000 : Int64) (0 : Int32) _ _ _ h hP hD hS (lv_sub hl [3, 2, 1, 0] rfl)
