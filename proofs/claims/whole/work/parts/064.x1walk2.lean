set_option maxHeartbeats 4000000 in
set_option maxRecDepth 100000 in
theorem kX1_straight (l : Launch) (dC : Nat → ClassId) (dI : Nat → Nat → Nat) (cI cJ cZ : ClassId) (ad : Nat → Nat) (sz : Nat) (u : gS) (x1 : Int32) (x2 : Int32) (x3 : Int64) (r9 : Int64) (h : fX1_straight u x1 x2 x3 = some r9) : Kl l yX1_straight wsX1_straight rmX1_straight (dC, dI) vwCl (tyS cI cJ cZ) (wX1 cI cJ cZ ad) sz u [.ref (ad 0), .int x1, .int x2, .long x3] r9 u := by
  refine g_ofW (cc := cX1_straight) (maxL := 6) (ret := (some .long)) (wf := (wX1 cI cJ cZ ad)) (u := u) (Qf := fun A => va_Ql (fun r1 u1 => r1 = r9 ∧ u1 = u) (gAt (dC, dI) vwCl (tyS cI cJ cZ) A (wX1 cI cJ cZ ad)) A) (by decide) rfl (Nat.le_of_ble_eq_true rfl) ?_
  intro p e s m below meth c A ls C0 hK hP hD hA hl
  have hS : va_S A s.heap s.heap [] := va_S.rf
  obtain ⟨hx, hb, hml, hown, hts, hr, hlocks⟩ := id C0
  have hl : lv_has ls 6 [(0, .ref ((ad 0))), (1, .int x1), (2, .int x2), (3, .long x3)] := hl
  unfold fX1_straight at h
  refine lv_aload_n hx hb dX1_straight_0 rfl (lv_at hl 0 rfl) ?_
  refine gfX1_on inX1_straight mX1_straight_33 hx hb hts hown hK hP dX1_straight_1 ?_
  refine lv_iload_n hx hb dX1_straight_4 rfl (lv_at hl 1 rfl) ?_
  obtain ⟨hin, h⟩ := q_g h
  refine ldX1_on hx hb hK hP hin dX1_straight_5 ?_
  refine lv_aload_n hx hb dX1_straight_6 rfl (lv_at hl 0 rfl) ?_
  refine gfX1_on inX1_straight mX1_straight_33 hx hb hts hown hK hP dX1_straight_7 ?_
  refine lv_iload_n hx hb dX1_straight_10 rfl (lv_at hl 2 rfl) ?_
  obtain ⟨hin, h⟩ := q_g h
  refine ldX1_on hx hb hK hP hin dX1_straight_11 ?_
  refine lv_icmp_ne (tgt := 35) hx hb dX1_straight_12 (by decide) (fun c1 => ?_) (fun c1 => ?_)
  · have h := q_f h c1
    refine lv_iconst (v := (0 : Int32)) hx hb dX1_straight_35 (by decide) ?_
    refine lv_istore (lv' := [(5, .int (0 : Int32)), (0, .ref ((ad 0))), (1, .int x1), (2, .int x2), (3, .long x3)]) hx hb dX1_straight_36 hl (by decide) rfl (fun ls hl => ?_)
    refine lv_iload hx hb dX1_straight_38 (lv_at hl 0 rfl) ?_
    refine lv_if_eq (tgt := 83) hx hb dX1_straight_40 (by decide) (fun c2 => ?_) (fun c2 => ?_)
    · have h := q_t h c2
      refine lv_ldc2 hx hb hown (hts _ mX1_straight_89) dX1_straight_83 ?_
      exact q_lret hx hb hr hlocks hK hP hD hS (Option.some.inj h) rfl dX1_straight_86
    · have h := q_f h c2
      refine lv_lload_n hx hb dX1_straight_43 rfl (lv_at hl 4 rfl) ?_
      refine lv_aload_n hx hb dX1_straight_44 rfl (lv_at hl 1 rfl) ?_
      refine lv_iload_n hx hb dX1_straight_45 rfl (lv_at hl 2 rfl) ?_
      obtain ⟨r3, g5, h⟩ := q_s h
      refine q_Vl (rest := [.long x3]) (As := [.int x1]) ⟨hx, hb, hml, hown, hts⟩ (kX1_crossing l dC dI cI cJ cZ ad _ u x1 r3 g5) (cwV 1 hts gX1_straight_X1_crossing rfl rfl rfl hdX1_crossing ⟨Nat.le_of_ble_eq_true rfl, Nat.le_of_ble_eq_true rfl⟩) (rvX1 hK hP) hK hP hD hS hA rfl hl.1 (Nat.le_of_ble_eq_true rfl) rfl dX1_straight_46 ⟨Nat.zero_le _, Nat.zero_le _⟩ (fun H locs hP hD hS => ?_)
      refine lv_ladd hx hb dX1_straight_49 ?_
      refine lv_aload_n hx hb dX1_straight_50 rfl (lv_at hl 1 rfl) ?_
      refine lv_aload_n hx hb dX1_straight_51 rfl (lv_at hl 1 rfl) ?_
      refine gfX1_on inX1_straight mX1_straight_33 hx hb hts hown hK hP dX1_straight_52 ?_
      refine lv_iload_n hx hb dX1_straight_55 rfl (lv_at hl 2 rfl) ?_
      obtain ⟨hin, h⟩ := q_g h
      refine ldX1_on hx hb hK hP hin dX1_straight_56 ?_
      refine lv_aload_n hx hb dX1_straight_57 rfl (lv_at hl 1 rfl) ?_
      refine gfX1_at inX1_straight mX1_straight_39 hx hb hts hown hK hP dX1_straight_58 ?_
      refine lv_iload_n hx hb dX1_straight_61 rfl (lv_at hl 3 rfl) ?_
      obtain ⟨hin, h⟩ := q_g h
      refine ldX1_at hx hb hK hP hin dX1_straight_62 ?_
      refine lv_aload_n hx hb dX1_straight_63 rfl (lv_at hl 1 rfl) ?_
      refine gfX1_at inX1_straight mX1_straight_39 hx hb hts hown hK hP dX1_straight_64 ?_
      refine lv_iload_n hx hb dX1_straight_67 rfl (lv_at hl 2 rfl) ?_
      obtain ⟨hin, h⟩ := q_g h
      refine ldX1_at hx hb hK hP hin dX1_straight_68 ?_
      refine lv_lsub hx hb dX1_straight_69 ?_
      obtain ⟨r6, g8, h⟩ := q_s h
      refine q_Vl (rest := [.long (x3 + r3)]) (As := [.int (gi u 3 x1.toNatClampNeg), .long ((gl u 4 x2.toNatClampNeg) - (gl u 4 x1.toNatClampNeg))]) ⟨hx, hb, hml, hown, hts⟩ (kX1_seconds l dC dI cI cJ cZ ad _ u (gi u 3 x1.toNatClampNeg) ((gl u 4 x2.toNatClampNeg) - (gl u 4 x1.toNatClampNeg)) r6 g8) (cwV 2 hts gX1_straight_X1_seconds rfl rfl rfl hdX1_seconds ⟨Nat.le_of_ble_eq_true rfl, Nat.le_of_ble_eq_true rfl⟩) (rvX1 hK hP) hK hP hD hS hA rfl hl.1 (Nat.le_of_ble_eq_true rfl) rfl dX1_straight_70 ⟨Nat.zero_le _, Nat.zero_le _⟩ (fun H locs hP hD hS => ?_)
      refine lv_ladd hx hb dX1_straight_73 ?_
      refine lv_aload_n hx hb dX1_straight_74 rfl (lv_at hl 1 rfl) ?_
      refine lv_iload_n hx hb dX1_straight_75 rfl (lv_at hl 3 rfl) ?_
      obtain ⟨r9, g11, h⟩ := q_s h
      refine q_Vl (rest := [.long ((x3 + r3) + r6)]) (As := [.int x2]) ⟨hx, hb, hml, hown, hts⟩ (kX1_crossing l dC dI cI cJ cZ ad _ u x2 r9 g11) (cwV 1 hts gX1_straight_X1_crossing rfl rfl rfl hdX1_crossing ⟨Nat.le_of_ble_eq_true rfl, Nat.le_of_ble_eq_true rfl⟩) (rvX1 hK hP) hK hP hD hS hA rfl hl.1 (Nat.le_of_ble_eq_true rfl) rfl dX1_straight_76 ⟨Nat.zero_le _, Nat.zero_le _⟩ (fun H locs hP hD hS => ?_)
      refine lv_ladd hx hb dX1_straight_79 ?_
      refine lv_goto (tgt := 86) hx hb dX1_straight_80 (by decide) ?_
      exact q_lret hx hb hr hlocks hK hP hD hS (Option.some.inj h) rfl dX1_straight_86
  · have h := q_t h c1
    refine lv_aload_n hx hb dX1_straight_15 rfl (lv_at hl 0 rfl) ?_
    refine gfX1_at inX1_straight mX1_straight_39 hx hb hts hown hK hP dX1_straight_16 ?_
    refine lv_iload_n hx hb dX1_straight_19 rfl (lv_at hl 2 rfl) ?_
    obtain ⟨hin, h⟩ := q_g h
    refine ldX1_at hx hb hK hP hin dX1_straight_20 ?_
    refine lv_aload_n hx hb dX1_straight_21 rfl (lv_at hl 0 rfl) ?_
    refine gfX1_at inX1_straight mX1_straight_39 hx hb hts hown hK hP dX1_straight_22 ?_
    refine lv_iload_n hx hb dX1_straight_25 rfl (lv_at hl 1 rfl) ?_
    obtain ⟨hin, h⟩ := q_g h
    refine ldX1_at hx hb hK hP hin dX1_straight_26 ?_
    refine q_lc_lt (tgt := 35) hx hb dX1_straight_27 dX1_straight_28 (by decide) (fun c12 => ?_) (fun c12 => ?_)
    · have h := q_t h c12
      refine lv_iconst (v := (0 : Int32)) hx hb dX1_straight_35 (by decide) ?_
      refine lv_istore (lv' := [(5, .int (0 : Int32)), (0, .ref ((ad 0))), (1, .int x1), (2, .int x2), (3, .long x3)]) hx hb dX1_straight_36 hl (by decide) rfl (fun ls hl => ?_)
      refine lv_iload hx hb dX1_straight_38 (lv_at hl 0 rfl) ?_
      refine lv_if_eq (tgt := 83) hx hb dX1_straight_40 (by decide) (fun c13 => ?_) (fun c13 => ?_)
      · have h := q_t h c13
        refine lv_ldc2 hx hb hown (hts _ mX1_straight_89) dX1_straight_83 ?_
        exact q_lret hx hb hr hlocks hK hP hD hS (Option.some.inj h) rfl dX1_straight_86
      · have h := q_f h c13
        refine lv_lload_n hx hb dX1_straight_43 rfl (lv_at hl 4 rfl) ?_
        refine lv_aload_n hx hb dX1_straight_44 rfl (lv_at hl 1 rfl) ?_
        refine lv_iload_n hx hb dX1_straight_45 rfl (lv_at hl 2 rfl) ?_
        obtain ⟨r14, g16, h⟩ := q_s h
        refine q_Vl (rest := [.long x3]) (As := [.int x1]) ⟨hx, hb, hml, hown, hts⟩ (kX1_crossing l dC dI cI cJ cZ ad _ u x1 r14 g16) (cwV 1 hts gX1_straight_X1_crossing rfl rfl rfl hdX1_crossing ⟨Nat.le_of_ble_eq_true rfl, Nat.le_of_ble_eq_true rfl⟩) (rvX1 hK hP) hK hP hD hS hA rfl hl.1 (Nat.le_of_ble_eq_true rfl) rfl dX1_straight_46 ⟨Nat.zero_le _, Nat.zero_le _⟩ (fun H locs hP hD hS => ?_)
        refine lv_ladd hx hb dX1_straight_49 ?_
        refine lv_aload_n hx hb dX1_straight_50 rfl (lv_at hl 1 rfl) ?_
        refine lv_aload_n hx hb dX1_straight_51 rfl (lv_at hl 1 rfl) ?_
        refine gfX1_on inX1_straight mX1_straight_33 hx hb hts hown hK hP dX1_straight_52 ?_
        refine lv_iload_n hx hb dX1_straight_55 rfl (lv_at hl 2 rfl) ?_
        obtain ⟨hin, h⟩ := q_g h
        refine ldX1_on hx hb hK hP hin dX1_straight_56 ?_
        refine lv_aload_n hx hb dX1_straight_57 rfl (lv_at hl 1 rfl) ?_
        refine gfX1_at inX1_straight mX1_straight_39 hx hb hts hown hK hP dX1_straight_58 ?_
        refine lv_iload_n hx hb dX1_straight_61 rfl (lv_at hl 3 rfl) ?_
        obtain ⟨hin, h⟩ := q_g h
        refine ldX1_at hx hb hK hP hin dX1_straight_62 ?_
        refine lv_aload_n hx hb dX1_straight_63 rfl (lv_at hl 1 rfl) ?_
        refine gfX1_at inX1_straight mX1_straight_39 hx hb hts hown hK hP dX1_straight_64 ?_
        refine lv_iload_n hx hb dX1_straight_67 rfl (lv_at hl 2 rfl) ?_
        obtain ⟨hin, h⟩ := q_g h
        refine ldX1_at hx hb hK hP hin dX1_straight_68 ?_
        refine lv_lsub hx hb dX1_straight_69 ?_
        obtain ⟨r17, g19, h⟩ := q_s h
        refine q_Vl (rest := [.long (x3 + r14)]) (As := [.int (gi u 3 x1.toNatClampNeg), .long ((gl u 4 x2.toNatClampNeg) - (gl u 4 x1.toNatClampNeg))]) ⟨hx, hb, hml, hown, hts⟩ (kX1_seconds l dC dI cI cJ cZ ad _ u (gi u 3 x1.toNatClampNeg) ((gl u 4 x2.toNatClampNeg) - (gl u 4 x1.toNatClampNeg)) r17 g19) (cwV 2 hts gX1_straight_X1_seconds rfl rfl rfl hdX1_seconds ⟨Nat.le_of_ble_eq_true rfl, Nat.le_of_ble_eq_true rfl⟩) (rvX1 hK hP) hK hP hD hS hA rfl hl.1 (Nat.le_of_ble_eq_true rfl) rfl dX1_straight_70 ⟨Nat.zero_le _, Nat.zero_le _⟩ (fun H locs hP hD hS => ?_)
        refine lv_ladd hx hb dX1_straight_73 ?_
        refine lv_aload_n hx hb dX1_straight_74 rfl (lv_at hl 1 rfl) ?_
        refine lv_iload_n hx hb dX1_straight_75 rfl (lv_at hl 3 rfl) ?_
        obtain ⟨r20, g22, h⟩ := q_s h
        refine q_Vl (rest := [.long ((x3 + r14) + r17)]) (As := [.int x2]) ⟨hx, hb, hml, hown, hts⟩ (kX1_crossing l dC dI cI cJ cZ ad _ u x2 r20 g22) (cwV 1 hts gX1_straight_X1_crossing rfl rfl rfl hdX1_crossing ⟨Nat.le_of_ble_eq_true rfl, Nat.le_of_ble_eq_true rfl⟩) (rvX1 hK hP) hK hP hD hS hA rfl hl.1 (Nat.le_of_ble_eq_true rfl) rfl dX1_straight_76 ⟨Nat.zero_le _, Nat.zero_le _⟩ (fun H locs hP hD hS => ?_)
        refine lv_ladd hx hb dX1_straight_79 ?_
        refine lv_goto (tgt := 86) hx hb dX1_straight_80 (by decide) ?_
        exact q_lret hx hb hr hlocks hK hP hD hS (Option.some.inj h) rfl dX1_straight_86
    · have h := q_f h c12
      refine lv_iconst (v := (1 : Int32)) hx hb dX1_straight_31 (by decide) ?_
      refine lv_goto (tgt := 36) hx hb dX1_straight_32 (by decide) ?_
      refine lv_istore (lv' := [(5, .int (1 : Int32)), (0, .ref ((ad 0))), (1, .int x1), (2, .int x2), (3, .long x3)]) hx hb dX1_straight_36 hl (by decide) rfl (fun ls hl => ?_)
      refine lv_iload hx hb dX1_straight_38 (lv_at hl 0 rfl) ?_
      refine lv_if_eq (tgt := 83) hx hb dX1_straight_40 (by decide) (fun c23 => ?_) (fun c23 => ?_)
      · have h := q_t h c23
        refine lv_ldc2 hx hb hown (hts _ mX1_straight_89) dX1_straight_83 ?_
        exact q_lret hx hb hr hlocks hK hP hD hS (Option.some.inj h) rfl dX1_straight_86
      · have h := q_f h c23
        refine lv_lload_n hx hb dX1_straight_43 rfl (lv_at hl 4 rfl) ?_
        refine lv_aload_n hx hb dX1_straight_44 rfl (lv_at hl 1 rfl) ?_
        refine lv_iload_n hx hb dX1_straight_45 rfl (lv_at hl 2 rfl) ?_
        obtain ⟨r24, g26, h⟩ := q_s h
        refine q_Vl (rest := [.long x3]) (As := [.int x1]) ⟨hx, hb, hml, hown, hts⟩ (kX1_crossing l dC dI cI cJ cZ ad _ u x1 r24 g26) (cwV 1 hts gX1_straight_X1_crossing rfl rfl rfl hdX1_crossing ⟨Nat.le_of_ble_eq_true rfl, Nat.le_of_ble_eq_true rfl⟩) (rvX1 hK hP) hK hP hD hS hA rfl hl.1 (Nat.le_of_ble_eq_true rfl) rfl dX1_straight_46 ⟨Nat.zero_le _, Nat.zero_le _⟩ (fun H locs hP hD hS => ?_)
        refine lv_ladd hx hb dX1_straight_49 ?_
        refine lv_aload_n hx hb dX1_straight_50 rfl (lv_at hl 1 rfl) ?_
        refine lv_aload_n hx hb dX1_straight_51 rfl (lv_at hl 1 rfl) ?_
        refine gfX1_on inX1_straight mX1_straight_33 hx hb hts hown hK hP dX1_straight_52 ?_
        refine lv_iload_n hx hb dX1_straight_55 rfl (lv_at hl 2 rfl) ?_
        obtain ⟨hin, h⟩ := q_g h
        refine ldX1_on hx hb hK hP hin dX1_straight_56 ?_
        refine lv_aload_n hx hb dX1_straight_57 rfl (lv_at hl 1 rfl) ?_
        refine gfX1_at inX1_straight mX1_straight_39 hx hb hts hown hK hP dX1_straight_58 ?_
        refine lv_iload_n hx hb dX1_straight_61 rfl (lv_at hl 3 rfl) ?_
        obtain ⟨hin, h⟩ := q_g h
        refine ldX1_at hx hb hK hP hin dX1_straight_62 ?_
        refine lv_aload_n hx hb dX1_straight_63 rfl (lv_at hl 1 rfl) ?_
        refine gfX1_at inX1_straight mX1_straight_39 hx hb hts hown hK hP dX1_straight_64 ?_
        refine lv_iload_n hx hb dX1_straight_67 rfl (lv_at hl 2 rfl) ?_
        obtain ⟨hin, h⟩ := q_g h
        refine ldX1_at hx hb hK hP hin dX1_straight_68 ?_
        refine lv_lsub hx hb dX1_straight_69 ?_
        obtain ⟨r27, g29, h⟩ := q_s h
        refine q_Vl (rest := [.long (x3 + r24)]) (As := [.int (gi u 3 x1.toNatClampNeg), .long ((gl u 4 x2.toNatClampNeg) - (gl u 4 x1.toNatClampNeg))]) ⟨hx, hb, hml, hown, hts⟩ (kX1_seconds l dC dI cI cJ cZ ad _ u (gi u 3 x1.toNatClampNeg) ((gl u 4 x2.toNatClampNeg) - (gl u 4 x1.toNatClampNeg)) r27 g29) (cwV 2 hts gX1_straight_X1_seconds rfl rfl rfl hdX1_seconds ⟨Nat.le_of_ble_eq_true rfl, Nat.le_of_ble_eq_true rfl⟩) (rvX1 hK hP) hK hP hD hS hA rfl hl.1 (Nat.le_of_ble_eq_true rfl) rfl dX1_straight_70 ⟨Nat.zero_le _, Nat.zero_le _⟩ (fun H locs hP hD hS => ?_)
        refine lv_ladd hx hb dX1_straight_73 ?_
        refine lv_aload_n hx hb dX1_straight_74 rfl (lv_at hl 1 rfl) ?_
        refine lv_iload_n hx hb dX1_straight_75 rfl (lv_at hl 3 rfl) ?_
        obtain ⟨r30, g32, h⟩ := q_s h
        refine q_Vl (rest := [.long ((x3 + r24) + r27)]) (As := [.int x2]) ⟨hx, hb, hml, hown, hts⟩ (kX1_crossing l dC dI cI cJ cZ ad _ u x2 r30 g32) (cwV 1 hts gX1_straight_X1_crossing rfl rfl rfl hdX1_crossing ⟨Nat.le_of_ble_eq_true rfl, Nat.le_of_ble_eq_true rfl⟩) (rvX1 hK hP) hK hP hD hS hA rfl hl.1 (Nat.le_of_ble_eq_true rfl) rfl dX1_straight_76 ⟨Nat.zero_le _, Nat.zero_le _⟩ (fun H locs hP hD hS => ?_)
        refine lv_ladd hx hb dX1_straight_79 ?_
        refine lv_goto (tgt := 86) hx hb dX1_straight_80 (by decide) ?_
        exact q_lret hx hb hr hlocks hK hP hD hS (Option.some.inj h) rfl dX1_straight_86
set_option maxHeartbeats 4000000 in
set_option maxRecDepth 100000 in
theorem kX1_around (l : Launch) (dC : Nat → ClassId) (dI : Nat → Nat → Nat) (cI cJ cZ : ClassId) (ad : Nat → Nat) (sz : Nat) (u : gS) (x1 : Int32) (r9 : Int64) (h : fX1_around u x1 = some r9) : Kl l yX1_around wsX1_around rmX1_around (dC, dI) vwCl (tyS cI cJ cZ) (wX1 cI cJ cZ ad) sz u [.ref (ad 0), .int x1] r9 u := by
  refine g_ofW (cc := cX1_around) (maxL := 3) (ret := (some .long)) (wf := (wX1 cI cJ cZ ad)) (u := u) (Qf := fun A => va_Ql (fun r1 u1 => r1 = r9 ∧ u1 = u) (gAt (dC, dI) vwCl (tyS cI cJ cZ) A (wX1 cI cJ cZ ad)) A) (by decide) rfl (Nat.le_of_ble_eq_true rfl) ?_
  intro p e s m below meth c A ls C0 hK hP hD hA hl
  have hS : va_S A s.heap s.heap [] := va_S.rf
  obtain ⟨hx, hb, hml, hown, hts, hr, hlocks⟩ := id C0
  have hl : lv_has ls 3 [(0, .ref ((ad 0))), (1, .int x1)] := hl
  unfold fX1_around at h
  refine lv_aload_n hx hb dX1_around_0 rfl (lv_at hl 0 rfl) ?_
  refine gfX1_on inX1_around mX1_around_33 hx hb hts hown hK hP dX1_around_1 ?_
  refine lv_iload_n hx hb dX1_around_4 rfl (lv_at hl 1 rfl) ?_
  obtain ⟨hin, h⟩ := q_g h
  refine ldX1_on hx hb hK hP hin dX1_around_5 ?_
  obtain ⟨v1, ev1, h⟩ := q_l h
  refine q_topi ev1 ?_
  refine lv_istore_n (lv' := [(2, .int v1), (0, .ref ((ad 0))), (1, .int x1)]) hx hb dX1_around_6 rfl hl (by decide) rfl (fun ls hl => ?_)
  refine lv_aload_n hx hb dX1_around_7 rfl (lv_at hl 1 rfl) ?_
  refine gfX1_entered inX1_around mX1_around_42 hx hb hts hown hK hP dX1_around_8 ?_
  refine lv_iload_n hx hb dX1_around_11 rfl (lv_at hl 0 rfl) ?_
  obtain ⟨hin, h⟩ := q_g h
  refine ldX1_entered hx hb hK hP hin dX1_around_12 ?_
  refine lv_ldc2 hx hb hown (hts _ mX1_around_89) dX1_around_13 ?_
  refine q_lc_ne (tgt := 26) hx hb dX1_around_16 dX1_around_17 (by decide) (fun c2 => ?_) (fun c2 => ?_)
  · have h := q_f h c2
    refine lv_aload_n hx hb dX1_around_26 rfl (lv_at hl 1 rfl) ?_
    refine gfX1_entered inX1_around mX1_around_42 hx hb hts hown hK hP dX1_around_27 ?_
    refine lv_iload_n hx hb dX1_around_30 rfl (lv_at hl 0 rfl) ?_
    obtain ⟨hin, h⟩ := q_g h
    refine ldX1_entered hx hb hK hP hin dX1_around_31 ?_
    refine lv_aload_n hx hb dX1_around_32 rfl (lv_at hl 1 rfl) ?_
    refine lv_iload_n hx hb dX1_around_33 rfl (lv_at hl 0 rfl) ?_
    refine lv_aload_n hx hb dX1_around_34 rfl (lv_at hl 1 rfl) ?_
    refine gfX1_at inX1_around mX1_around_39 hx hb hts hown hK hP dX1_around_35 ?_
    refine lv_iload_n hx hb dX1_around_38 rfl (lv_at hl 2 rfl) ?_
    obtain ⟨hin, h⟩ := q_g h
    refine ldX1_at hx hb hK hP hin dX1_around_39 ?_
    obtain ⟨r3, g5, h⟩ := q_s h
    refine q_Vl (rest := [.long (gl u 5 v1.toNatClampNeg)]) (As := [.int v1, .long (gl u 4 x1.toNatClampNeg)]) ⟨hx, hb, hml, hown, hts⟩ (kX1_seconds l dC dI cI cJ cZ ad _ u v1 (gl u 4 x1.toNatClampNeg) r3 g5) (cwV 2 hts gX1_around_X1_seconds rfl rfl rfl hdX1_seconds ⟨Nat.le_of_ble_eq_true rfl, Nat.le_of_ble_eq_true rfl⟩) (rvX1 hK hP) hK hP hD hS hA rfl hl.1 (Nat.le_of_ble_eq_true rfl) rfl dX1_around_40 ⟨Nat.zero_le _, Nat.zero_le _⟩ (fun H locs hP hD hS => ?_)
    refine lv_ladd hx hb dX1_around_43 ?_
    refine lv_aload_n hx hb dX1_around_44 rfl (lv_at hl 1 rfl) ?_
    refine lv_iload_n hx hb dX1_around_45 rfl (lv_at hl 2 rfl) ?_
    obtain ⟨r6, g8, h⟩ := q_s h
    refine q_Vl (rest := [.long ((gl u 5 v1.toNatClampNeg) + r3)]) (As := [.int x1]) ⟨hx, hb, hml, hown, hts⟩ (kX1_crossing l dC dI cI cJ cZ ad _ u x1 r6 g8) (cwV 1 hts gX1_around_X1_crossing rfl rfl rfl hdX1_crossing ⟨Nat.le_of_ble_eq_true rfl, Nat.le_of_ble_eq_true rfl⟩) (rvX1 hK hP) hK hP hD hS hA rfl hl.1 (Nat.le_of_ble_eq_true rfl) rfl dX1_around_46 ⟨Nat.zero_le _, Nat.zero_le _⟩ (fun H locs hP hD hS => ?_)
    refine lv_ladd hx hb dX1_around_49 ?_
    exact q_lret hx hb hr hlocks hK hP hD hS (Option.some.inj h) rfl dX1_around_50
  · have h := q_t h c2
    refine lv_ldc2 hx hb hown (hts _ mX1_around_89) dX1_around_20 ?_
    refine lv_goto (tgt := 50) hx hb dX1_around_23 (by decide) ?_
    exact q_lret hx hb hr hlocks hK hP hD hS (Option.some.inj h) rfl dX1_around_50
set_option maxHeartbeats 4000000 in
set_option maxRecDepth 100000 in
theorem kX1_before_L9 {l : Launch} {dC : Nat → ClassId} {dI : Nat → Nat → Nat} {cI cJ cZ : ClassId} {ad : Nat → Nat} {p : Program} {e : Env} {s : State} {m : MethodId} {below : List Frame} {meth : Method} {c : Code} {A : Nat → Prop} {args : Array Value} {r9 : Int32} {u : gS} (C0 : gCtx p s m meth c args cX1_before 4 (some .int) wsX1_before yX1_before.cls) (hK : va_K (dC, dI) vwCl (tyS cI cJ cZ) s) (hA : ∀ q, s.heap.size ≤ q → A q) :
    ∀ (n : Nat) (y1 : Int32) (y2 : Int32) (y3 : Int32) (H : Heap) (locs : List Loc) (ls : Array Slot), fX1_before_L9 n u y1 y2 y3 = some r9 → va_P (dC, dI) vwCl ((wX1 cI cJ cZ ad) u) H → va_D A ((wX1 cI cJ cZ ad) u) → va_S A s.heap H locs → lv_has ls 4 [(0, .ref ((ad 0))), (1, .int y1), (2, .int y2), (3, .int y3)] → W p l e rmX1_before s m args below meth c H locs 0 0 (MQ below (va_Qi (fun r1 u1 => r1 = r9 ∧ u1 = u) (gAt (dC, dI) vwCl (tyS cI cJ cZ) A (wX1 cI cJ cZ ad)) A) args s 0 0 A) (F0 m 9 ls []) := by
  obtain ⟨hx, hb, hml, hown, hts, hr, hlocks⟩ := id C0
  intro n
  induction n with
  | zero =>
    intro y1 y2 y3 H locs ls h
    cases h
  | succ n ih9 =>
    intro y1 y2 y3 H locs ls h hP hD hS hl
    have h : fX1_before_L9_b (fX1_before_L9 n) u y1 y2 y3 = some r9 := h
    unfold fX1_before_L9_b at h
    refine lv_iload_n hx hb dX1_before_9 rfl (lv_at hl 3 rfl) ?_
    refine lv_if_lt (tgt := 68) hx hb dX1_before_10 (by decide) (fun c2 => ?_) (fun c2 => ?_)
    · have h := q_t h c2
      refine lv_iload_n hx hb dX1_before_68 rfl (lv_at hl 2 rfl) ?_
      exact q_iret hx hb hr hlocks hK hP hD hS (Option.some.inj h) rfl dX1_before_69
    · have h := q_f h c2
      refine lv_aload_n hx hb dX1_before_13 rfl (lv_at hl 0 rfl) ?_
      refine lv_iload_n hx hb dX1_before_14 rfl (lv_at hl 3 rfl) ?_
      refine lv_iload_n hx hb dX1_before_15 rfl (lv_at hl 1 rfl) ?_
      obtain ⟨r3, g5, h⟩ := q_s h
      refine q_Vi (rest := []) (As := [.int y3, .int y1]) ⟨hx, hb, hml, hown, hts⟩ (kX1_leads l dC dI cI cJ cZ ad _ u y3 y1 r3 g5) (cwV 2 hts gX1_before_X1_leads rfl rfl rfl hdX1_leads ⟨Nat.le_of_ble_eq_true rfl, Nat.le_of_ble_eq_true rfl⟩) (rvX1 hK hP) hK hP hD hS hA rfl hl.1 (Nat.le_of_ble_eq_true rfl) rfl dX1_before_16 ⟨Nat.zero_le _, Nat.zero_le _⟩ (fun H locs hP hD hS => ?_)
      refine lv_if_eq (tgt := 60) hx hb dX1_before_19 (by decide) (fun c6 => ?_) (fun c6 => ?_)
      · have h := q_t h c6
        refine lv_iload_n hx hb dX1_before_60 rfl (lv_at hl 2 rfl) ?_
        refine lv_istore_n (lv' := [(2, .int y2), (0, .ref ((ad 0))), (1, .int y1), (3, .int y3)]) hx hb dX1_before_61 rfl hl (by decide) rfl (fun ls hl => ?_)
        obtain ⟨v7, ev7, h⟩ := q_l h
        refine lv_iinc (v := v7) (lv' := [(3, .int v7), (2, .int y2), (0, .ref ((ad 0))), (1, .int y1)]) hx hb dX1_before_62 hl (k := 3) rfl (by rw [ev7]; rfl) (by decide) rfl (fun ls hl => ?_)
        refine lv_goto (tgt := 9) hx hb dX1_before_65 (by decide) ?_
        exact ih9 y1 y2 v7 _ _ _ h hP hD hS (lv_sub hl [2, 3, 1, 0] rfl)
      · have h := q_f h c6
        refine lv_aload_n hx hb dX1_before_22 rfl (lv_at hl 0 rfl) ?_
        refine gfX1_done inX1_before mX1_before_45 hx hb hts hown hK hP dX1_before_23 ?_
        refine lv_iload_n hx hb dX1_before_26 rfl (lv_at hl 3 rfl) ?_
        obtain ⟨hin, h⟩ := q_g h
        refine ldX1_done hx hb hK hP hin dX1_before_27 ?_
        refine lv_ldc2 hx hb hown (hts _ mX1_before_89) dX1_before_28 ?_
        refine q_lc_ge (tgt := 60) hx hb dX1_before_31 dX1_before_32 (by decide) (fun c8 => ?_) (fun c8 => ?_)
        · have h := q_t h c8
          refine lv_iload_n hx hb dX1_before_60 rfl (lv_at hl 2 rfl) ?_
          refine lv_istore_n (lv' := [(2, .int y2), (0, .ref ((ad 0))), (1, .int y1), (3, .int y3)]) hx hb dX1_before_61 rfl hl (by decide) rfl (fun ls hl => ?_)
          obtain ⟨v9, ev9, h⟩ := q_l h
          refine lv_iinc (v := v9) (lv' := [(3, .int v9), (2, .int y2), (0, .ref ((ad 0))), (1, .int y1)]) hx hb dX1_before_62 hl (k := 3) rfl (by rw [ev9]; rfl) (by decide) rfl (fun ls hl => ?_)
          refine lv_goto (tgt := 9) hx hb dX1_before_65 (by decide) ?_
          exact ih9 y1 y2 v9 _ _ _ h hP hD hS (lv_sub hl [2, 3, 1, 0] rfl)
        · have h := q_f h c8
          refine lv_aload_n hx hb dX1_before_35 rfl (lv_at hl 0 rfl) ?_
          refine lv_iload_n hx hb dX1_before_36 rfl (lv_at hl 1 rfl) ?_
          refine lv_aload_n hx hb dX1_before_37 rfl (lv_at hl 0 rfl) ?_
          refine gfX1_done inX1_before mX1_before_45 hx hb hts hown hK hP dX1_before_38 ?_
          refine lv_iload_n hx hb dX1_before_41 rfl (lv_at hl 3 rfl) ?_
          obtain ⟨hin, h⟩ := q_g h
          refine ldX1_done hx hb hK hP hin dX1_before_42 ?_
          obtain ⟨r10, g12, h⟩ := q_s h
          refine q_Vl (rest := []) (As := [.int y1, .long (gl u 6 y3.toNatClampNeg)]) ⟨hx, hb, hml, hown, hts⟩ (kX1_entry l dC dI cI cJ cZ ad _ u y1 (gl u 6 y3.toNatClampNeg) r10 g12) (cwV 2 hts gX1_before_X1_entry rfl rfl rfl hdX1_entry ⟨Nat.le_of_ble_eq_true rfl, Nat.le_of_ble_eq_true rfl⟩) (rvX1 hK hP) hK hP hD hS hA rfl hl.1 (Nat.le_of_ble_eq_true rfl) rfl dX1_before_43 ⟨Nat.zero_le _, Nat.zero_le _⟩ (fun H locs hP hD hS => ?_)
          refine lv_aload_n hx hb dX1_before_46 rfl (lv_at hl 0 rfl) ?_
          refine gfX1_entered inX1_before mX1_before_42 hx hb hts hown hK hP dX1_before_47 ?_
          refine lv_iload_n hx hb dX1_before_50 rfl (lv_at hl 1 rfl) ?_
          obtain ⟨hin, h⟩ := q_g h
          refine ldX1_entered hx hb hK hP hin dX1_before_51 ?_
          refine q_lc_ne (tgt := 60) hx hb dX1_before_52 dX1_before_53 (by decide) (fun c13 => ?_) (fun c13 => ?_)
          · have h := q_f h c13
            refine lv_iload_n hx hb dX1_before_60 rfl (lv_at hl 2 rfl) ?_
            refine lv_istore_n (lv' := [(2, .int y2), (0, .ref ((ad 0))), (1, .int y1), (3, .int y3)]) hx hb dX1_before_61 rfl hl (by decide) rfl (fun ls hl => ?_)
            obtain ⟨v14, ev14, h⟩ := q_l h
            refine lv_iinc (v := v14) (lv' := [(3, .int v14), (2, .int y2), (0, .ref ((ad 0))), (1, .int y1)]) hx hb dX1_before_62 hl (k := 3) rfl (by rw [ev14]; rfl) (by decide) rfl (fun ls hl => ?_)
            refine lv_goto (tgt := 9) hx hb dX1_before_65 (by decide) ?_
            exact ih9 y1 y2 v14 _ _ _ h hP hD hS (lv_sub hl [2, 3, 1, 0] rfl)
          · have h := q_t h c13
            refine lv_iload_n hx hb dX1_before_56 rfl (lv_at hl 3 rfl) ?_
            refine lv_goto (tgt := 61) hx hb dX1_before_57 (by decide) ?_
            refine lv_istore_n (lv' := [(2, .int y3), (0, .ref ((ad 0))), (1, .int y1), (3, .int y3)]) hx hb dX1_before_61 rfl hl (by decide) rfl (fun ls hl => ?_)
            obtain ⟨v15, ev15, h⟩ := q_l h
            refine lv_iinc (v := v15) (lv' := [(3, .int v15), (2, .int y3), (0, .ref ((ad 0))), (1, .int y1)]) hx hb dX1_before_62 hl (k := 3) rfl (by rw [ev15]; rfl) (by decide) rfl (fun ls hl => ?_)
            refine lv_goto (tgt := 9) hx hb dX1_before_65 (by decide) ?_
            exact ih9 y1 y3 v15 _ _ _ h hP hD hS (lv_sub hl [2, 3, 1, 0] rfl)
set_option maxHeartbeats 4000000 in
set_option maxRecDepth 100000 in
theorem kX1_before (l : Launch) (dC : Nat → ClassId) (dI : Nat → Nat → Nat) (cI cJ cZ : ClassId) (ad : Nat → Nat) (sz : Nat) (u : gS) (x1 : Int32) (r9 : Int32) (h : fX1_before u x1 = some r9) : Ki l yX1_before wsX1_before rmX1_before (dC, dI) vwCl (tyS cI cJ cZ) (wX1 cI cJ cZ ad) sz u [.ref (ad 0), .int x1] r9 u := by
  refine g_ofW (cc := cX1_before) (maxL := 4) (ret := (some .int)) (wf := (wX1 cI cJ cZ ad)) (u := u) (Qf := fun A => va_Qi (fun r1 u1 => r1 = r9 ∧ u1 = u) (gAt (dC, dI) vwCl (tyS cI cJ cZ) A (wX1 cI cJ cZ ad)) A) (by decide) rfl (Nat.le_of_ble_eq_true rfl) ?_
  intro p e s m below meth c A ls C0 hK hP hD hA hl
  have hS : va_S A s.heap s.heap [] := va_S.rf
  obtain ⟨hx, hb, hml, hown, hts, hr, hlocks⟩ := id C0
  have hl : lv_has ls 4 [(0, .ref ((ad 0))), (1, .int x1)] := hl
  unfold fX1_before at h
  refine lv_iconst (v := (-1 : Int32)) hx hb dX1_before_0 (by decide) ?_
  refine lv_istore_n (lv' := [(2, .int (-1 : Int32)), (0, .ref ((ad 0))), (1, .int x1)]) hx hb dX1_before_1 rfl hl (by decide) rfl (fun ls hl => ?_)
  refine lv_aload_n hx hb dX1_before_2 rfl (lv_at hl 1 rfl) ?_
  refine gfX1_pieces inX1_before mX1_before_55 hx hb hts hown hK hP dX1_before_3 ?_
  refine lv_iconst (v := (1 : Int32)) hx hb dX1_before_6 (by decide) ?_
  refine lv_isub hx hb dX1_before_7 ?_
  obtain ⟨v1, ev1, h⟩ := q_l h
  refine q_topi ev1 ?_
  refine lv_istore_n (lv' := [(3, .int v1), (2, .int (-1 : Int32)), (0, .ref ((ad 0))), (1, .int x1)]) hx hb dX1_before_8 rfl hl (by decide) rfl (fun ls hl => ?_)
  exact kX1_before_L9 C0 hK hA 200 x1 (-1 : Int32) v1 _ _ _ h hP hD hS (lv_sub hl [2, 3, 1, 0] rfl)
set_option maxHeartbeats 4000000 in
set_option maxRecDepth 100000 in
theorem kX1_way_L120 {k9 : Nat} {l : Launch} {dC : Nat → ClassId} {dI : Nat → Nat → Nat} {cI cJ cZ : ClassId} {ad : Nat → Nat} {p : Program} {e : Env} {s : State} {m : MethodId} {below : List Frame} {meth : Method} {c : Code} {A : Nat → Prop} {args : Array Value} {r9 : Int64} {u9 : gS} (C0 : gCtx p s m meth c args cX1_way 11 (some .long) wsX1_way yX1_way.cls) (hK : va_K (dC, dI) vwCl (tyS cI cJ cZ) s) (hA : ∀ q, s.heap.size ≤ q → A q) :
    ∀ (n : Nat) (u : gS) (y1 : Int32) (y3 : Int64) (y7 : Int64) (y9 : Int32) (H : Heap) (locs : List Loc) (ls : Array Slot), fX1_way_L120 k9 n u y1 y3 y7 y9 = some (r9, u9) → va_P (dC, dI) vwCl ((wX1 cI cJ cZ ad) u) H → va_D A ((wX1 cI cJ cZ ad) u) → va_S A s.heap H locs → lv_has ls 11 [(0, .ref ((ad 0))), (1, .int y1), (3, .long y3), (7, .long y7), (9, .int y9)] → W p l e rmX1_way s m args below meth c H locs 0 0 (MQ below (va_Ql (fun r1 u1 => r1 = r9 ∧ u1 = u9) (gAt (dC, dI) vwCl (tyS cI cJ cZ) A (wX1 cI cJ cZ ad)) A) args s 0 0 A) (F0 m 120 ls []) := by
  obtain ⟨hx, hb, hml, hown, hts, hr, hlocks⟩ := id C0
  intro n
  induction n with
  | zero =>
    intro u y1 y3 y7 y9 H locs ls h
    cases h
  | succ n ih120 =>
    intro u y1 y3 y7 y9 H locs ls h hP hD hS hl
    have h : fX1_way_L120_b k9 (fX1_way_L120 k9 n) u y1 y3 y7 y9 = some (r9, u9) := h
    unfold fX1_way_L120_b at h
    refine lv_iload hx hb dX1_way_120 (lv_at hl 4 rfl) ?_
    refine lv_if_eq (tgt := 201) hx hb dX1_way_122 (by decide) (fun c28 => ?_) (fun c28 => ?_)
    · have h := q_t h c28
      refine lv_lload hx hb dX1_way_201 (lv_at hl 3 rfl) ?_
      exact q_lret hx hb hr hlocks hK hP hD hS (q_p h).1 (q_p h).2 dX1_way_203
    · have h := q_f h c28
      refine lv_aload_n hx hb dX1_way_125 rfl (lv_at hl 0 rfl) ?_
      refine lv_aload_n hx hb dX1_way_126 rfl (lv_at hl 0 rfl) ?_
      refine gfX1_back inX1_way mX1_way_48 hx hb hts hown hK hP dX1_way_127 ?_
      refine lv_aload_n hx hb dX1_way_130 rfl (lv_at hl 0 rfl) ?_
      refine gfX1_steps inX1_way mX1_way_121 hx hb hts hown hK hP dX1_way_131 ?_
      refine lv_iconst (v := (1 : Int32)) hx hb dX1_way_134 (by decide) ?_
      refine lv_isub hx hb dX1_way_135 ?_
      obtain ⟨hin, h⟩ := q_g h
      refine ldX1_back hx hb hK hP hin dX1_way_136 ?_
      obtain ⟨r29, g31, h⟩ := q_s h
      refine q_Vi (rest := []) (As := [.int (gi u 5 ((gf u 3) - (1 : Int32)).toNatClampNeg)]) ⟨hx, hb, hml, hown, hts⟩ (kX1_before l dC dI cI cJ cZ ad _ u (gi u 5 ((gf u 3) - (1 : Int32)).toNatClampNeg) r29 g31) (cwV 1 hts gX1_way_X1_before rfl rfl rfl hdX1_before ⟨Nat.le_of_ble_eq_true rfl, Nat.le_of_ble_eq_true rfl⟩) (rvX1 hK hP) hK hP hD hS hA rfl hl.1 (Nat.le_of_ble_eq_true rfl) rfl dX1_way_137 ⟨Nat.zero_le _, Nat.zero_le _⟩ (fun H locs hP hD hS => ?_)
      refine lv_istore (lv' := [(10, .int r29), (0, .ref ((ad 0))), (1, .int y1), (3, .long y3), (7, .long y7), (9, .int y9)]) hx hb dX1_way_140 hl (by decide) rfl (fun ls hl => ?_)
      refine lv_aload_n hx hb dX1_way_142 rfl (lv_at hl 1 rfl) ?_
      refine gfX1_back inX1_way mX1_way_48 hx hb hts hown hK hP dX1_way_143 ?_
      refine lv_aload_n hx hb dX1_way_146 rfl (lv_at hl 1 rfl) ?_
      refine gfX1_steps inX1_way mX1_way_121 hx hb hts hown hK hP dX1_way_147 ?_
      refine lv_iload hx hb dX1_way_150 (lv_at hl 0 rfl) ?_
      obtain ⟨hin, h⟩ := q_g h
      obtain ⟨u32, eu32, h⟩ := q_l h
      refine stX1_back hx hb hK hP hD hS hin eu32 dX1_way_152 (fun H locs hP hD hS => ?_)
      refine lv_aload_n hx hb dX1_way_153 rfl (lv_at hl 1 rfl) ?_
      refine lv_dup hx hb dX1_way_154 rfl ?_
      refine gfX1_steps inX1_way mX1_way_121 hx hb hts hown hK hP dX1_way_155 ?_
      refine lv_iconst (v := (1 : Int32)) hx hb dX1_way_158 (by decide) ?_
      refine lv_iadd hx hb dX1_way_159 ?_
      obtain ⟨u33, eu33, h⟩ := q_l h
      refine pfX1_steps inX1_way mX1_way_121 hx hb hts hown hK hP hD hS eu33 dX1_way_160 (fun H locs hP hD hS => ?_)
      refine lv_iload hx hb dX1_way_163 (lv_at hl 0 rfl) ?_
      refine lv_aload_n hx hb dX1_way_165 rfl (lv_at hl 1 rfl) ?_
      refine gfX1_on inX1_way mX1_way_33 hx hb hts hown hK hP dX1_way_166 ?_
      refine lv_iload_n hx hb dX1_way_169 rfl (lv_at hl 2 rfl) ?_
      obtain ⟨hin, h⟩ := q_g h
      refine ldX1_on hx hb hK hP hin dX1_way_170 ?_
      refine lv_icmp_ne (tgt := 191) hx hb dX1_way_171 (by decide) (fun c34 => ?_) (fun c34 => ?_)
      · have h := q_f h c34
        refine lv_iconst (v := (1 : Int32)) hx hb dX1_way_191 (by decide) ?_
        refine lv_goto (tgt := 196) hx hb dX1_way_192 (by decide) ?_
        refine lv_istore (lv' := [(9, .int (1 : Int32)), (10, .int r29), (0, .ref ((ad 0))), (1, .int y1), (3, .long y3), (7, .long y7)]) hx hb dX1_way_196 hl (by decide) rfl (fun ls hl => ?_)
        refine lv_goto (tgt := 120) hx hb dX1_way_198 (by decide) ?_
        exact ih120 u33 y1 y3 y7 (1 : Int32) _ _ _ h hP hD hS (lv_sub hl [2, 3, 4, 5, 0] rfl)
      · have h := q_t h c34
        refine lv_aload_n hx hb dX1_way_174 rfl (lv_at hl 1 rfl) ?_
        refine gfX1_done inX1_way mX1_way_45 hx hb hts hown hK hP dX1_way_175 ?_
        refine lv_iload hx hb dX1_way_178 (lv_at hl 0 rfl) ?_
        obtain ⟨hin, h⟩ := q_g h
        refine ldX1_done hx hb hK hP hin dX1_way_180 ?_
        refine lv_aload_n hx hb dX1_way_181 rfl (lv_at hl 1 rfl) ?_
        refine lv_iload_n hx hb dX1_way_182 rfl (lv_at hl 2 rfl) ?_
        refine lv_lload_n hx hb dX1_way_183 rfl (lv_at hl 3 rfl) ?_
        obtain ⟨r35, g37, h⟩ := q_s h
        refine q_Vl (rest := [.long (gl u33 6 r29.toNatClampNeg)]) (As := [.int y1, .long y3]) ⟨hx, hb, hml, hown, hts⟩ (kX1_rest l dC dI cI cJ cZ ad _ u33 y1 y3 r35 g37) (cwV 2 hts gX1_way_X1_rest rfl rfl rfl hdX1_rest ⟨Nat.le_of_ble_eq_true rfl, Nat.le_of_ble_eq_true rfl⟩) (rvX1 hK hP) hK hP hD hS hA rfl hl.1 (Nat.le_of_ble_eq_true rfl) rfl dX1_way_184 ⟨Nat.zero_le _, Nat.zero_le _⟩ (fun H locs hP hD hS => ?_)
        refine q_lc_eq (tgt := 195) hx hb dX1_way_187 dX1_way_188 (by decide) (fun c38 => ?_) (fun c38 => ?_)
        · have h := q_t h c38
          refine lv_iconst (v := (0 : Int32)) hx hb dX1_way_195 (by decide) ?_
          refine lv_istore (lv' := [(9, .int (0 : Int32)), (10, .int r29), (0, .ref ((ad 0))), (1, .int y1), (3, .long y3), (7, .long y7)]) hx hb dX1_way_196 hl (by decide) rfl (fun ls hl => ?_)
          refine lv_goto (tgt := 120) hx hb dX1_way_198 (by decide) ?_
          exact ih120 u33 y1 y3 y7 (0 : Int32) _ _ _ h hP hD hS (lv_sub hl [2, 3, 4, 5, 0] rfl)
        · have h := q_f h c38
          refine lv_iconst (v := (1 : Int32)) hx hb dX1_way_191 (by decide) ?_
          refine lv_goto (tgt := 196) hx hb dX1_way_192 (by decide) ?_
          refine lv_istore (lv' := [(9, .int (1 : Int32)), (10, .int r29), (0, .ref ((ad 0))), (1, .int y1), (3, .long y3), (7, .long y7)]) hx hb dX1_way_196 hl (by decide) rfl (fun ls hl => ?_)
          refine lv_goto (tgt := 120) hx hb dX1_way_198 (by decide) ?_
          exact ih120 u33 y1 y3 y7 (1 : Int32) _ _ _ h hP hD hS (lv_sub hl [2, 3, 4, 5, 0] rfl)
set_option maxHeartbeats 4000000 in
set_option maxRecDepth 100000 in
theorem kX1_way (k9 : Nat) (l : Launch) (dC : Nat → ClassId) (dI : Nat → Nat → Nat) (cI cJ cZ : ClassId) (ad : Nat → Nat) (sz : Nat) (u : gS) (x1 : Int32) (x2 : Int32) (x3 : Int64) (r9 : Int64) (u9 : gS) (h : fX1_way k9 u x1 x2 x3 = some (r9, u9)) : Kl l yX1_way wsX1_way rmX1_way (dC, dI) vwCl (tyS cI cJ cZ) (wX1 cI cJ cZ ad) sz u [.ref (ad 0), .int x1, .int x2, .long x3] r9 u9 := by
  refine g_ofW (cc := cX1_way) (maxL := 11) (ret := (some .long)) (wf := (wX1 cI cJ cZ ad)) (u := u) (Qf := fun A => va_Ql (fun r1 u1 => r1 = r9 ∧ u1 = u9) (gAt (dC, dI) vwCl (tyS cI cJ cZ) A (wX1 cI cJ cZ ad)) A) (by decide) rfl (Nat.le_of_ble_eq_true rfl) ?_
  intro p e s m below meth c A ls C0 hK hP hD hA hl
  have hS : va_S A s.heap s.heap [] := va_S.rf
  obtain ⟨hx, hb, hml, hown, hts, hr, hlocks⟩ := id C0
  have hl : lv_has ls 11 [(0, .ref ((ad 0))), (1, .int x1), (2, .int x2), (3, .long x3)] := hl
  unfold fX1_way at h
  refine lv_aload_n hx hb dX1_way_0 rfl (lv_at hl 0 rfl) ?_
  refine lv_iconst (v := (0 : Int32)) hx hb dX1_way_1 (by decide) ?_
  obtain ⟨u1, eu1, h⟩ := q_l h
  refine pfX1_thrown inX1_way mX1_way_51 hx hb hts hown hK hP hD hS eu1 dX1_way_2 (fun H locs hP hD hS => ?_)
  refine lv_aload_n hx hb dX1_way_5 rfl (lv_at hl 0 rfl) ?_
  refine lv_iload_n hx hb dX1_way_6 rfl (lv_at hl 1 rfl) ?_
  obtain ⟨r2, g4, h⟩ := q_s h
  refine q_Vi (rest := []) (As := [.int x1]) ⟨hx, hb, hml, hown, hts⟩ (kX1_isStop l dC dI cI cJ cZ ad _ u1 x1 r2 g4) (cwV 1 hts gX1_way_X1_isStop rfl rfl rfl hdX1_isStop ⟨Nat.le_of_ble_eq_true rfl, Nat.le_of_ble_eq_true rfl⟩) (rvX1 hK hP) hK hP hD hS hA rfl hl.1 (Nat.le_of_ble_eq_true rfl) rfl dX1_way_7 ⟨Nat.zero_le _, Nat.zero_le _⟩ (fun H locs hP hD hS => ?_)
  refine lv_if_eq (tgt := 21) hx hb dX1_way_10 (by decide) (fun c5 => ?_) (fun c5 => ?_)
  · have h := q_t h c5
    refine lv_ldc2 hx hb hown (hts _ mX1_way_104) dX1_way_21 ?_
    exact q_lret hx hb hr hlocks hK hP hD hS (q_p h).1 (q_p h).2 dX1_way_24
  · have h := q_f h c5
    refine lv_aload_n hx hb dX1_way_13 rfl (lv_at hl 0 rfl) ?_
    refine lv_iload_n hx hb dX1_way_14 rfl (lv_at hl 2 rfl) ?_
    obtain ⟨r6, g8, h⟩ := q_s h
    refine q_Vi (rest := []) (As := [.int x2]) ⟨hx, hb, hml, hown, hts⟩ (kX1_isStop l dC dI cI cJ cZ ad _ u1 x2 r6 g8) (cwV 1 hts gX1_way_X1_isStop rfl rfl rfl hdX1_isStop ⟨Nat.le_of_ble_eq_true rfl, Nat.le_of_ble_eq_true rfl⟩) (rvX1 hK hP) hK hP hD hS hA rfl hl.1 (Nat.le_of_ble_eq_true rfl) rfl dX1_way_15 ⟨Nat.zero_le _, Nat.zero_le _⟩ (fun H locs hP hD hS => ?_)
    refine lv_if_ne (tgt := 25) hx hb dX1_way_18 (by decide) (fun c9 => ?_) (fun c9 => ?_)
    · have h := q_f h c9
      refine lv_lload_n hx hb dX1_way_25 rfl (lv_at hl 3 rfl) ?_
      refine lv_lconst (v := (0 : Int64)) hx hb dX1_way_26 (by decide) ?_
      refine lv_ldc2 hx hb hown (hts _ mX1_way_106) dX1_way_27 ?_
      obtain ⟨r10, g12, h⟩ := q_s h
      refine q_Si (rest := []) (As := [.long x3, .long (0 : Int64), .long (1000000000000 : Int64)]) ⟨hx, hb, hml, hown, hts⟩ (kX1_in l dC dI cI cJ cZ ad _ u1 x3 (0 : Int64) (1000000000000 : Int64) r10 g12) (va_cwS 3 hts gX1_way_X1_in rfl rfl rfl hdX1_in ⟨Nat.le_of_ble_eq_true rfl, Nat.le_of_ble_eq_true rfl⟩) hK hP hD hS hA rfl hl.1 (Nat.le_of_ble_eq_true rfl) rfl dX1_way_30 ⟨Nat.zero_le _, Nat.zero_le _⟩ (fun H locs hP hD hS => ?_)
      refine lv_if_ne (tgt := 40) hx hb dX1_way_33 (by decide) (fun c13 => ?_) (fun c13 => ?_)
      · have h := q_f h c13
        refine lv_aload_n hx hb dX1_way_40 rfl (lv_at hl 0 rfl) ?_
        refine lv_iload_n hx hb dX1_way_41 rfl (lv_at hl 1 rfl) ?_
        refine lv_lload_n hx hb dX1_way_42 rfl (lv_at hl 3 rfl) ?_
        obtain ⟨u15, g16, h⟩ := q_s h
        refine q_Vv (rest := []) (As := [.int x1, .long x3]) ⟨hx, hb, hml, hown, hts⟩ (kX1_reach k9 l dC dI cI cJ cZ ad _ u1 x1 x3 u15 g16) (cwV 2 hts gX1_way_X1_reach rfl rfl rfl hdX1_reach ⟨Nat.le_of_ble_eq_true rfl, Nat.le_of_ble_eq_true rfl⟩) (rvX1 hK hP) hK hP hD hS hA rfl hl.1 (Nat.le_of_ble_eq_true rfl) rfl dX1_way_43 ⟨Nat.zero_le _, Nat.zero_le _⟩ (fun H locs hP hD hS => ?_)
        refine lv_aload_n hx hb dX1_way_46 rfl (lv_at hl 0 rfl) ?_
        refine lv_iload_n hx hb dX1_way_47 rfl (lv_at hl 1 rfl) ?_
        refine lv_iload_n hx hb dX1_way_48 rfl (lv_at hl 2 rfl) ?_
        refine lv_lload_n hx hb dX1_way_49 rfl (lv_at hl 3 rfl) ?_
        obtain ⟨r17, g19, h⟩ := q_s h
        refine q_Vl (rest := []) (As := [.int x1, .int x2, .long x3]) ⟨hx, hb, hml, hown, hts⟩ (kX1_straight l dC dI cI cJ cZ ad _ u15 x1 x2 x3 r17 g19) (cwV 3 hts gX1_way_X1_straight rfl rfl rfl hdX1_straight ⟨Nat.le_of_ble_eq_true rfl, Nat.le_of_ble_eq_true rfl⟩) (rvX1 hK hP) hK hP hD hS hA rfl hl.1 (Nat.le_of_ble_eq_true rfl) rfl dX1_way_50 ⟨Nat.zero_le _, Nat.zero_le _⟩ (fun H locs hP hD hS => ?_)
        refine lv_lstore (lv' := [(5, .long r17), (0, .ref ((ad 0))), (1, .int x1), (2, .int x2), (3, .long x3)]) hx hb dX1_way_53 hl (by decide) rfl (fun ls hl => ?_)
        refine lv_aload_n hx hb dX1_way_55 rfl (lv_at hl 1 rfl) ?_
        refine lv_iload_n hx hb dX1_way_56 rfl (lv_at hl 3 rfl) ?_
        obtain ⟨r20, g22, h⟩ := q_s h
        refine q_Vl (rest := []) (As := [.int x2]) ⟨hx, hb, hml, hown, hts⟩ (kX1_around l dC dI cI cJ cZ ad _ u15 x2 r20 g22) (cwV 1 hts gX1_way_X1_around rfl rfl rfl hdX1_around ⟨Nat.le_of_ble_eq_true rfl, Nat.le_of_ble_eq_true rfl⟩) (rvX1 hK hP) hK hP hD hS hA rfl hl.1 (Nat.le_of_ble_eq_true rfl) rfl dX1_way_57 ⟨Nat.zero_le _, Nat.zero_le _⟩ (fun H locs hP hD hS => ?_)
        refine lv_lstore (lv' := [(7, .long r20), (5, .long r17), (0, .ref ((ad 0))), (1, .int x1), (2, .int x2), (3, .long x3)]) hx hb dX1_way_60 hl (by decide) rfl (fun ls hl => ?_)
        refine lv_aload_n hx hb dX1_way_62 rfl (lv_at hl 2 rfl) ?_
        refine lv_iconst (v := (0 : Int32)) hx hb dX1_way_63 (by decide) ?_
        obtain ⟨u23, eu23, h⟩ := q_l h
        refine pfX1_steps inX1_way mX1_way_121 hx hb hts hown hK hP hD hS eu23 dX1_way_64 (fun H locs hP hD hS => ?_)
        refine lv_lload hx hb dX1_way_67 (lv_at hl 1 rfl) ?_
        refine lv_ldc2 hx hb hown (hts _ mX1_way_89) dX1_way_69 ?_
        refine q_lc_ne (tgt := 89) hx hb dX1_way_72 dX1_way_73 (by decide) (fun c24 => ?_) (fun c24 => ?_)
        · have h := q_f h c24
          refine lv_aload_n hx hb dX1_way_89 rfl (lv_at hl 2 rfl) ?_
          refine gfX1_back inX1_way mX1_way_48 hx hb hts hown hK hP dX1_way_90 ?_
          refine lv_iconst (v := (0 : Int32)) hx hb dX1_way_93 (by decide) ?_
          refine lv_aload_n hx hb dX1_way_94 rfl (lv_at hl 2 rfl) ?_
          refine gfX1_on inX1_way mX1_way_33 hx hb hts hown hK hP dX1_way_95 ?_
          refine lv_iload_n hx hb dX1_way_98 rfl (lv_at hl 4 rfl) ?_
          obtain ⟨hin, h⟩ := q_g h
          refine ldX1_on hx hb hK hP hin dX1_way_99 ?_
          obtain ⟨hin, h⟩ := q_g h
          obtain ⟨u25, eu25, h⟩ := q_l h
          refine stX1_back hx hb hK hP hD hS hin eu25 dX1_way_100 (fun H locs hP hD hS => ?_)
          refine lv_aload_n hx hb dX1_way_101 rfl (lv_at hl 2 rfl) ?_
          refine lv_iconst (v := (1 : Int32)) hx hb dX1_way_102 (by decide) ?_
          obtain ⟨u26, eu26, h⟩ := q_l h
          refine pfX1_steps inX1_way mX1_way_121 hx hb hts hown hK hP hD hS eu26 dX1_way_103 (fun H locs hP hD hS => ?_)
          refine lv_lload hx hb dX1_way_106 (lv_at hl 1 rfl) ?_
          refine lv_lload hx hb dX1_way_108 (lv_at hl 0 rfl) ?_
          refine q_lc_gt (tgt := 117) hx hb dX1_way_110 dX1_way_111 (by decide) (fun c27 => ?_) (fun c27 => ?_)
          · have h := q_t h c27
            refine lv_iconst (v := (1 : Int32)) hx hb dX1_way_117 (by decide) ?_
            refine lv_istore (lv' := [(9, .int (1 : Int32)), (7, .long r20), (5, .long r17), (0, .ref ((ad 0))), (1, .int x1), (2, .int x2), (3, .long x3)]) hx hb dX1_way_118 hl (by decide) rfl (fun ls hl => ?_)
            exact kX1_way_L120 C0 hK hA 200 u26 x1 x3 r20 (1 : Int32) _ _ _ h hP hD hS (lv_sub hl [3, 4, 6, 1, 0] rfl)
          · have h := q_f h c27
            refine lv_lload hx hb dX1_way_114 (lv_at hl 1 rfl) ?_
            exact q_lret hx hb hr hlocks hK hP hD hS (q_p h).1 (q_p h).2 dX1_way_116
        · have h := q_t h c24
          refine lv_lload hx hb dX1_way_76 (lv_at hl 0 rfl) ?_
          refine lv_ldc2 hx hb hown (hts _ mX1_way_89) dX1_way_78 ?_
          refine q_lc_ne (tgt := 89) hx hb dX1_way_81 dX1_way_82 (by decide) (fun c39 => ?_) (fun c39 => ?_)
          · have h := q_f h c39
            refine lv_aload_n hx hb dX1_way_89 rfl (lv_at hl 2 rfl) ?_
            refine gfX1_back inX1_way mX1_way_48 hx hb hts hown hK hP dX1_way_90 ?_
            refine lv_iconst (v := (0 : Int32)) hx hb dX1_way_93 (by decide) ?_
            refine lv_aload_n hx hb dX1_way_94 rfl (lv_at hl 2 rfl) ?_
            refine gfX1_on inX1_way mX1_way_33 hx hb hts hown hK hP dX1_way_95 ?_
            refine lv_iload_n hx hb dX1_way_98 rfl (lv_at hl 4 rfl) ?_
            obtain ⟨hin, h⟩ := q_g h
            refine ldX1_on hx hb hK hP hin dX1_way_99 ?_
            obtain ⟨hin, h⟩ := q_g h
            obtain ⟨u40, eu40, h⟩ := q_l h
            refine stX1_back hx hb hK hP hD hS hin eu40 dX1_way_100 (fun H locs hP hD hS => ?_)
            refine lv_aload_n hx hb dX1_way_101 rfl (lv_at hl 2 rfl) ?_
            refine lv_iconst (v := (1 : Int32)) hx hb dX1_way_102 (by decide) ?_
            obtain ⟨u41, eu41, h⟩ := q_l h
            refine pfX1_steps inX1_way mX1_way_121 hx hb hts hown hK hP hD hS eu41 dX1_way_103 (fun H locs hP hD hS => ?_)
            refine lv_lload hx hb dX1_way_106 (lv_at hl 1 rfl) ?_
            refine lv_lload hx hb dX1_way_108 (lv_at hl 0 rfl) ?_
            refine q_lc_gt (tgt := 117) hx hb dX1_way_110 dX1_way_111 (by decide) (fun c42 => ?_) (fun c42 => ?_)
            · have h := q_t h c42
              refine lv_iconst (v := (1 : Int32)) hx hb dX1_way_117 (by decide) ?_
              refine lv_istore (lv' := [(9, .int (1 : Int32)), (7, .long r20), (5, .long r17), (0, .ref ((ad 0))), (1, .int x1), (2, .int x2), (3, .long x3)]) hx hb dX1_way_118 hl (by decide) rfl (fun ls hl => ?_)
              exact kX1_way_L120 C0 hK hA 200 u41 x1 x3 r20 (1 : Int32) _ _ _ h hP hD hS (lv_sub hl [3, 4, 6, 1, 0] rfl)
            · have h := q_f h c42
              refine lv_lload hx hb dX1_way_114 (lv_at hl 1 rfl) ?_
              exact q_lret hx hb hr hlocks hK hP hD hS (q_p h).1 (q_p h).2 dX1_way_116
          · have h := q_t h c39
            refine lv_ldc2 hx hb hown (hts _ mX1_way_124) dX1_way_85 ?_
            exact q_lret hx hb hr hlocks hK hP hD hS (q_p h).1 (q_p h).2 dX1_way_88
      · have h := q_t h c13
        refine lv_ldc2 hx hb hown (hts _ mX1_way_108) dX1_way_36 ?_
        exact q_lret hx hb hr hlocks hK hP hD hS (q_p h).1 (q_p h).2 dX1_way_39
    · have h := q_t h c9
      refine lv_ldc2 hx hb hown (hts _ mX1_way_104) dX1_way_21 ?_
      exact q_lret hx hb hr hlocks hK hP hD hS (q_p h).1 (q_p h).2 dX1_way_24
set_option maxHeartbeats 4000000 in
set_option maxRecDepth 100000 in
theorem kX1_step (l : Launch) (dC : Nat → ClassId) (dI : Nat → Nat → Nat) (cI cJ cZ : ClassId) (ad : Nat → Nat) (sz : Nat) (u : gS) (x1 : Int32) (r9 : Int32) (u9 : gS) (h : fX1_step u x1 = some (r9, u9)) : Ki l yX1_step wsX1_step rmX1_step (dC, dI) vwCl (tyS cI cJ cZ) (wX1 cI cJ cZ ad) sz u [.ref (ad 0), .int x1] r9 u9 := by
  refine g_ofW (cc := cX1_step) (maxL := 2) (ret := (some .int)) (wf := (wX1 cI cJ cZ ad)) (u := u) (Qf := fun A => va_Qi (fun r1 u1 => r1 = r9 ∧ u1 = u9) (gAt (dC, dI) vwCl (tyS cI cJ cZ) A (wX1 cI cJ cZ ad)) A) (by decide) rfl (Nat.le_of_ble_eq_true rfl) ?_
  intro p e s m below meth c A ls C0 hK hP hD hA hl
  have hS : va_S A s.heap s.heap [] := va_S.rf
  obtain ⟨hx, hb, hml, hown, hts, hr, hlocks⟩ := id C0
  have hl : lv_has ls 2 [(0, .ref ((ad 0))), (1, .int x1)] := hl
  unfold fX1_step at h
  refine lv_aload_n hx hb dX1_step_0 rfl (lv_at hl 0 rfl) ?_
  refine lv_iconst (v := (0 : Int32)) hx hb dX1_step_1 (by decide) ?_
  obtain ⟨u1, eu1, h⟩ := q_l h
  refine pfX1_thrown inX1_step mX1_step_51 hx hb hts hown hK hP hD hS eu1 dX1_step_2 (fun H locs hP hD hS => ?_)
  refine lv_iload_n hx hb dX1_step_5 rfl (lv_at hl 1 rfl) ?_
  refine lv_if_lt (tgt := 33) hx hb dX1_step_6 (by decide) (fun c2 => ?_) (fun c2 => ?_)
  · have h := q_t h c2
    refine lv_iconst (v := (-1 : Int32)) hx hb dX1_step_33 (by decide) ?_
    exact q_iret hx hb hr hlocks hK hP hD hS (q_p h).1 (q_p h).2 dX1_step_34
  · have h := q_f h c2
    refine lv_iload_n hx hb dX1_step_9 rfl (lv_at hl 1 rfl) ?_
    refine lv_aload_n hx hb dX1_step_10 rfl (lv_at hl 0 rfl) ?_
    refine gfX1_steps inX1_step mX1_step_121 hx hb hts hown hK hP dX1_step_11 ?_
    refine lv_icmp_ge (tgt := 33) hx hb dX1_step_14 (by decide) (fun c3 => ?_) (fun c3 => ?_)
    · have h := q_t h c3
      refine lv_iconst (v := (-1 : Int32)) hx hb dX1_step_33 (by decide) ?_
      exact q_iret hx hb hr hlocks hK hP hD hS (q_p h).1 (q_p h).2 dX1_step_34
    · have h := q_f h c3
      refine lv_aload_n hx hb dX1_step_17 rfl (lv_at hl 0 rfl) ?_
      refine gfX1_back inX1_step mX1_step_48 hx hb hts hown hK hP dX1_step_18 ?_
      refine lv_aload_n hx hb dX1_step_21 rfl (lv_at hl 0 rfl) ?_
      refine gfX1_steps inX1_step mX1_step_121 hx hb hts hown hK hP dX1_step_22 ?_
      refine lv_iconst (v := (1 : Int32)) hx hb dX1_step_25 (by decide) ?_
      refine lv_isub hx hb dX1_step_26 ?_
      refine lv_iload_n hx hb dX1_step_27 rfl (lv_at hl 1 rfl) ?_
      refine lv_isub hx hb dX1_step_28 ?_
      obtain ⟨hin, h⟩ := q_g h
      refine ldX1_back hx hb hK hP hin dX1_step_29 ?_
      refine lv_goto (tgt := 34) hx hb dX1_step_30 (by decide) ?_
      exact q_iret hx hb hr hlocks hK hP hD hS (q_p h).1 (q_p h).2 dX1_step_34
