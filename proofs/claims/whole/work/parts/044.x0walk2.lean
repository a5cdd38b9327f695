set_option maxHeartbeats 4000000 in
set_option maxRecDepth 100000 in
theorem kX0_keepSteps_L46 {l : Launch} {dC : Nat → ClassId} {dI : Nat → Nat → Nat} {cI cJ cZ : ClassId} {ad : Nat → Nat} {p : Program} {e : Env} {s : State} {m : MethodId} {below : List Frame} {meth : Method} {c : Code} {A : Nat → Prop} {args : Array Value} {u9 : gS} (C0 : gCtx p s m meth c args cX0_keepSteps 6 none wsX0_keepSteps yX0_keepSteps.cls) (hK : va_K (dC, dI) vwCl (tyS cI cJ cZ) s) (hA : ∀ q, s.heap.size ≤ q → A q) :
    ∀ (n : Nat) (u : gS) (y3 : Int32) (y5 : Int32) (H : Heap) (locs : List Loc) (ls : Array Slot), fX0_keepSteps_L46 n u y3 y5 = some u9 → va_P (dC, dI) vwCl ((wX0 cI cJ cZ ad) u) H → va_D A ((wX0 cI cJ cZ ad) u) → va_S A s.heap H locs → lv_has ls 6 [(0, .ref ((ad 0))), (3, .int y3), (5, .int y5)] → W p l e rmX0_keepSteps s m args below meth c H locs 0 0 (MQ below (va_Qv (fun u1 => u1 = u9) (gAt (dC, dI) vwCl (tyS cI cJ cZ) A (wX0 cI cJ cZ ad)) A) args s 0 0 A) (F0 m 46 ls []) := by
  obtain ⟨hx, hb, hml, hown, hts, hr, hlocks⟩ := id C0
  intro n
  induction n with
  | zero =>
    intro u y3 y5 H locs ls h
    cases h
  | succ n ih46 =>
    intro u y3 y5 H locs ls h hP hD hS hl
    have h : fX0_keepSteps_L46_b (fX0_keepSteps_L46 n) u y3 y5 = some u9 := h
    unfold fX0_keepSteps_L46_b at h
    refine lv_iload hx hb dX0_keepSteps_46 (lv_at hl 2 rfl) ?_
    refine lv_iconst (v := (-1 : Int32)) hx hb dX0_keepSteps_48 (by decide) ?_
    refine lv_icmp_eq (tgt := 103) hx hb dX0_keepSteps_49 (by decide) (fun c12 => ?_) (fun c12 => ?_)
    · have h := q_t h c12
      exact q_vret hx hb hr hlocks hK hP hD hS (Option.some.inj h) dX0_keepSteps_103
    · have h := q_f h c12
      refine lv_aload_n hx hb dX0_keepSteps_52 rfl (lv_at hl 0 rfl) ?_
      refine gfX0_stepCount inX0_keepSteps mX0_keepSteps_107 hx hb hts hown hK hP dX0_keepSteps_53 ?_
      refine lv_bipush (v := (121 : Int32)) hx hb dX0_keepSteps_56 (by decide) ?_
      refine lv_icmp_ge (tgt := 103) hx hb dX0_keepSteps_58 (by decide) (fun c13 => ?_) (fun c13 => ?_)
      · have h := q_t h c13
        exact q_vret hx hb hr hlocks hK hP hD hS (Option.some.inj h) dX0_keepSteps_103
      · have h := q_f h c13
        refine lv_aload_n hx hb dX0_keepSteps_61 rfl (lv_at hl 0 rfl) ?_
        refine gfX0_stepsBack inX0_keepSteps mX0_keepSteps_51 hx hb hts hown hK hP dX0_keepSteps_62 ?_
        refine lv_aload_n hx hb dX0_keepSteps_65 rfl (lv_at hl 0 rfl) ?_
        refine gfX0_stepCount inX0_keepSteps mX0_keepSteps_107 hx hb hts hown hK hP dX0_keepSteps_66 ?_
        refine lv_iload hx hb dX0_keepSteps_69 (lv_at hl 2 rfl) ?_
        obtain ⟨hin, h⟩ := q_g h
        obtain ⟨u14, eu14, h⟩ := q_l h
        refine stX0_stepsBack hx hb hK hP hD hS hin eu14 dX0_keepSteps_71 (fun H locs hP hD hS => ?_)
        refine lv_aload_n hx hb dX0_keepSteps_72 rfl (lv_at hl 0 rfl) ?_
        refine lv_dup hx hb dX0_keepSteps_73 rfl ?_
        refine gfX0_stepCount inX0_keepSteps mX0_keepSteps_107 hx hb hts hown hK hP dX0_keepSteps_74 ?_
        refine lv_iconst (v := (1 : Int32)) hx hb dX0_keepSteps_77 (by decide) ?_
        refine lv_iadd hx hb dX0_keepSteps_78 ?_
        obtain ⟨u15, eu15, h⟩ := q_l h
        refine pfX0_stepCount inX0_keepSteps mX0_keepSteps_107 hx hb hts hown hK hP hD hS eu15 dX0_keepSteps_79 (fun H locs hP hD hS => ?_)
        refine lv_iload hx hb dX0_keepSteps_82 (lv_at hl 2 rfl) ?_
        refine lv_iload_n hx hb dX0_keepSteps_84 rfl (lv_at hl 1 rfl) ?_
        refine lv_icmp_ne (tgt := 92) hx hb dX0_keepSteps_85 (by decide) (fun c16 => ?_) (fun c16 => ?_)
        · have h := q_f h c16
          refine lv_aload_n hx hb dX0_keepSteps_92 rfl (lv_at hl 0 rfl) ?_
          refine lv_iload hx hb dX0_keepSteps_93 (lv_at hl 2 rfl) ?_
          obtain ⟨r17, g19, h⟩ := q_s h
          refine q_Vi (rest := []) (As := [.int y5]) ⟨hx, hb, hml, hown, hts⟩ (kX0_pieceBefore l dC dI cI cJ cZ ad _ u15 y5 r17 g19) (cwV 1 hts gX0_keepSteps_X0_pieceBefore rfl rfl rfl hdX0_pieceBefore ⟨Nat.le_of_ble_eq_true rfl, Nat.le_of_ble_eq_true rfl⟩) (rvX0 hK hP) hK hP hD hS hA rfl hl.1 (Nat.le_of_ble_eq_true rfl) rfl dX0_keepSteps_95 ⟨Nat.zero_le _, Nat.zero_le _⟩ (fun H locs hP hD hS => ?_)
          refine lv_istore (lv' := [(5, .int r17), (0, .ref ((ad 0))), (3, .int y3)]) hx hb dX0_keepSteps_98 hl (by decide) rfl (fun ls hl => ?_)
          refine lv_goto (tgt := 46) hx hb dX0_keepSteps_100 (by decide) ?_
          exact ih46 u15 y3 r17 _ _ _ h hP hD hS (lv_sub hl [1, 2, 0] rfl)
        · have h := q_t h c16
          refine lv_iconst (v := (-1 : Int32)) hx hb dX0_keepSteps_88 (by decide) ?_
          refine lv_goto (tgt := 98) hx hb dX0_keepSteps_89 (by decide) ?_
          refine lv_istore (lv' := [(5, .int (-1 : Int32)), (0, .ref ((ad 0))), (3, .int y3)]) hx hb dX0_keepSteps_98 hl (by decide) rfl (fun ls hl => ?_)
          refine lv_goto (tgt := 46) hx hb dX0_keepSteps_100 (by decide) ?_
          exact ih46 u15 y3 (-1 : Int32) _ _ _ h hP hD hS (lv_sub hl [1, 2, 0] rfl)
set_option maxHeartbeats 4000000 in
set_option maxRecDepth 100000 in
theorem kX0_keepSteps (l : Launch) (dC : Nat → ClassId) (dI : Nat → Nat → Nat) (cI cJ cZ : ClassId) (ad : Nat → Nat) (sz : Nat) (u : gS) (x1 : Int32) (x2 : Int32) (u9 : gS) (h : fX0_keepSteps u x1 x2 = some u9) : Kv l yX0_keepSteps wsX0_keepSteps rmX0_keepSteps (dC, dI) vwCl (tyS cI cJ cZ) (wX0 cI cJ cZ ad) sz u [.ref (ad 0), .int x1, .int x2] u9 := by
  refine g_ofW (cc := cX0_keepSteps) (maxL := 6) (ret := none) (wf := (wX0 cI cJ cZ ad)) (u := u) (Qf := fun A => va_Qv (fun u1 => u1 = u9) (gAt (dC, dI) vwCl (tyS cI cJ cZ) A (wX0 cI cJ cZ ad)) A) (by decide) rfl (Nat.le_of_ble_eq_true rfl) ?_
  intro p e s m below meth c A ls C0 hK hP hD hA hl
  have hS : va_S A s.heap s.heap [] := va_S.rf
  obtain ⟨hx, hb, hml, hown, hts, hr, hlocks⟩ := id C0
  have hl : lv_has ls 6 [(0, .ref ((ad 0))), (1, .int x1), (2, .int x2)] := hl
  unfold fX0_keepSteps at h
  refine lv_aload_n hx hb dX0_keepSteps_0 rfl (lv_at hl 0 rfl) ?_
  refine gfX0_stopPieces inX0_keepSteps mX0_keepSteps_32 hx hb hts hown hK hP dX0_keepSteps_1 ?_
  refine lv_iload_n hx hb dX0_keepSteps_4 rfl (lv_at hl 1 rfl) ?_
  obtain ⟨hin, h⟩ := q_g h
  refine ldX0_stopPieces hx hb hK hP hin dX0_keepSteps_5 ?_
  obtain ⟨v1, ev1, h⟩ := q_l h
  refine q_topi ev1 ?_
  refine lv_istore_n (lv' := [(3, .int v1), (0, .ref ((ad 0))), (1, .int x1), (2, .int x2)]) hx hb dX0_keepSteps_6 rfl hl (by decide) rfl (fun ls hl => ?_)
  refine lv_aload_n hx hb dX0_keepSteps_7 rfl (lv_at hl 1 rfl) ?_
  refine gfX0_stopPieces inX0_keepSteps mX0_keepSteps_32 hx hb hts hown hK hP dX0_keepSteps_8 ?_
  refine lv_iload_n hx hb dX0_keepSteps_11 rfl (lv_at hl 3 rfl) ?_
  obtain ⟨hin, h⟩ := q_g h
  refine ldX0_stopPieces hx hb hK hP hin dX0_keepSteps_12 ?_
  obtain ⟨v2, ev2, h⟩ := q_l h
  refine q_topi ev2 ?_
  refine lv_istore (lv' := [(4, .int v2), (3, .int v1), (0, .ref ((ad 0))), (1, .int x1), (2, .int x2)]) hx hb dX0_keepSteps_13 hl (by decide) rfl (fun ls hl => ?_)
  refine lv_aload_n hx hb dX0_keepSteps_15 rfl (lv_at hl 2 rfl) ?_
  refine gfX0_stepsBack inX0_keepSteps mX0_keepSteps_51 hx hb hts hown hK hP dX0_keepSteps_16 ?_
  refine lv_iconst (v := (0 : Int32)) hx hb dX0_keepSteps_19 (by decide) ?_
  refine lv_iload hx hb dX0_keepSteps_20 (lv_at hl 0 rfl) ?_
  obtain ⟨hin, h⟩ := q_g h
  obtain ⟨u3, eu3, h⟩ := q_l h
  refine stX0_stepsBack hx hb hK hP hD hS hin eu3 dX0_keepSteps_22 (fun H locs hP hD hS => ?_)
  refine lv_aload_n hx hb dX0_keepSteps_23 rfl (lv_at hl 2 rfl) ?_
  refine lv_iconst (v := (1 : Int32)) hx hb dX0_keepSteps_24 (by decide) ?_
  obtain ⟨u4, eu4, h⟩ := q_l h
  refine pfX0_stepCount inX0_keepSteps mX0_keepSteps_107 hx hb hts hown hK hP hD hS eu4 dX0_keepSteps_25 (fun H locs hP hD hS => ?_)
  refine lv_aload_n hx hb dX0_keepSteps_28 rfl (lv_at hl 2 rfl) ?_
  refine lv_iload_n hx hb dX0_keepSteps_29 rfl (lv_at hl 3 rfl) ?_
  refine lv_iload_n hx hb dX0_keepSteps_30 rfl (lv_at hl 4 rfl) ?_
  obtain ⟨r5, g7, h⟩ := q_s h
  refine q_Vi (rest := []) (As := [.int x1, .int x2]) ⟨hx, hb, hml, hown, hts⟩ (kX0_isStraightOn l dC dI cI cJ cZ ad _ u4 x1 x2 r5 g7) (cwV 2 hts gX0_keepSteps_X0_isStraightOn rfl rfl rfl hdX0_isStraightOn ⟨Nat.le_of_ble_eq_true rfl, Nat.le_of_ble_eq_true rfl⟩) (rvX0 hK hP) hK hP hD hS hA rfl hl.1 (Nat.le_of_ble_eq_true rfl) rfl dX0_keepSteps_31 ⟨Nat.zero_le _, Nat.zero_le _⟩ (fun H locs hP hD hS => ?_)
  refine lv_if_eq (tgt := 38) hx hb dX0_keepSteps_34 (by decide) (fun c8 => ?_) (fun c8 => ?_)
  · have h := q_t h c8
    refine lv_aload_n hx hb dX0_keepSteps_38 rfl (lv_at hl 2 rfl) ?_
    refine lv_iload hx hb dX0_keepSteps_39 (lv_at hl 0 rfl) ?_
    obtain ⟨r9, g11, h⟩ := q_s h
    refine q_Vi (rest := []) (As := [.int v2]) ⟨hx, hb, hml, hown, hts⟩ (kX0_pieceBefore l dC dI cI cJ cZ ad _ u4 v2 r9 g11) (cwV 1 hts gX0_keepSteps_X0_pieceBefore rfl rfl rfl hdX0_pieceBefore ⟨Nat.le_of_ble_eq_true rfl, Nat.le_of_ble_eq_true rfl⟩) (rvX0 hK hP) hK hP hD hS hA rfl hl.1 (Nat.le_of_ble_eq_true rfl) rfl dX0_keepSteps_41 ⟨Nat.zero_le _, Nat.zero_le _⟩ (fun H locs hP hD hS => ?_)
    refine lv_istore (lv' := [(5, .int r9), (4, .int v2), (3, .int v1), (0, .ref ((ad 0))), (1, .int x1), (2, .int x2)]) hx hb dX0_keepSteps_44 hl (by decide) rfl (fun ls hl => ?_)
    exact kX0_keepSteps_L46 C0 hK hA 200 u4 v1 r9 _ _ _ h hP hD hS (lv_sub hl [3, 2, 0] rfl)
  · have h := q_f h c8
    exact q_vret hx hb hr hlocks hK hP hD hS (Option.some.inj h) dX0_keepSteps_37
set_option maxHeartbeats 4000000 in
set_option maxRecDepth 100000 in
theorem kX0_way (l : Launch) (dC : Nat → ClassId) (dI : Nat → Nat → Nat) (cI cJ cZ : ClassId) (ad : Nat → Nat) (sz : Nat) (u : gS) (x1 : Int32) (x2 : Int32) (x3 : Int64) (r9 : Int64) (u9 : gS) (h : fX0_way u x1 x2 x3 = some (r9, u9)) : Kl l yX0_way wsX0_way rmX0_way (dC, dI) vwCl (tyS cI cJ cZ) (wX0 cI cJ cZ ad) sz u [.ref (ad 0), .int x1, .int x2, .long x3] r9 u9 := by
  refine g_ofW (cc := cX0_way) (maxL := 7) (ret := (some .long)) (wf := (wX0 cI cJ cZ ad)) (u := u) (Qf := fun A => va_Ql (fun r1 u1 => r1 = r9 ∧ u1 = u9) (gAt (dC, dI) vwCl (tyS cI cJ cZ) A (wX0 cI cJ cZ ad)) A) (by decide) rfl (Nat.le_of_ble_eq_true rfl) ?_
  intro p e s m below meth c A ls C0 hK hP hD hA hl
  have hS : va_S A s.heap s.heap [] := va_S.rf
  obtain ⟨hx, hb, hml, hown, hts, hr, hlocks⟩ := id C0
  have hl : lv_has ls 7 [(0, .ref ((ad 0))), (1, .int x1), (2, .int x2), (3, .long x3)] := hl
  unfold fX0_way at h
  refine lv_aload_n hx hb dX0_way_0 rfl (lv_at hl 0 rfl) ?_
  refine lv_iload_n hx hb dX0_way_1 rfl (lv_at hl 1 rfl) ?_
  obtain ⟨r1, g3, h⟩ := q_s h
  refine q_Vi (rest := []) (As := [.int x1]) ⟨hx, hb, hml, hown, hts⟩ (kX0_isStop l dC dI cI cJ cZ ad _ u x1 r1 g3) (cwV 1 hts gX0_way_X0_isStop rfl rfl rfl hdX0_isStop ⟨Nat.le_of_ble_eq_true rfl, Nat.le_of_ble_eq_true rfl⟩) (rvX0 hK hP) hK hP hD hS hA rfl hl.1 (Nat.le_of_ble_eq_true rfl) rfl dX0_way_2 ⟨Nat.zero_le _, Nat.zero_le _⟩ (fun H locs hP hD hS => ?_)
  refine lv_if_eq (tgt := 16) hx hb dX0_way_5 (by decide) (fun c4 => ?_) (fun c4 => ?_)
  · have h := q_t h c4
    refine lv_ldc2 hx hb hown (hts _ mX0_way_97) dX0_way_16 ?_
    exact q_lret hx hb hr hlocks hK hP hD hS (q_p h).1 (q_p h).2 dX0_way_19
  · have h := q_f h c4
    refine lv_aload_n hx hb dX0_way_8 rfl (lv_at hl 0 rfl) ?_
    refine lv_iload_n hx hb dX0_way_9 rfl (lv_at hl 2 rfl) ?_
    obtain ⟨r5, g7, h⟩ := q_s h
    refine q_Vi (rest := []) (As := [.int x2]) ⟨hx, hb, hml, hown, hts⟩ (kX0_isStop l dC dI cI cJ cZ ad _ u x2 r5 g7) (cwV 1 hts gX0_way_X0_isStop rfl rfl rfl hdX0_isStop ⟨Nat.le_of_ble_eq_true rfl, Nat.le_of_ble_eq_true rfl⟩) (rvX0 hK hP) hK hP hD hS hA rfl hl.1 (Nat.le_of_ble_eq_true rfl) rfl dX0_way_10 ⟨Nat.zero_le _, Nat.zero_le _⟩ (fun H locs hP hD hS => ?_)
    refine lv_if_ne (tgt := 20) hx hb dX0_way_13 (by decide) (fun c8 => ?_) (fun c8 => ?_)
    · have h := q_f h c8
      refine lv_lload_n hx hb dX0_way_20 rfl (lv_at hl 3 rfl) ?_
      refine lv_lconst (v := (0 : Int64)) hx hb dX0_way_21 (by decide) ?_
      refine q_lc_lt (tgt := 34) hx hb dX0_way_22 dX0_way_23 (by decide) (fun c9 => ?_) (fun c9 => ?_)
      · have h := q_t h c9
        refine lv_ldc2 hx hb hown (hts _ mX0_way_101) dX0_way_34 ?_
        exact q_lret hx hb hr hlocks hK hP hD hS (q_p h).1 (q_p h).2 dX0_way_37
      · have h := q_f h c9
        refine lv_lload_n hx hb dX0_way_26 rfl (lv_at hl 3 rfl) ?_
        refine lv_ldc2 hx hb hown (hts _ mX0_way_99) dX0_way_27 ?_
        refine q_lc_le (tgt := 38) hx hb dX0_way_30 dX0_way_31 (by decide) (fun c10 => ?_) (fun c10 => ?_)
        · have h := q_t h c10
          refine lv_aload_n hx hb dX0_way_38 rfl (lv_at hl 0 rfl) ?_
          refine lv_iload_n hx hb dX0_way_39 rfl (lv_at hl 1 rfl) ?_
          refine lv_iload_n hx hb dX0_way_40 rfl (lv_at hl 2 rfl) ?_
          refine lv_lload_n hx hb dX0_way_41 rfl (lv_at hl 3 rfl) ?_
          obtain ⟨r11, u12, g13, h⟩ := q_s2 h
          refine q_Vl (rest := []) (As := [.int x1, .int x2, .long x3]) ⟨hx, hb, hml, hown, hts⟩ (kX0_leastArrival l dC dI cI cJ cZ ad _ u x1 x2 x3 r11 u12 g13) (cwV 3 hts gX0_way_X0_leastArrival rfl rfl rfl hdX0_leastArrival ⟨Nat.le_of_ble_eq_true rfl, Nat.le_of_ble_eq_true rfl⟩) (rvX0 hK hP) hK hP hD hS hA rfl hl.1 (Nat.le_of_ble_eq_true rfl) rfl dX0_way_42 ⟨Nat.zero_le _, Nat.zero_le _⟩ (fun H locs hP hD hS => ?_)
          refine lv_lstore (lv' := [(5, .long r11), (0, .ref ((ad 0))), (1, .int x1), (2, .int x2), (3, .long x3)]) hx hb dX0_way_45 hl (by decide) rfl (fun ls hl => ?_)
          refine lv_aload_n hx hb dX0_way_47 rfl (lv_at hl 1 rfl) ?_
          refine lv_iconst (v := (0 : Int32)) hx hb dX0_way_48 (by decide) ?_
          obtain ⟨u14, eu14, h⟩ := q_l h
          refine pfX0_stepCount inX0_way mX0_way_107 hx hb hts hown hK hP hD hS eu14 dX0_way_49 (fun H locs hP hD hS => ?_)
          refine lv_lload hx hb dX0_way_52 (lv_at hl 0 rfl) ?_
          refine lv_ldc2 hx hb hown (hts _ mX0_way_110) dX0_way_54 ?_
          refine q_lc_eq (tgt := 67) hx hb dX0_way_57 dX0_way_58 (by decide) (fun c15 => ?_) (fun c15 => ?_)
          · have h := q_t h c15
            refine lv_lload hx hb dX0_way_67 (lv_at hl 0 rfl) ?_
            exact q_lret hx hb hr hlocks hK hP hD hS (q_p h).1 (q_p h).2 dX0_way_69
          · have h := q_f h c15
            refine lv_aload_n hx hb dX0_way_61 rfl (lv_at hl 1 rfl) ?_
            refine lv_iload_n hx hb dX0_way_62 rfl (lv_at hl 2 rfl) ?_
            refine lv_iload_n hx hb dX0_way_63 rfl (lv_at hl 3 rfl) ?_
            obtain ⟨u17, g18, h⟩ := q_s h
            refine q_Vv (rest := []) (As := [.int x1, .int x2]) ⟨hx, hb, hml, hown, hts⟩ (kX0_keepSteps l dC dI cI cJ cZ ad _ u14 x1 x2 u17 g18) (cwV 2 hts gX0_way_X0_keepSteps rfl rfl rfl hdX0_keepSteps ⟨Nat.le_of_ble_eq_true rfl, Nat.le_of_ble_eq_true rfl⟩) (rvX0 hK hP) hK hP hD hS hA rfl hl.1 (Nat.le_of_ble_eq_true rfl) rfl dX0_way_64 ⟨Nat.zero_le _, Nat.zero_le _⟩ (fun H locs hP hD hS => ?_)
            refine lv_lload hx hb dX0_way_67 (lv_at hl 0 rfl) ?_
            exact q_lret hx hb hr hlocks hK hP hD hS (q_p h).1 (q_p h).2 dX0_way_69
        · have h := q_f h c10
          refine lv_ldc2 hx hb hown (hts _ mX0_way_101) dX0_way_34 ?_
          exact q_lret hx hb hr hlocks hK hP hD hS (q_p h).1 (q_p h).2 dX0_way_37
    · have h := q_t h c8
      refine lv_ldc2 hx hb hown (hts _ mX0_way_97) dX0_way_16 ?_
      exact q_lret hx hb hr hlocks hK hP hD hS (q_p h).1 (q_p h).2 dX0_way_19
set_option maxHeartbeats 4000000 in
set_option maxRecDepth 100000 in
theorem kX0_step (l : Launch) (dC : Nat → ClassId) (dI : Nat → Nat → Nat) (cI cJ cZ : ClassId) (ad : Nat → Nat) (sz : Nat) (u : gS) (x1 : Int32) (r9 : Int32) (h : fX0_step u x1 = some r9) : Ki l yX0_step wsX0_step rmX0_step (dC, dI) vwCl (tyS cI cJ cZ) (wX0 cI cJ cZ ad) sz u [.ref (ad 0), .int x1] r9 u := by
  refine g_ofW (cc := cX0_step) (maxL := 2) (ret := (some .int)) (wf := (wX0 cI cJ cZ ad)) (u := u) (Qf := fun A => va_Qi (fun r1 u1 => r1 = r9 ∧ u1 = u) (gAt (dC, dI) vwCl (tyS cI cJ cZ) A (wX0 cI cJ cZ ad)) A) (by decide) rfl (Nat.le_of_ble_eq_true rfl) ?_
  intro p e s m below meth c A ls C0 hK hP hD hA hl
  have hS : va_S A s.heap s.heap [] := va_S.rf
  obtain ⟨hx, hb, hml, hown, hts, hr, hlocks⟩ := id C0
  have hl : lv_has ls 2 [(0, .ref ((ad 0))), (1, .int x1)] := hl
  unfold fX0_step at h
  refine lv_iload_n hx hb dX0_step_0 rfl (lv_at hl 1 rfl) ?_
  refine lv_if_lt (tgt := 12) hx hb dX0_step_1 (by decide) (fun c1 => ?_) (fun c1 => ?_)
  · have h := q_t h c1
    refine lv_iconst (v := (-1 : Int32)) hx hb dX0_step_12 (by decide) ?_
    exact q_iret hx hb hr hlocks hK hP hD hS (Option.some.inj h) rfl dX0_step_13
  · have h := q_f h c1
    refine lv_iload_n hx hb dX0_step_4 rfl (lv_at hl 1 rfl) ?_
    refine lv_aload_n hx hb dX0_step_5 rfl (lv_at hl 0 rfl) ?_
    refine gfX0_stepCount inX0_step mX0_step_107 hx hb hts hown hK hP dX0_step_6 ?_
    refine lv_icmp_lt (tgt := 14) hx hb dX0_step_9 (by decide) (fun c2 => ?_) (fun c2 => ?_)
    · have h := q_t h c2
      refine lv_aload_n hx hb dX0_step_14 rfl (lv_at hl 0 rfl) ?_
      refine gfX0_stepsBack inX0_step mX0_step_51 hx hb hts hown hK hP dX0_step_15 ?_
      refine lv_aload_n hx hb dX0_step_18 rfl (lv_at hl 0 rfl) ?_
      refine gfX0_stepCount inX0_step mX0_step_107 hx hb hts hown hK hP dX0_step_19 ?_
      refine lv_iconst (v := (1 : Int32)) hx hb dX0_step_22 (by decide) ?_
      refine lv_isub hx hb dX0_step_23 ?_
      refine lv_iload_n hx hb dX0_step_24 rfl (lv_at hl 1 rfl) ?_
      refine lv_isub hx hb dX0_step_25 ?_
      obtain ⟨hin, h⟩ := q_g h
      refine ldX0_stepsBack hx hb hK hP hin dX0_step_26 ?_
      exact q_iret hx hb hr hlocks hK hP hD hS (Option.some.inj h) rfl dX0_step_27
    · have h := q_f h c2
      refine lv_iconst (v := (-1 : Int32)) hx hb dX0_step_12 (by decide) ?_
      exact q_iret hx hb hr hlocks hK hP hD hS (Option.some.inj h) rfl dX0_step_13
set_option maxHeartbeats 4000000 in
set_option maxRecDepth 100000 in
theorem kX0_gate (l : Launch) (dC : Nat → ClassId) (dI : Nat → Nat → Nat) (cI cJ cZ : ClassId) (ad : Nat → Nat) (sz : Nat) (u : gS) (x1 : Int32) (x2 : Int64) (x3 : Int64) (r9 : Int32) (u9 : gS) (h : fX0_gate u x1 x2 x3 = some (r9, u9)) : Ki l yX0_gate wsX0_gate rmX0_gate (dC, dI) vwCl (tyS cI cJ cZ) (wX0 cI cJ cZ ad) sz u [.ref (ad 0), .int x1, .long x2, .long x3] r9 u9 := by
  refine g_ofW (cc := cX0_gate) (maxL := 7) (ret := (some .int)) (wf := (wX0 cI cJ cZ ad)) (u := u) (Qf := fun A => va_Qi (fun r1 u1 => r1 = r9 ∧ u1 = u9) (gAt (dC, dI) vwCl (tyS cI cJ cZ) A (wX0 cI cJ cZ ad)) A) (by decide) rfl (Nat.le_of_ble_eq_true rfl) ?_
  intro p e s m below meth c A ls C0 hK hP hD hA hl
  have hS : va_S A s.heap s.heap [] := va_S.rf
  obtain ⟨hx, hb, hml, hown, hts, hr, hlocks⟩ := id C0
  have hl : lv_has ls 7 [(0, .ref ((ad 0))), (1, .int x1), (2, .long x2), (4, .long x3)] := hl
  unfold fX0_gate at h
  refine lv_aload_n hx hb dX0_gate_0 rfl (lv_at hl 0 rfl) ?_
  refine lv_iload_n hx hb dX0_gate_1 rfl (lv_at hl 1 rfl) ?_
  obtain ⟨r1, g3, h⟩ := q_s h
  refine q_Vi (rest := []) (As := [.int x1]) ⟨hx, hb, hml, hown, hts⟩ (kX0_isPiece l dC dI cI cJ cZ ad _ u x1 r1 g3) (cwV 1 hts gX0_gate_X0_isPiece rfl rfl rfl hdX0_isPiece ⟨Nat.le_of_ble_eq_true rfl, Nat.le_of_ble_eq_true rfl⟩) (rvX0 hK hP) hK hP hD hS hA rfl hl.1 (Nat.le_of_ble_eq_true rfl) rfl dX0_gate_2 ⟨Nat.zero_le _, Nat.zero_le _⟩ (fun H locs hP hD hS => ?_)
  refine lv_if_ne (tgt := 11) hx hb dX0_gate_5 (by decide) (fun c4 => ?_) (fun c4 => ?_)
  · have h := q_f h c4
    refine lv_lload_n hx hb dX0_gate_11 rfl (lv_at hl 2 rfl) ?_
    refine lv_lconst (v := (0 : Int64)) hx hb dX0_gate_12 (by decide) ?_
    refine q_lc_ne (tgt := 28) hx hb dX0_gate_13 dX0_gate_14 (by decide) (fun c5 => ?_) (fun c5 => ?_)
    · have h := q_f h c5
      refine lv_iconst (v := (0 : Int32)) hx hb dX0_gate_28 (by decide) ?_
      refine lv_istore (lv' := [(6, .int (0 : Int32)), (0, .ref ((ad 0))), (1, .int x1), (2, .long x2), (4, .long x3)]) hx hb dX0_gate_29 hl (by decide) rfl (fun ls hl => ?_)
      refine lv_iload hx hb dX0_gate_31 (lv_at hl 0 rfl) ?_
      refine lv_if_ne (tgt := 61) hx hb dX0_gate_33 (by decide) (fun c6 => ?_) (fun c6 => ?_)
      · have h := q_f h c6
        refine lv_aload_n hx hb dX0_gate_61 rfl (lv_at hl 1 rfl) ?_
        refine gfX0_opens inX0_gate mX0_gate_23 hx hb hts hown hK hP dX0_gate_62 ?_
        refine lv_iload_n hx hb dX0_gate_65 rfl (lv_at hl 2 rfl) ?_
        refine lv_lload_n hx hb dX0_gate_66 rfl (lv_at hl 3 rfl) ?_
        obtain ⟨hin, h⟩ := q_g h
        obtain ⟨u7, eu7, h⟩ := q_l h
        refine stX0_opens hx hb hK hP hD hS hin eu7 dX0_gate_67 (fun H locs hP hD hS => ?_)
        refine lv_aload_n hx hb dX0_gate_68 rfl (lv_at hl 1 rfl) ?_
        refine gfX0_closes inX0_gate mX0_gate_26 hx hb hts hown hK hP dX0_gate_69 ?_
        refine lv_iload_n hx hb dX0_gate_72 rfl (lv_at hl 2 rfl) ?_
        refine lv_lload hx hb dX0_gate_73 (lv_at hl 4 rfl) ?_
        obtain ⟨hin, h⟩ := q_g h
        obtain ⟨u8, eu8, h⟩ := q_l h
        refine stX0_closes hx hb hK hP hD hS hin eu8 dX0_gate_75 (fun H locs hP hD hS => ?_)
        refine lv_iload hx hb dX0_gate_76 (lv_at hl 0 rfl) ?_
        refine lv_if_eq (tgt := 85) hx hb dX0_gate_78 (by decide) (fun c9 => ?_) (fun c9 => ?_)
        · have h := q_t h c9
          refine lv_iconst (v := (1 : Int32)) hx hb dX0_gate_85 (by decide) ?_
          exact q_iret hx hb hr hlocks hK hP hD hS (q_p h).1 (q_p h).2 dX0_gate_86
        · have h := q_f h c9
          refine lv_iconst (v := (0 : Int32)) hx hb dX0_gate_81 (by decide) ?_
          refine lv_goto (tgt := 86) hx hb dX0_gate_82 (by decide) ?_
          exact q_iret hx hb hr hlocks hK hP hD hS (q_p h).1 (q_p h).2 dX0_gate_86
      · have h := q_t h c6
        refine lv_lload_n hx hb dX0_gate_36 rfl (lv_at hl 3 rfl) ?_
        refine lv_lconst (v := (0 : Int64)) hx hb dX0_gate_37 (by decide) ?_
        refine q_lc_lt (tgt := 58) hx hb dX0_gate_38 dX0_gate_39 (by decide) (fun c10 => ?_) (fun c10 => ?_)
        · have h := q_t h c10
          refine lv_bipush (v := (-12 : Int32)) hx hb dX0_gate_58 (by decide) ?_
          exact q_iret hx hb hr hlocks hK hP hD hS (q_p h).1 (q_p h).2 dX0_gate_60
        · have h := q_f h c10
          refine lv_lload_n hx hb dX0_gate_42 rfl (lv_at hl 3 rfl) ?_
          refine lv_lload hx hb dX0_gate_43 (lv_at hl 4 rfl) ?_
          refine q_lc_ge (tgt := 58) hx hb dX0_gate_45 dX0_gate_46 (by decide) (fun c11 => ?_) (fun c11 => ?_)
          · have h := q_t h c11
            refine lv_bipush (v := (-12 : Int32)) hx hb dX0_gate_58 (by decide) ?_
            exact q_iret hx hb hr hlocks hK hP hD hS (q_p h).1 (q_p h).2 dX0_gate_60
          · have h := q_f h c11
            refine lv_lload hx hb dX0_gate_49 (lv_at hl 4 rfl) ?_
            refine lv_ldc2 hx hb hown (hts _ mX0_gate_116) dX0_gate_51 ?_
            refine q_lc_le (tgt := 61) hx hb dX0_gate_54 dX0_gate_55 (by decide) (fun c12 => ?_) (fun c12 => ?_)
            · have h := q_t h c12
              refine lv_aload_n hx hb dX0_gate_61 rfl (lv_at hl 1 rfl) ?_
              refine gfX0_opens inX0_gate mX0_gate_23 hx hb hts hown hK hP dX0_gate_62 ?_
              refine lv_iload_n hx hb dX0_gate_65 rfl (lv_at hl 2 rfl) ?_
              refine lv_lload_n hx hb dX0_gate_66 rfl (lv_at hl 3 rfl) ?_
              obtain ⟨hin, h⟩ := q_g h
              obtain ⟨u13, eu13, h⟩ := q_l h
              refine stX0_opens hx hb hK hP hD hS hin eu13 dX0_gate_67 (fun H locs hP hD hS => ?_)
              refine lv_aload_n hx hb dX0_gate_68 rfl (lv_at hl 1 rfl) ?_
              refine gfX0_closes inX0_gate mX0_gate_26 hx hb hts hown hK hP dX0_gate_69 ?_
              refine lv_iload_n hx hb dX0_gate_72 rfl (lv_at hl 2 rfl) ?_
              refine lv_lload hx hb dX0_gate_73 (lv_at hl 4 rfl) ?_
              obtain ⟨hin, h⟩ := q_g h
              obtain ⟨u14, eu14, h⟩ := q_l h
              refine stX0_closes hx hb hK hP hD hS hin eu14 dX0_gate_75 (fun H locs hP hD hS => ?_)
              refine lv_iload hx hb dX0_gate_76 (lv_at hl 0 rfl) ?_
              refine lv_if_eq (tgt := 85) hx hb dX0_gate_78 (by decide) (fun c15 => ?_) (fun c15 => ?_)
              · have h := q_t h c15
                refine lv_iconst (v := (1 : Int32)) hx hb dX0_gate_85 (by decide) ?_
                exact q_iret hx hb hr hlocks hK hP hD hS (q_p h).1 (q_p h).2 dX0_gate_86
              · have h := q_f h c15
                refine lv_iconst (v := (0 : Int32)) hx hb dX0_gate_81 (by decide) ?_
                refine lv_goto (tgt := 86) hx hb dX0_gate_82 (by decide) ?_
                exact q_iret hx hb hr hlocks hK hP hD hS (q_p h).1 (q_p h).2 dX0_gate_86
            · have h := q_f h c12
              refine lv_bipush (v := (-12 : Int32)) hx hb dX0_gate_58 (by decide) ?_
              exact q_iret hx hb hr hlocks hK hP hD hS (q_p h).1 (q_p h).2 dX0_gate_60
    · have h := q_t h c5
      refine lv_lload hx hb dX0_gate_17 (lv_at hl 3 rfl) ?_
      refine lv_lconst (v := (0 : Int64)) hx hb dX0_gate_19 (by decide) ?_
      refine q_lc_ne (tgt := 28) hx hb dX0_gate_20 dX0_gate_21 (by decide) (fun c16 => ?_) (fun c16 => ?_)
      · have h := q_f h c16
        refine lv_iconst (v := (0 : Int32)) hx hb dX0_gate_28 (by decide) ?_
        refine lv_istore (lv' := [(6, .int (0 : Int32)), (0, .ref ((ad 0))), (1, .int x1), (2, .long x2), (4, .long x3)]) hx hb dX0_gate_29 hl (by decide) rfl (fun ls hl => ?_)
        refine lv_iload hx hb dX0_gate_31 (lv_at hl 0 rfl) ?_
        refine lv_if_ne (tgt := 61) hx hb dX0_gate_33 (by decide) (fun c17 => ?_) (fun c17 => ?_)
        · have h := q_f h c17
          refine lv_aload_n hx hb dX0_gate_61 rfl (lv_at hl 1 rfl) ?_
          refine gfX0_opens inX0_gate mX0_gate_23 hx hb hts hown hK hP dX0_gate_62 ?_
          refine lv_iload_n hx hb dX0_gate_65 rfl (lv_at hl 2 rfl) ?_
          refine lv_lload_n hx hb dX0_gate_66 rfl (lv_at hl 3 rfl) ?_
          obtain ⟨hin, h⟩ := q_g h
          obtain ⟨u18, eu18, h⟩ := q_l h
          refine stX0_opens hx hb hK hP hD hS hin eu18 dX0_gate_67 (fun H locs hP hD hS => ?_)
          refine lv_aload_n hx hb dX0_gate_68 rfl (lv_at hl 1 rfl) ?_
          refine gfX0_closes inX0_gate mX0_gate_26 hx hb hts hown hK hP dX0_gate_69 ?_
          refine lv_iload_n hx hb dX0_gate_72 rfl (lv_at hl 2 rfl) ?_
          refine lv_lload hx hb dX0_gate_73 (lv_at hl 4 rfl) ?_
          obtain ⟨hin, h⟩ := q_g h
          obtain ⟨u19, eu19, h⟩ := q_l h
          refine stX0_closes hx hb hK hP hD hS hin eu19 dX0_gate_75 (fun H locs hP hD hS => ?_)
          refine lv_iload hx hb dX0_gate_76 (lv_at hl 0 rfl) ?_
          refine lv_if_eq (tgt := 85) hx hb dX0_gate_78 (by decide) (fun c20 => ?_) (fun c20 => ?_)
          · have h := q_t h c20
            refine lv_iconst (v := (1 : Int32)) hx hb dX0_gate_85 (by decide) ?_
            exact q_iret hx hb hr hlocks hK hP hD hS (q_p h).1 (q_p h).2 dX0_gate_86
          · have h := q_f h c20
            refine lv_iconst (v := (0 : Int32)) hx hb dX0_gate_81 (by decide) ?_
            refine lv_goto (tgt := 86) hx hb dX0_gate_82 (by decide) ?_
            exact q_iret hx hb hr hlocks hK hP hD hS (q_p h).1 (q_p h).2 dX0_gate_86
        · have h := q_t h c17
          refine lv_lload_n hx hb dX0_gate_36 rfl (lv_at hl 3 rfl) ?_
          refine lv_lconst (v := (0 : Int64)) hx hb dX0_gate_37 (by decide) ?_
          refine q_lc_lt (tgt := 58) hx hb dX0_gate_38 dX0_gate_39 (by decide) (fun c21 => ?_) (fun c21 => ?_)
          · have h := q_t h c21
            refine lv_bipush (v := (-12 : Int32)) hx hb dX0_gate_58 (by decide) ?_
            exact q_iret hx hb hr hlocks hK hP hD hS (q_p h).1 (q_p h).2 dX0_gate_60
          · have h := q_f h c21
            refine lv_lload_n hx hb dX0_gate_42 rfl (lv_at hl 3 rfl) ?_
            refine lv_lload hx hb dX0_gate_43 (lv_at hl 4 rfl) ?_
            refine q_lc_ge (tgt := 58) hx hb dX0_gate_45 dX0_gate_46 (by decide) (fun c22 => ?_) (fun c22 => ?_)
            · have h := q_t h c22
              refine lv_bipush (v := (-12 : Int32)) hx hb dX0_gate_58 (by decide) ?_
              exact q_iret hx hb hr hlocks hK hP hD hS (q_p h).1 (q_p h).2 dX0_gate_60
            · have h := q_f h c22
              refine lv_lload hx hb dX0_gate_49 (lv_at hl 4 rfl) ?_
              refine lv_ldc2 hx hb hown (hts _ mX0_gate_116) dX0_gate_51 ?_
              refine q_lc_le (tgt := 61) hx hb dX0_gate_54 dX0_gate_55 (by decide) (fun c23 => ?_) (fun c23 => ?_)
              · have h := q_t h c23
                refine lv_aload_n hx hb dX0_gate_61 rfl (lv_at hl 1 rfl) ?_
                refine gfX0_opens inX0_gate mX0_gate_23 hx hb hts hown hK hP dX0_gate_62 ?_
                refine lv_iload_n hx hb dX0_gate_65 rfl (lv_at hl 2 rfl) ?_
                refine lv_lload_n hx hb dX0_gate_66 rfl (lv_at hl 3 rfl) ?_
                obtain ⟨hin, h⟩ := q_g h
                obtain ⟨u24, eu24, h⟩ := q_l h
                refine stX0_opens hx hb hK hP hD hS hin eu24 dX0_gate_67 (fun H locs hP hD hS => ?_)
                refine lv_aload_n hx hb dX0_gate_68 rfl (lv_at hl 1 rfl) ?_
                refine gfX0_closes inX0_gate mX0_gate_26 hx hb hts hown hK hP dX0_gate_69 ?_
                refine lv_iload_n hx hb dX0_gate_72 rfl (lv_at hl 2 rfl) ?_
                refine lv_lload hx hb dX0_gate_73 (lv_at hl 4 rfl) ?_
                obtain ⟨hin, h⟩ := q_g h
                obtain ⟨u25, eu25, h⟩ := q_l h
                refine stX0_closes hx hb hK hP hD hS hin eu25 dX0_gate_75 (fun H locs hP hD hS => ?_)
                refine lv_iload hx hb dX0_gate_76 (lv_at hl 0 rfl) ?_
                refine lv_if_eq (tgt := 85) hx hb dX0_gate_78 (by decide) (fun c26 => ?_) (fun c26 => ?_)
                · have h := q_t h c26
                  refine lv_iconst (v := (1 : Int32)) hx hb dX0_gate_85 (by decide) ?_
                  exact q_iret hx hb hr hlocks hK hP hD hS (q_p h).1 (q_p h).2 dX0_gate_86
                · have h := q_f h c26
                  refine lv_iconst (v := (0 : Int32)) hx hb dX0_gate_81 (by decide) ?_
                  refine lv_goto (tgt := 86) hx hb dX0_gate_82 (by decide) ?_
                  exact q_iret hx hb hr hlocks hK hP hD hS (q_p h).1 (q_p h).2 dX0_gate_86
              · have h := q_f h c23
                refine lv_bipush (v := (-12 : Int32)) hx hb dX0_gate_58 (by decide) ?_
                exact q_iret hx hb hr hlocks hK hP hD hS (q_p h).1 (q_p h).2 dX0_gate_60
      · have h := q_t h c16
        refine lv_iconst (v := (1 : Int32)) hx hb dX0_gate_24 (by decide) ?_
        refine lv_goto (tgt := 29) hx hb dX0_gate_25 (by decide) ?_
        refine lv_istore (lv' := [(6, .int (1 : Int32)), (0, .ref ((ad 0))), (1, .int x1), (2, .long x2), (4, .long x3)]) hx hb dX0_gate_29 hl (by decide) rfl (fun ls hl => ?_)
        refine lv_iload hx hb dX0_gate_31 (lv_at hl 0 rfl) ?_
        refine lv_if_ne (tgt := 61) hx hb dX0_gate_33 (by decide) (fun c27 => ?_) (fun c27 => ?_)
        · have h := q_f h c27
          refine lv_aload_n hx hb dX0_gate_61 rfl (lv_at hl 1 rfl) ?_
          refine gfX0_opens inX0_gate mX0_gate_23 hx hb hts hown hK hP dX0_gate_62 ?_
          refine lv_iload_n hx hb dX0_gate_65 rfl (lv_at hl 2 rfl) ?_
          refine lv_lload_n hx hb dX0_gate_66 rfl (lv_at hl 3 rfl) ?_
          obtain ⟨hin, h⟩ := q_g h
          obtain ⟨u28, eu28, h⟩ := q_l h
          refine stX0_opens hx hb hK hP hD hS hin eu28 dX0_gate_67 (fun H locs hP hD hS => ?_)
          refine lv_aload_n hx hb dX0_gate_68 rfl (lv_at hl 1 rfl) ?_
          refine gfX0_closes inX0_gate mX0_gate_26 hx hb hts hown hK hP dX0_gate_69 ?_
          refine lv_iload_n hx hb dX0_gate_72 rfl (lv_at hl 2 rfl) ?_
          refine lv_lload hx hb dX0_gate_73 (lv_at hl 4 rfl) ?_
          obtain ⟨hin, h⟩ := q_g h
          obtain ⟨u29, eu29, h⟩ := q_l h
          refine stX0_closes hx hb hK hP hD hS hin eu29 dX0_gate_75 (fun H locs hP hD hS => ?_)
          refine lv_iload hx hb dX0_gate_76 (lv_at hl 0 rfl) ?_
          refine lv_if_eq (tgt := 85) hx hb dX0_gate_78 (by decide) (fun c30 => ?_) (fun c30 => ?_)
          · have h := q_t h c30
            refine lv_iconst (v := (1 : Int32)) hx hb dX0_gate_85 (by decide) ?_
            exact q_iret hx hb hr hlocks hK hP hD hS (q_p h).1 (q_p h).2 dX0_gate_86
          · have h := q_f h c30
            refine lv_iconst (v := (0 : Int32)) hx hb dX0_gate_81 (by decide) ?_
            refine lv_goto (tgt := 86) hx hb dX0_gate_82 (by decide) ?_
            exact q_iret hx hb hr hlocks hK hP hD hS (q_p h).1 (q_p h).2 dX0_gate_86
        · have h := q_t h c27
          refine lv_lload_n hx hb dX0_gate_36 rfl (lv_at hl 3 rfl) ?_
          refine lv_lconst (v := (0 : Int64)) hx hb dX0_gate_37 (by decide) ?_
          refine q_lc_lt (tgt := 58) hx hb dX0_gate_38 dX0_gate_39 (by decide) (fun c31 => ?_) (fun c31 => ?_)
          · have h := q_t h c31
            refine lv_bipush (v := (-12 : Int32)) hx hb dX0_gate_58 (by decide) ?_
            exact q_iret hx hb hr hlocks hK hP hD hS (q_p h).1 (q_p h).2 dX0_gate_60
          · have h := q_f h c31
            refine lv_lload_n hx hb dX0_gate_42 rfl (lv_at hl 3 rfl) ?_
            refine lv_lload hx hb dX0_gate_43 (lv_at hl 4 rfl) ?_
            refine q_lc_ge (tgt := 58) hx hb dX0_gate_45 dX0_gate_46 (by decide) (fun c32 => ?_) (fun c32 => ?_)
            · have h := q_t h c32
              refine lv_bipush (v := (-12 : Int32)) hx hb dX0_gate_58 (by decide) ?_
              exact q_iret hx hb hr hlocks hK hP hD hS (q_p h).1 (q_p h).2 dX0_gate_60
            · have h := q_f h c32
              refine lv_lload hx hb dX0_gate_49 (lv_at hl 4 rfl) ?_
              refine lv_ldc2 hx hb hown (hts _ mX0_gate_116) dX0_gate_51 ?_
              refine q_lc_le (tgt := 61) hx hb dX0_gate_54 dX0_gate_55 (by decide) (fun c33 => ?_) (fun c33 => ?_)
              · have h := q_t h c33
                refine lv_aload_n hx hb dX0_gate_61 rfl (lv_at hl 1 rfl) ?_
                refine gfX0_opens inX0_gate mX0_gate_23 hx hb hts hown hK hP dX0_gate_62 ?_
                refine lv_iload_n hx hb dX0_gate_65 rfl (lv_at hl 2 rfl) ?_
                refine lv_lload_n hx hb dX0_gate_66 rfl (lv_at hl 3 rfl) ?_
                obtain ⟨hin, h⟩ := q_g h
                obtain ⟨u34, eu34, h⟩ := q_l h
                refine stX0_opens hx hb hK hP hD hS hin eu34 dX0_gate_67 (fun H locs hP hD hS => ?_)
                refine lv_aload_n hx hb dX0_gate_68 rfl (lv_at hl 1 rfl) ?_
                refine gfX0_closes inX0_gate mX0_gate_26 hx hb hts hown hK hP dX0_gate_69 ?_
                refine lv_iload_n hx hb dX0_gate_72 rfl (lv_at hl 2 rfl) ?_
                refine lv_lload hx hb dX0_gate_73 (lv_at hl 4 rfl) ?_
                obtain ⟨hin, h⟩ := q_g h
                obtain ⟨u35, eu35, h⟩ := q_l h
                refine stX0_closes hx hb hK hP hD hS hin eu35 dX0_gate_75 (fun H locs hP hD hS => ?_)
                refine lv_iload hx hb dX0_gate_76 (lv_at hl 0 rfl) ?_
                refine lv_if_eq (tgt := 85) hx hb dX0_gate_78 (by decide) (fun c36 => ?_) (fun c36 => ?_)
                · have h := q_t h c36
                  refine lv_iconst (v := (1 : Int32)) hx hb dX0_gate_85 (by decide) ?_
                  exact q_iret hx hb hr hlocks hK hP hD hS (q_p h).1 (q_p h).2 dX0_gate_86
                · have h := q_f h c36
                  refine lv_iconst (v := (0 : Int32)) hx hb dX0_gate_81 (by decide) ?_
                  refine lv_goto (tgt := 86) hx hb dX0_gate_82 (by decide) ?_
                  exact q_iret hx hb hr hlocks hK hP hD hS (q_p h).1 (q_p h).2 dX0_gate_86
              · have h := q_f h c33
                refine lv_bipush (v := (-12 : Int32)) hx hb dX0_gate_58 (by decide) ?_
                exact q_iret hx hb hr hlocks hK hP hD hS (q_p h).1 (q_p h).2 dX0_gate_60
  · have h := q_t h c4
    refine lv_bipush (v := (-11 : Int32)) hx hb dX0_gate_8 (by decide) ?_
    exact q_iret hx hb hr hlocks hK hP hD hS (q_p h).1 (q_p h).2 dX0_gate_10
set_option maxHeartbeats 4000000 in
set_option maxRecDepth 100000 in
theorem kX0_change (l : Launch) (dC : Nat → ClassId) (dI : Nat → Nat → Nat) (cI cJ cZ : ClassId) (ad : Nat → Nat) (sz : Nat) (u : gS) (x1 : Int32) (x2 : Int64) (r9 : Int32) (u9 : gS) (h : fX0_change u x1 x2 = some (r9, u9)) : Ki l yX0_change wsX0_change rmX0_change (dC, dI) vwCl (tyS cI cJ cZ) (wX0 cI cJ cZ ad) sz u [.ref (ad 0), .int x1, .long x2] r9 u9 := by
  refine g_ofW (cc := cX0_change) (maxL := 5) (ret := (some .int)) (wf := (wX0 cI cJ cZ ad)) (u := u) (Qf := fun A => va_Qi (fun r1 u1 => r1 = r9 ∧ u1 = u9) (gAt (dC, dI) vwCl (tyS cI cJ cZ) A (wX0 cI cJ cZ ad)) A) (by decide) rfl (Nat.le_of_ble_eq_true rfl) ?_
  intro p e s m below meth c A ls C0 hK hP hD hA hl
  have hS : va_S A s.heap s.heap [] := va_S.rf
  obtain ⟨hx, hb, hml, hown, hts, hr, hlocks⟩ := id C0
  have hl : lv_has ls 5 [(0, .ref ((ad 0))), (1, .int x1), (2, .long x2)] := hl
  unfold fX0_change at h
  refine lv_aload_n hx hb dX0_change_0 rfl (lv_at hl 0 rfl) ?_
  refine lv_iload_n hx hb dX0_change_1 rfl (lv_at hl 1 rfl) ?_
  obtain ⟨r1, g3, h⟩ := q_s h
  refine q_Vi (rest := []) (As := [.int x1]) ⟨hx, hb, hml, hown, hts⟩ (kX0_isPiece l dC dI cI cJ cZ ad _ u x1 r1 g3) (cwV 1 hts gX0_change_X0_isPiece rfl rfl rfl hdX0_isPiece ⟨Nat.le_of_ble_eq_true rfl, Nat.le_of_ble_eq_true rfl⟩) (rvX0 hK hP) hK hP hD hS hA rfl hl.1 (Nat.le_of_ble_eq_true rfl) rfl dX0_change_2 ⟨Nat.zero_le _, Nat.zero_le _⟩ (fun H locs hP hD hS => ?_)
  refine lv_if_ne (tgt := 11) hx hb dX0_change_5 (by decide) (fun c4 => ?_) (fun c4 => ?_)
  · have h := q_f h c4
    refine lv_lload_n hx hb dX0_change_11 rfl (lv_at hl 2 rfl) ?_
    refine lv_lconst (v := (1 : Int64)) hx hb dX0_change_12 (by decide) ?_
    refine q_lc_lt (tgt := 25) hx hb dX0_change_13 dX0_change_14 (by decide) (fun c5 => ?_) (fun c5 => ?_)
    · have h := q_t h c5
      refine lv_bipush (v := (-12 : Int32)) hx hb dX0_change_25 (by decide) ?_
      exact q_iret hx hb hr hlocks hK hP hD hS (q_p h).1 (q_p h).2 dX0_change_27
    · have h := q_f h c5
      refine lv_lload_n hx hb dX0_change_17 rfl (lv_at hl 2 rfl) ?_
      refine lv_ldc2 hx hb hown (hts _ mX0_change_60) dX0_change_18 ?_
      refine q_lc_le (tgt := 28) hx hb dX0_change_21 dX0_change_22 (by decide) (fun c6 => ?_) (fun c6 => ?_)
      · have h := q_t h c6
        refine lv_aload_n hx hb dX0_change_28 rfl (lv_at hl 0 rfl) ?_
        refine gfX0_speeds inX0_change mX0_change_20 hx hb hts hown hK hP dX0_change_29 ?_
        refine lv_iload_n hx hb dX0_change_32 rfl (lv_at hl 1 rfl) ?_
        obtain ⟨hin, h⟩ := q_g h
        refine ldX0_speeds hx hb hK hP hin dX0_change_33 ?_
        refine lv_l2i (v := (gl u 1 x1.toNatClampNeg).toInt32) hx hb dX0_change_34 rfl ?_
        obtain ⟨v7, ev7, h⟩ := q_l h
        refine q_topi ev7 ?_
        refine lv_istore (lv' := [(4, .int v7), (0, .ref ((ad 0))), (1, .int x1), (2, .long x2)]) hx hb dX0_change_35 hl (by decide) rfl (fun ls hl => ?_)
        refine lv_aload_n hx hb dX0_change_37 rfl (lv_at hl 1 rfl) ?_
        refine gfX0_speeds inX0_change mX0_change_20 hx hb hts hown hK hP dX0_change_38 ?_
        refine lv_iload_n hx hb dX0_change_41 rfl (lv_at hl 2 rfl) ?_
        refine lv_lload_n hx hb dX0_change_42 rfl (lv_at hl 3 rfl) ?_
        obtain ⟨hin, h⟩ := q_g h
        obtain ⟨u8, eu8, h⟩ := q_l h
        refine stX0_speeds hx hb hK hP hD hS hin eu8 dX0_change_43 (fun H locs hP hD hS => ?_)
        refine lv_iload hx hb dX0_change_44 (lv_at hl 0 rfl) ?_
        exact q_iret hx hb hr hlocks hK hP hD hS (q_p h).1 (q_p h).2 dX0_change_46
      · have h := q_f h c6
        refine lv_bipush (v := (-12 : Int32)) hx hb dX0_change_25 (by decide) ?_
        exact q_iret hx hb hr hlocks hK hP hD hS (q_p h).1 (q_p h).2 dX0_change_27
  · have h := q_t h c4
    refine lv_bipush (v := (-11 : Int32)) hx hb dX0_change_8 (by decide) ?_
    exact q_iret hx hb hr hlocks hK hP hD hS (q_p h).1 (q_p h).2 dX0_change_10
set_option maxHeartbeats 4000000 in
set_option maxRecDepth 100000 in
theorem kX0_table (l : Launch) (dC : Nat → ClassId) (dI : Nat → Nat → Nat) (cI cJ cZ : ClassId) (ad : Nat → Nat) (sz : Nat) (u : gS) (x1 : Int32) (x2 : Int32) (r9 : Int64) (u9 : gS) (h : fX0_table u x1 x2 = some (r9, u9)) : Kl l yX0_table wsX0_table rmX0_table (dC, dI) vwCl (tyS cI cJ cZ) (wX0 cI cJ cZ ad) sz u [.ref (ad 0), .int x1, .int x2] r9 u9 := by
  refine g_ofW (cc := cX0_table) (maxL := 3) (ret := (some .long)) (wf := (wX0 cI cJ cZ ad)) (u := u) (Qf := fun A => va_Ql (fun r1 u1 => r1 = r9 ∧ u1 = u9) (gAt (dC, dI) vwCl (tyS cI cJ cZ) A (wX0 cI cJ cZ ad)) A) (by decide) rfl (Nat.le_of_ble_eq_true rfl) ?_
  intro p e s m below meth c A ls C0 hK hP hD hA hl
  have hS : va_S A s.heap s.heap [] := va_S.rf
  obtain ⟨hx, hb, hml, hown, hts, hr, hlocks⟩ := id C0
  have hl : lv_has ls 3 [(0, .ref ((ad 0))), (1, .int x1), (2, .int x2)] := hl
  unfold fX0_table at h
  refine lv_aload_n hx hb dX0_table_0 rfl (lv_at hl 0 rfl) ?_
  refine lv_iload_n hx hb dX0_table_1 rfl (lv_at hl 1 rfl) ?_
  obtain ⟨r1, g3, h⟩ := q_s h
  refine q_Vi (rest := []) (As := [.int x1]) ⟨hx, hb, hml, hown, hts⟩ (kX0_isStop l dC dI cI cJ cZ ad _ u x1 r1 g3) (cwV 1 hts gX0_table_X0_isStop rfl rfl rfl hdX0_isStop ⟨Nat.le_of_ble_eq_true rfl, Nat.le_of_ble_eq_true rfl⟩) (rvX0 hK hP) hK hP hD hS hA rfl hl.1 (Nat.le_of_ble_eq_true rfl) rfl dX0_table_2 ⟨Nat.zero_le _, Nat.zero_le _⟩ (fun H locs hP hD hS => ?_)
  refine lv_if_eq (tgt := 16) hx hb dX0_table_5 (by decide) (fun c4 => ?_) (fun c4 => ?_)
  · have h := q_t h c4
    refine lv_ldc2 hx hb hown (hts _ mX0_table_97) dX0_table_16 ?_
    exact q_lret hx hb hr hlocks hK hP hD hS (q_p h).1 (q_p h).2 dX0_table_19
  · have h := q_f h c4
    refine lv_aload_n hx hb dX0_table_8 rfl (lv_at hl 0 rfl) ?_
    refine lv_iload_n hx hb dX0_table_9 rfl (lv_at hl 2 rfl) ?_
    obtain ⟨r5, g7, h⟩ := q_s h
    refine q_Vi (rest := []) (As := [.int x2]) ⟨hx, hb, hml, hown, hts⟩ (kX0_isStop l dC dI cI cJ cZ ad _ u x2 r5 g7) (cwV 1 hts gX0_table_X0_isStop rfl rfl rfl hdX0_isStop ⟨Nat.le_of_ble_eq_true rfl, Nat.le_of_ble_eq_true rfl⟩) (rvX0 hK hP) hK hP hD hS hA rfl hl.1 (Nat.le_of_ble_eq_true rfl) rfl dX0_table_10 ⟨Nat.zero_le _, Nat.zero_le _⟩ (fun H locs hP hD hS => ?_)
    refine lv_if_ne (tgt := 20) hx hb dX0_table_13 (by decide) (fun c8 => ?_) (fun c8 => ?_)
    · have h := q_f h c8
      refine lv_aload_n hx hb dX0_table_20 rfl (lv_at hl 0 rfl) ?_
      refine lv_iload_n hx hb dX0_table_21 rfl (lv_at hl 1 rfl) ?_
      refine lv_iload_n hx hb dX0_table_22 rfl (lv_at hl 2 rfl) ?_
      refine lv_lconst (v := (0 : Int64)) hx hb dX0_table_23 (by decide) ?_
      obtain ⟨r9, u10, g11, h⟩ := q_s2 h
      refine q_Vl (rest := []) (As := [.int x1, .int x2, .long (0 : Int64)]) ⟨hx, hb, hml, hown, hts⟩ (kX0_leastArrival l dC dI cI cJ cZ ad _ u x1 x2 (0 : Int64) r9 u10 g11) (cwV 3 hts gX0_table_X0_leastArrival rfl rfl rfl hdX0_leastArrival ⟨Nat.le_of_ble_eq_true rfl, Nat.le_of_ble_eq_true rfl⟩) (rvX0 hK hP) hK hP hD hS hA rfl hl.1 (Nat.le_of_ble_eq_true rfl) rfl dX0_table_24 ⟨Nat.zero_le _, Nat.zero_le _⟩ (fun H locs hP hD hS => ?_)
      exact q_lret hx hb hr hlocks hK hP hD hS (q_p h).1 (q_p h).2 dX0_table_27
    · have h := q_t h c8
      refine lv_ldc2 hx hb hown (hts _ mX0_table_97) dX0_table_16 ?_
      exact q_lret hx hb hr hlocks hK hP hD hS (q_p h).1 (q_p h).2 dX0_table_19
set_option maxHeartbeats 4000000 in
set_option maxRecDepth 100000 in
theorem kX0_hasStopAtSide_L2 {l : Launch} {dC : Nat → ClassId} {dI : Nat → Nat → Nat} {cI cJ cZ : ClassId} {ad : Nat → Nat} {p : Program} {e : Env} {s : State} {m : MethodId} {below : List Frame} {meth : Method} {c : Code} {A : Nat → Prop} {args : Array Value} {r9 : Int32} {u : gS} (C0 : gCtx p s m meth c args cX0_hasStopAtSide 4 (some .boolean) wsX0_hasStopAtSide yX0_hasStopAtSide.cls) (hK : va_K (dC, dI) vwCl (tyS cI cJ cZ) s) (hA : ∀ q, s.heap.size ≤ q → A q) :
    ∀ (n : Nat) (y1 : Int32) (y2 : Int32) (y3 : Int32) (H : Heap) (locs : List Loc) (ls : Array Slot), fX0_hasStopAtSide_L2 n u y1 y2 y3 = some r9 → va_P (dC, dI) vwCl ((wX0 cI cJ cZ ad) u) H → va_D A ((wX0 cI cJ cZ ad) u) → va_S A s.heap H locs → lv_has ls 4 [(0, .ref ((ad 0))), (1, .int y1), (2, .int y2), (3, .int y3)] → W p l e rmX0_hasStopAtSide s m args below meth c H locs 0 0 (MQ below (va_Qi (fun r1 u1 => r1 = r9 ∧ u1 = u) (gAt (dC, dI) vwCl (tyS cI cJ cZ) A (wX0 cI cJ cZ ad)) A) args s 0 0 A) (F0 m 2 ls []) := by
  obtain ⟨hx, hb, hml, hown, hts, hr, hlocks⟩ := id C0
  intro n
  induction n with
  | zero =>
    intro y1 y2 y3 H locs ls h
    cases h
  | succ n ih2 =>
    intro y1 y2 y3 H locs ls h hP hD hS hl
    have h : fX0_hasStopAtSide_L2_b (fX0_hasStopAtSide_L2 n) u y1 y2 y3 = some r9 := h
    unfold fX0_hasStopAtSide_L2_b at h
    refine lv_iload_n hx hb dX0_hasStopAtSide_2 rfl (lv_at hl 3 rfl) ?_
    refine lv_aload_n hx hb dX0_hasStopAtSide_3 rfl (lv_at hl 0 rfl) ?_
    refine gfX0_stopCount inX0_hasStopAtSide mX0_hasStopAtSide_91 hx hb hts hown hK hP dX0_hasStopAtSide_4 ?_
    refine lv_icmp_ge (tgt := 38) hx hb dX0_hasStopAtSide_7 (by decide) (fun c1 => ?_) (fun c1 => ?_)
    · have h := q_t h c1
      refine lv_iconst (v := (0 : Int32)) hx hb dX0_hasStopAtSide_38 (by decide) ?_
      exact q_zret hx hb hr hlocks hK hP hD hS rfl (Option.some.inj h) rfl dX0_hasStopAtSide_39
    · have h := q_f h c1
      refine lv_aload_n hx hb dX0_hasStopAtSide_10 rfl (lv_at hl 0 rfl) ?_
      refine gfX0_stopPieces inX0_hasStopAtSide mX0_hasStopAtSide_32 hx hb hts hown hK hP dX0_hasStopAtSide_11 ?_
      refine lv_iload_n hx hb dX0_hasStopAtSide_14 rfl (lv_at hl 3 rfl) ?_
      obtain ⟨hin, h⟩ := q_g h
      refine ldX0_stopPieces hx hb hK hP hin dX0_hasStopAtSide_15 ?_
      refine lv_iload_n hx hb dX0_hasStopAtSide_16 rfl (lv_at hl 1 rfl) ?_
      refine lv_icmp_ne (tgt := 32) hx hb dX0_hasStopAtSide_17 (by decide) (fun c2 => ?_) (fun c2 => ?_)
      · have h := q_f h c2
        obtain ⟨v3, ev3, h⟩ := q_l h
        refine lv_iinc (v := v3) (lv' := [(3, .int v3), (0, .ref ((ad 0))), (1, .int y1), (2, .int y2)]) hx hb dX0_hasStopAtSide_32 hl (k := 3) rfl (by rw [ev3]; rfl) (by decide) rfl (fun ls hl => ?_)
        refine lv_goto (tgt := 2) hx hb dX0_hasStopAtSide_35 (by decide) ?_
        exact ih2 y1 y2 v3 _ _ _ h hP hD hS (lv_sub hl [1, 2, 3, 0] rfl)
      · have h := q_t h c2
        refine lv_aload_n hx hb dX0_hasStopAtSide_20 rfl (lv_at hl 0 rfl) ?_
        refine gfX0_stopSides inX0_hasStopAtSide mX0_hasStopAtSide_35 hx hb hts hown hK hP dX0_hasStopAtSide_21 ?_
        refine lv_iload_n hx hb dX0_hasStopAtSide_24 rfl (lv_at hl 3 rfl) ?_
        obtain ⟨hin, h⟩ := q_g h
        refine ldX0_stopSides hx hb hK hP hin dX0_hasStopAtSide_25 ?_
        refine lv_iload_n hx hb dX0_hasStopAtSide_26 rfl (lv_at hl 2 rfl) ?_
        refine lv_icmp_ne (tgt := 32) hx hb dX0_hasStopAtSide_27 (by decide) (fun c4 => ?_) (fun c4 => ?_)
        · have h := q_f h c4
          obtain ⟨v5, ev5, h⟩ := q_l h
          refine lv_iinc (v := v5) (lv' := [(3, .int v5), (0, .ref ((ad 0))), (1, .int y1), (2, .int y2)]) hx hb dX0_hasStopAtSide_32 hl (k := 3) rfl (by rw [ev5]; rfl) (by decide) rfl (fun ls hl => ?_)
          refine lv_goto (tgt := 2) hx hb dX0_hasStopAtSide_35 (by decide) ?_
          exact ih2 y1 y2 v5 _ _ _ h hP hD hS (lv_sub hl [1, 2, 3, 0] rfl)
        · have h := q_t h c4
          refine lv_iconst (v := (1 : Int32)) hx hb dX0_hasStopAtSide_30 (by decide) ?_
          exact q_zret hx hb hr hlocks hK hP hD hS rfl (Option.some.inj h) rfl dX0_hasStopAtSide_31
set_option maxHeartbeats 4000000 in
set_option maxRecDepth 100000 in
theorem kX0_hasStopAtSide (l : Launch) (dC : Nat → ClassId) (dI : Nat → Nat → Nat) (cI cJ cZ : ClassId) (ad : Nat → Nat) (sz : Nat) (u : gS) (x1 : Int32) (x2 : Int32) (r9 : Int32) (h : fX0_hasStopAtSide u x1 x2 = some r9) : Ki l yX0_hasStopAtSide wsX0_hasStopAtSide rmX0_hasStopAtSide (dC, dI) vwCl (tyS cI cJ cZ) (wX0 cI cJ cZ ad) sz u [.ref (ad 0), .int x1, .int x2] r9 u := by
  refine g_ofW (cc := cX0_hasStopAtSide) (maxL := 4) (ret := (some .boolean)) (wf := (wX0 cI cJ cZ ad)) (u := u) (Qf := fun A => va_Qi (fun r1 u1 => r1 = r9 ∧ u1 = u) (gAt (dC, dI) vwCl (tyS cI cJ cZ) A (wX0 cI cJ cZ ad)) A) (by decide) rfl (Nat.le_of_ble_eq_true rfl) ?_
  intro p e s m below meth c A ls C0 hK hP hD hA hl
  have hS : va_S A s.heap s.heap [] := va_S.rf
  obtain ⟨hx, hb, hml, hown, hts, hr, hlocks⟩ := id C0
  have hl : lv_has ls 4 [(0, .ref ((ad 0))), (1, .int x1), (2, .int x2)] := hl
  unfold fX0_hasStopAtSide at h
  refine lv_iconst (v := (0 : Int32)) hx hb dX0_hasStopAtSide_0 (by decide) ?_
  refine lv_istore_n (lv' := [(3, .int (0 : Int32)), (0, .ref ((ad 0))), (1, .int x1), (2, .int x2)]) hx hb dX0_hasStopAtSide_1 rfl hl (by decide) rfl (fun ls hl => ?_)
  exact kX0_hasStopAtSide_L2 C0 hK hA 200 x1 x2 (0 : Int32) _ _ _ h hP hD hS (lv_sub hl [1, 2, 3, 0] rfl)
