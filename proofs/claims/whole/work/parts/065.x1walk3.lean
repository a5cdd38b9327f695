set_option maxHeartbeats 4000000 in
set_option maxRecDepth 100000 in
theorem kX1_table (k9 : Nat) (l : Launch) (dC : Nat → ClassId) (dI : Nat → Nat → Nat) (cI cJ cZ : ClassId) (ad : Nat → Nat) (sz : Nat) (u : gS) (x1 : Int32) (x2 : Int32) (r9 : Int64) (u9 : gS) (h : fX1_table k9 u x1 x2 = some (r9, u9)) : Kl l yX1_table wsX1_table rmX1_table (dC, dI) vwCl (tyS cI cJ cZ) (wX1 cI cJ cZ ad) sz u [.ref (ad 0), .int x1, .int x2] r9 u9 := by
  refine g_ofW (cc := cX1_table) (maxL := 9) (ret := (some .long)) (wf := (wX1 cI cJ cZ ad)) (u := u) (Qf := fun A => va_Ql (fun r1 u1 => r1 = r9 ∧ u1 = u9) (gAt (dC, dI) vwCl (tyS cI cJ cZ) A (wX1 cI cJ cZ ad)) A) (by decide) rfl (Nat.le_of_ble_eq_true rfl) ?_
  intro p e s m below meth c A ls C0 hK hP hD hA hl
  have hS : va_S A s.heap s.heap [] := va_S.rf
  obtain ⟨hx, hb, hml, hown, hts, hr, hlocks⟩ := id C0
  have hl : lv_has ls 9 [(0, .ref ((ad 0))), (1, .int x1), (2, .int x2)] := hl
  unfold fX1_table at h
  refine lv_aload_n hx hb dX1_table_0 rfl (lv_at hl 0 rfl) ?_
  refine lv_iconst (v := (0 : Int32)) hx hb dX1_table_1 (by decide) ?_
  obtain ⟨u1, eu1, h⟩ := q_l h
  refine pfX1_thrown inX1_table mX1_table_51 hx hb hts hown hK hP hD hS eu1 dX1_table_2 (fun H locs hP hD hS => ?_)
  refine lv_aload_n hx hb dX1_table_5 rfl (lv_at hl 0 rfl) ?_
  refine lv_iload_n hx hb dX1_table_6 rfl (lv_at hl 1 rfl) ?_
  obtain ⟨r2, g4, h⟩ := q_s h
  refine q_Vi (rest := []) (As := [.int x1]) ⟨hx, hb, hml, hown, hts⟩ (kX1_isStop l dC dI cI cJ cZ ad _ u1 x1 r2 g4) (cwV 1 hts gX1_table_X1_isStop rfl rfl rfl hdX1_isStop ⟨Nat.le_of_ble_eq_true rfl, Nat.le_of_ble_eq_true rfl⟩) (rvX1 hK hP) hK hP hD hS hA rfl hl.1 (Nat.le_of_ble_eq_true rfl) rfl dX1_table_7 ⟨Nat.zero_le _, Nat.zero_le _⟩ (fun H locs hP hD hS => ?_)
  refine lv_if_eq (tgt := 21) hx hb dX1_table_10 (by decide) (fun c5 => ?_) (fun c5 => ?_)
  · have h := q_t h c5
    refine lv_ldc2 hx hb hown (hts _ mX1_table_104) dX1_table_21 ?_
    exact q_lret hx hb hr hlocks hK hP hD hS (q_p h).1 (q_p h).2 dX1_table_24
  · have h := q_f h c5
    refine lv_aload_n hx hb dX1_table_13 rfl (lv_at hl 0 rfl) ?_
    refine lv_iload_n hx hb dX1_table_14 rfl (lv_at hl 2 rfl) ?_
    obtain ⟨r6, g8, h⟩ := q_s h
    refine q_Vi (rest := []) (As := [.int x2]) ⟨hx, hb, hml, hown, hts⟩ (kX1_isStop l dC dI cI cJ cZ ad _ u1 x2 r6 g8) (cwV 1 hts gX1_table_X1_isStop rfl rfl rfl hdX1_isStop ⟨Nat.le_of_ble_eq_true rfl, Nat.le_of_ble_eq_true rfl⟩) (rvX1 hK hP) hK hP hD hS hA rfl hl.1 (Nat.le_of_ble_eq_true rfl) rfl dX1_table_15 ⟨Nat.zero_le _, Nat.zero_le _⟩ (fun H locs hP hD hS => ?_)
    refine lv_if_ne (tgt := 25) hx hb dX1_table_18 (by decide) (fun c9 => ?_) (fun c9 => ?_)
    · have h := q_f h c9
      refine lv_aload_n hx hb dX1_table_25 rfl (lv_at hl 0 rfl) ?_
      refine lv_iload_n hx hb dX1_table_26 rfl (lv_at hl 1 rfl) ?_
      refine lv_lconst (v := (0 : Int64)) hx hb dX1_table_27 (by decide) ?_
      obtain ⟨u11, g12, h⟩ := q_s h
      refine q_Vv (rest := []) (As := [.int x1, .long (0 : Int64)]) ⟨hx, hb, hml, hown, hts⟩ (kX1_reach k9 l dC dI cI cJ cZ ad _ u1 x1 (0 : Int64) u11 g12) (cwV 2 hts gX1_table_X1_reach rfl rfl rfl hdX1_reach ⟨Nat.le_of_ble_eq_true rfl, Nat.le_of_ble_eq_true rfl⟩) (rvX1 hK hP) hK hP hD hS hA rfl hl.1 (Nat.le_of_ble_eq_true rfl) rfl dX1_table_28 ⟨Nat.zero_le _, Nat.zero_le _⟩ (fun H locs hP hD hS => ?_)
      refine lv_aload_n hx hb dX1_table_31 rfl (lv_at hl 0 rfl) ?_
      refine lv_iload_n hx hb dX1_table_32 rfl (lv_at hl 1 rfl) ?_
      refine lv_iload_n hx hb dX1_table_33 rfl (lv_at hl 2 rfl) ?_
      refine lv_lconst (v := (0 : Int64)) hx hb dX1_table_34 (by decide) ?_
      obtain ⟨r13, g15, h⟩ := q_s h
      refine q_Vl (rest := []) (As := [.int x1, .int x2, .long (0 : Int64)]) ⟨hx, hb, hml, hown, hts⟩ (kX1_straight l dC dI cI cJ cZ ad _ u11 x1 x2 (0 : Int64) r13 g15) (cwV 3 hts gX1_table_X1_straight rfl rfl rfl hdX1_straight ⟨Nat.le_of_ble_eq_true rfl, Nat.le_of_ble_eq_true rfl⟩) (rvX1 hK hP) hK hP hD hS hA rfl hl.1 (Nat.le_of_ble_eq_true rfl) rfl dX1_table_35 ⟨Nat.zero_le _, Nat.zero_le _⟩ (fun H locs hP hD hS => ?_)
      refine lv_lstore_n (lv' := [(3, .long r13), (0, .ref ((ad 0))), (1, .int x1), (2, .int x2)]) hx hb dX1_table_38 rfl hl (by decide) rfl (fun ls hl => ?_)
      refine lv_aload_n hx hb dX1_table_39 rfl (lv_at hl 1 rfl) ?_
      refine lv_iload_n hx hb dX1_table_40 rfl (lv_at hl 3 rfl) ?_
      obtain ⟨r16, g18, h⟩ := q_s h
      refine q_Vl (rest := []) (As := [.int x2]) ⟨hx, hb, hml, hown, hts⟩ (kX1_around l dC dI cI cJ cZ ad _ u11 x2 r16 g18) (cwV 1 hts gX1_table_X1_around rfl rfl rfl hdX1_around ⟨Nat.le_of_ble_eq_true rfl, Nat.le_of_ble_eq_true rfl⟩) (rvX1 hK hP) hK hP hD hS hA rfl hl.1 (Nat.le_of_ble_eq_true rfl) rfl dX1_table_41 ⟨Nat.zero_le _, Nat.zero_le _⟩ (fun H locs hP hD hS => ?_)
      refine lv_lstore (lv' := [(5, .long r16), (3, .long r13), (0, .ref ((ad 0))), (1, .int x1), (2, .int x2)]) hx hb dX1_table_44 hl (by decide) rfl (fun ls hl => ?_)
      refine lv_lload_n hx hb dX1_table_46 rfl (lv_at hl 1 rfl) ?_
      refine lv_lload hx hb dX1_table_47 (lv_at hl 0 rfl) ?_
      refine q_lc_ge (tgt := 57) hx hb dX1_table_49 dX1_table_50 (by decide) (fun c19 => ?_) (fun c19 => ?_)
      · have h := q_t h c19
        refine lv_lload hx hb dX1_table_57 (lv_at hl 0 rfl) ?_
        refine lv_lstore (lv' := [(7, .long r16), (5, .long r16), (3, .long r13), (0, .ref ((ad 0))), (1, .int x1), (2, .int x2)]) hx hb dX1_table_59 hl (by decide) rfl (fun ls hl => ?_)
        refine lv_lload hx hb dX1_table_61 (lv_at hl 0 rfl) ?_
        refine lv_ldc2 hx hb hown (hts _ mX1_table_89) dX1_table_63 ?_
        refine q_lc_ne (tgt := 76) hx hb dX1_table_66 dX1_table_67 (by decide) (fun c20 => ?_) (fun c20 => ?_)
        · have h := q_f h c20
          refine lv_lload hx hb dX1_table_76 (lv_at hl 0 rfl) ?_
          exact q_lret hx hb hr hlocks hK hP hD hS (q_p h).1 (q_p h).2 dX1_table_78
        · have h := q_t h c20
          refine lv_ldc2 hx hb hown (hts _ mX1_table_124) dX1_table_70 ?_
          refine lv_goto (tgt := 78) hx hb dX1_table_73 (by decide) ?_
          exact q_lret hx hb hr hlocks hK hP hD hS (q_p h).1 (q_p h).2 dX1_table_78
      · have h := q_f h c19
        refine lv_lload_n hx hb dX1_table_53 rfl (lv_at hl 1 rfl) ?_
        refine lv_goto (tgt := 59) hx hb dX1_table_54 (by decide) ?_
        refine lv_lstore (lv' := [(7, .long r13), (5, .long r16), (3, .long r13), (0, .ref ((ad 0))), (1, .int x1), (2, .int x2)]) hx hb dX1_table_59 hl (by decide) rfl (fun ls hl => ?_)
        refine lv_lload hx hb dX1_table_61 (lv_at hl 0 rfl) ?_
        refine lv_ldc2 hx hb hown (hts _ mX1_table_89) dX1_table_63 ?_
        refine q_lc_ne (tgt := 76) hx hb dX1_table_66 dX1_table_67 (by decide) (fun c21 => ?_) (fun c21 => ?_)
        · have h := q_f h c21
          refine lv_lload hx hb dX1_table_76 (lv_at hl 0 rfl) ?_
          exact q_lret hx hb hr hlocks hK hP hD hS (q_p h).1 (q_p h).2 dX1_table_78
        · have h := q_t h c21
          refine lv_ldc2 hx hb hown (hts _ mX1_table_124) dX1_table_70 ?_
          refine lv_goto (tgt := 78) hx hb dX1_table_73 (by decide) ?_
          exact q_lret hx hb hr hlocks hK hP hD hS (q_p h).1 (q_p h).2 dX1_table_78
    · have h := q_t h c9
      refine lv_ldc2 hx hb hown (hts _ mX1_table_104) dX1_table_21 ?_
      exact q_lret hx hb hr hlocks hK hP hD hS (q_p h).1 (q_p h).2 dX1_table_24
set_option maxHeartbeats 4000000 in
set_option maxRecDepth 100000 in
theorem kX1_service_L101 {l : Launch} {dC : Nat → ClassId} {dI : Nat → Nat → Nat} {cI cJ cZ : ClassId} {ad : Nat → Nat} {p : Program} {e : Env} {s : State} {m : MethodId} {below : List Frame} {meth : Method} {c : Code} {A : Nat → Prop} {args : Array Value} {r9 : Int32} {u9 : gS} (C0 : gCtx p s m meth c args cX1_service 5 (some .boolean) wsX1_service yX1_service.cls) (hK : va_K (dC, dI) vwCl (tyS cI cJ cZ) s) (hA : ∀ q, s.heap.size ≤ q → A q) :
    ∀ (n : Nat) (u : gS) (y1 : Int32) (y2 : Int32) (y3 : Int32) (y4 : Int32) (H : Heap) (locs : List Loc) (ls : Array Slot), fX1_service_L101 n u y1 y2 y3 y4 = some (r9, u9) → va_P (dC, dI) vwCl ((wX1 cI cJ cZ ad) u) H → va_D A ((wX1 cI cJ cZ ad) u) → va_S A s.heap H locs → lv_has ls 5 [(0, .ref ((ad 0))), (1, .int y1), (2, .int y2), (3, .int y3), (4, .int y4)] → W p l e rmX1_service s m args below meth c H locs 0 0 (MQ below (va_Qi (fun r1 u1 => r1 = r9 ∧ u1 = u9) (gAt (dC, dI) vwCl (tyS cI cJ cZ) A (wX1 cI cJ cZ ad)) A) args s 0 0 A) (F0 m 101 ls []) := by
  obtain ⟨hx, hb, hml, hown, hts, hr, hlocks⟩ := id C0
  intro n
  induction n with
  | zero =>
    intro u y1 y2 y3 y4 H locs ls h
    cases h
  | succ n ih101 =>
    intro u y1 y2 y3 y4 H locs ls h hP hD hS hl
    have h : fX1_service_L101_b (fX1_service_L101 n) u y1 y2 y3 y4 = some (r9, u9) := h
    unfold fX1_service_L101_b at h
    refine lv_iload hx hb dX1_service_101 (lv_at hl 4 rfl) ?_
    refine lv_aload_n hx hb dX1_service_103 rfl (lv_at hl 0 rfl) ?_
    refine gfX1_pieces inX1_service mX1_service_55 hx hb hts hown hK hP dX1_service_104 ?_
    refine lv_icmp_ge (tgt := 141) hx hb dX1_service_107 (by decide) (fun c8 => ?_) (fun c8 => ?_)
    · have h := q_t h c8
      refine lv_iload_n hx hb dX1_service_141 rfl (lv_at hl 3 rfl) ?_
      obtain ⟨hna, h⟩ := q_g h
      exact q_zret hx hb hr hlocks hK hP hD hS (q_nz hna) (q_p h).1 (q_p h).2 dX1_service_142
    · have h := q_f h c8
      refine lv_iload_n hx hb dX1_service_110 rfl (lv_at hl 2 rfl) ?_
      refine lv_iconst (v := (3 : Int32)) hx hb dX1_service_111 (by decide) ?_
      refine lv_icmp_ne (tgt := 141) hx hb dX1_service_112 (by decide) (fun c9 => ?_) (fun c9 => ?_)
      · have h := q_f h c9
        refine lv_iload_n hx hb dX1_service_141 rfl (lv_at hl 3 rfl) ?_
        obtain ⟨hna, h⟩ := q_g h
        exact q_zret hx hb hr hlocks hK hP hD hS (q_nz hna) (q_p h).1 (q_p h).2 dX1_service_142
      · have h := q_t h c9
        refine lv_iload_n hx hb dX1_service_115 rfl (lv_at hl 3 rfl) ?_
        refine lv_if_ne (tgt := 129) hx hb dX1_service_116 (by decide) (fun c10 => ?_) (fun c10 => ?_)
        · have h := q_f h c10
          refine lv_iconst (v := (1 : Int32)) hx hb dX1_service_129 (by decide) ?_
          refine lv_goto (tgt := 134) hx hb dX1_service_130 (by decide) ?_
          refine lv_istore_n (lv' := [(3, .int (1 : Int32)), (0, .ref ((ad 0))), (1, .int y1), (2, .int y2), (4, .int y4)]) hx hb dX1_service_134 rfl hl (by decide) rfl (fun ls hl => ?_)
          obtain ⟨v11, ev11, h⟩ := q_l h
          refine lv_iinc (v := v11) (lv' := [(4, .int v11), (3, .int (1 : Int32)), (0, .ref ((ad 0))), (1, .int y1), (2, .int y2)]) hx hb dX1_service_135 hl (k := 4) rfl (by rw [ev11]; rfl) (by decide) rfl (fun ls hl => ?_)
          refine lv_goto (tgt := 101) hx hb dX1_service_138 (by decide) ?_
          exact ih101 u y1 y2 (1 : Int32) v11 _ _ _ h hP hD hS (lv_sub hl [2, 3, 4, 1, 0] rfl)
        · have h := q_t h c10
          refine lv_aload_n hx hb dX1_service_119 rfl (lv_at hl 0 rfl) ?_
          refine lv_iload_n hx hb dX1_service_120 rfl (lv_at hl 1 rfl) ?_
          refine lv_iload hx hb dX1_service_121 (lv_at hl 4 rfl) ?_
          obtain ⟨r12, g14, h⟩ := q_s h
          refine q_Vi (rest := []) (As := [.int y1, .int y4]) ⟨hx, hb, hml, hown, hts⟩ (kX1_leads l dC dI cI cJ cZ ad _ u y1 y4 r12 g14) (cwV 2 hts gX1_service_X1_leads rfl rfl rfl hdX1_leads ⟨Nat.le_of_ble_eq_true rfl, Nat.le_of_ble_eq_true rfl⟩) (rvX1 hK hP) hK hP hD hS hA rfl hl.1 (Nat.le_of_ble_eq_true rfl) rfl dX1_service_123 ⟨Nat.zero_le _, Nat.zero_le _⟩ (fun H locs hP hD hS => ?_)
          refine lv_if_eq (tgt := 133) hx hb dX1_service_126 (by decide) (fun c15 => ?_) (fun c15 => ?_)
          · have h := q_t h c15
            refine lv_iconst (v := (0 : Int32)) hx hb dX1_service_133 (by decide) ?_
            refine lv_istore_n (lv' := [(3, .int (0 : Int32)), (0, .ref ((ad 0))), (1, .int y1), (2, .int y2), (4, .int y4)]) hx hb dX1_service_134 rfl hl (by decide) rfl (fun ls hl => ?_)
            obtain ⟨v16, ev16, h⟩ := q_l h
            refine lv_iinc (v := v16) (lv' := [(4, .int v16), (3, .int (0 : Int32)), (0, .ref ((ad 0))), (1, .int y1), (2, .int y2)]) hx hb dX1_service_135 hl (k := 4) rfl (by rw [ev16]; rfl) (by decide) rfl (fun ls hl => ?_)
            refine lv_goto (tgt := 101) hx hb dX1_service_138 (by decide) ?_
            exact ih101 u y1 y2 (0 : Int32) v16 _ _ _ h hP hD hS (lv_sub hl [2, 3, 4, 1, 0] rfl)
          · have h := q_f h c15
            refine lv_iconst (v := (1 : Int32)) hx hb dX1_service_129 (by decide) ?_
            refine lv_goto (tgt := 134) hx hb dX1_service_130 (by decide) ?_
            refine lv_istore_n (lv' := [(3, .int (1 : Int32)), (0, .ref ((ad 0))), (1, .int y1), (2, .int y2), (4, .int y4)]) hx hb dX1_service_134 rfl hl (by decide) rfl (fun ls hl => ?_)
            obtain ⟨v17, ev17, h⟩ := q_l h
            refine lv_iinc (v := v17) (lv' := [(4, .int v17), (3, .int (1 : Int32)), (0, .ref ((ad 0))), (1, .int y1), (2, .int y2)]) hx hb dX1_service_135 hl (k := 4) rfl (by rw [ev17]; rfl) (by decide) rfl (fun ls hl => ?_)
            refine lv_goto (tgt := 101) hx hb dX1_service_138 (by decide) ?_
            exact ih101 u y1 y2 (1 : Int32) v17 _ _ _ h hP hD hS (lv_sub hl [2, 3, 4, 1, 0] rfl)
set_option maxHeartbeats 4000000 in
set_option maxRecDepth 100000 in
theorem kX1_service_L42 {l : Launch} {dC : Nat → ClassId} {dI : Nat → Nat → Nat} {cI cJ cZ : ClassId} {ad : Nat → Nat} {p : Program} {e : Env} {s : State} {m : MethodId} {below : List Frame} {meth : Method} {c : Code} {A : Nat → Prop} {args : Array Value} {r9 : Int32} {u9 : gS} (C0 : gCtx p s m meth c args cX1_service 5 (some .boolean) wsX1_service yX1_service.cls) (hK : va_K (dC, dI) vwCl (tyS cI cJ cZ) s) (hA : ∀ q, s.heap.size ≤ q → A q) :
    ∀ (n : Nat) (u : gS) (y1 : Int32) (y2 : Int32) (y3 : Int32) (y4 : Int32) (H : Heap) (locs : List Loc) (ls : Array Slot), fX1_service_L42 n u y1 y2 y3 y4 = some (r9, u9) → va_P (dC, dI) vwCl ((wX1 cI cJ cZ ad) u) H → va_D A ((wX1 cI cJ cZ ad) u) → va_S A s.heap H locs → lv_has ls 5 [(0, .ref ((ad 0))), (1, .int y1), (2, .int y2), (3, .int y3), (4, .int y4)] → W p l e rmX1_service s m args below meth c H locs 0 0 (MQ below (va_Qi (fun r1 u1 => r1 = r9 ∧ u1 = u9) (gAt (dC, dI) vwCl (tyS cI cJ cZ) A (wX1 cI cJ cZ ad)) A) args s 0 0 A) (F0 m 42 ls []) := by
  obtain ⟨hx, hb, hml, hown, hts, hr, hlocks⟩ := id C0
  intro n
  induction n with
  | zero =>
    intro u y1 y2 y3 y4 H locs ls h
    cases h
  | succ n ih42 =>
    intro u y1 y2 y3 y4 H locs ls h hP hD hS hl
    have h : fX1_service_L42_b (fX1_service_L42 n) u y1 y2 y3 y4 = some (r9, u9) := h
    unfold fX1_service_L42_b at h
    refine lv_iload hx hb dX1_service_42 (lv_at hl 4 rfl) ?_
    refine lv_aload_n hx hb dX1_service_44 rfl (lv_at hl 0 rfl) ?_
    refine gfX1_stops inX1_service mX1_service_58 hx hb hts hown hK hP dX1_service_45 ?_
    refine lv_icmp_ge (tgt := 98) hx hb dX1_service_48 (by decide) (fun c7 => ?_) (fun c7 => ?_)
    · have h := q_t h c7
      refine lv_iconst (v := (0 : Int32)) hx hb dX1_service_98 (by decide) ?_
      refine lv_istore (lv' := [(4, .int (0 : Int32)), (0, .ref ((ad 0))), (1, .int y1), (2, .int y2), (3, .int y3)]) hx hb dX1_service_99 hl (by decide) rfl (fun ls hl => ?_)
      exact kX1_service_L101 C0 hK hA 200 u y1 y2 y3 (0 : Int32) _ _ _ h hP hD hS (lv_sub hl [1, 2, 3, 4, 0] rfl)
    · have h := q_f h c7
      refine lv_iload_n hx hb dX1_service_51 rfl (lv_at hl 2 rfl) ?_
      refine lv_if_lt (tgt := 98) hx hb dX1_service_52 (by decide) (fun c18 => ?_) (fun c18 => ?_)
      · have h := q_t h c18
        refine lv_iconst (v := (0 : Int32)) hx hb dX1_service_98 (by decide) ?_
        refine lv_istore (lv' := [(4, .int (0 : Int32)), (0, .ref ((ad 0))), (1, .int y1), (2, .int y2), (3, .int y3)]) hx hb dX1_service_99 hl (by decide) rfl (fun ls hl => ?_)
        exact kX1_service_L101 C0 hK hA 200 u y1 y2 y3 (0 : Int32) _ _ _ h hP hD hS (lv_sub hl [1, 2, 3, 4, 0] rfl)
      · have h := q_f h c18
        refine lv_iload_n hx hb dX1_service_55 rfl (lv_at hl 2 rfl) ?_
        refine lv_iconst (v := (2 : Int32)) hx hb dX1_service_56 (by decide) ?_
        refine lv_icmp_ge (tgt := 98) hx hb dX1_service_57 (by decide) (fun c19 => ?_) (fun c19 => ?_)
        · have h := q_t h c19
          refine lv_iconst (v := (0 : Int32)) hx hb dX1_service_98 (by decide) ?_
          refine lv_istore (lv' := [(4, .int (0 : Int32)), (0, .ref ((ad 0))), (1, .int y1), (2, .int y2), (3, .int y3)]) hx hb dX1_service_99 hl (by decide) rfl (fun ls hl => ?_)
          exact kX1_service_L101 C0 hK hA 200 u y1 y2 y3 (0 : Int32) _ _ _ h hP hD hS (lv_sub hl [1, 2, 3, 4, 0] rfl)
        · have h := q_f h c19
          refine lv_iload_n hx hb dX1_service_60 rfl (lv_at hl 3 rfl) ?_
          refine lv_if_ne (tgt := 86) hx hb dX1_service_61 (by decide) (fun c20 => ?_) (fun c20 => ?_)
          · have h := q_f h c20
            refine lv_iconst (v := (1 : Int32)) hx hb dX1_service_86 (by decide) ?_
            refine lv_goto (tgt := 91) hx hb dX1_service_87 (by decide) ?_
            refine lv_istore_n (lv' := [(3, .int (1 : Int32)), (0, .ref ((ad 0))), (1, .int y1), (2, .int y2), (4, .int y4)]) hx hb dX1_service_91 rfl hl (by decide) rfl (fun ls hl => ?_)
            obtain ⟨v21, ev21, h⟩ := q_l h
            refine lv_iinc (v := v21) (lv' := [(4, .int v21), (3, .int (1 : Int32)), (0, .ref ((ad 0))), (1, .int y1), (2, .int y2)]) hx hb dX1_service_92 hl (k := 4) rfl (by rw [ev21]; rfl) (by decide) rfl (fun ls hl => ?_)
            refine lv_goto (tgt := 42) hx hb dX1_service_95 (by decide) ?_
            exact ih42 u y1 y2 (1 : Int32) v21 _ _ _ h hP hD hS (lv_sub hl [2, 3, 4, 1, 0] rfl)
          · have h := q_t h c20
            refine lv_aload_n hx hb dX1_service_64 rfl (lv_at hl 0 rfl) ?_
            refine gfX1_on inX1_service mX1_service_33 hx hb hts hown hK hP dX1_service_65 ?_
            refine lv_iload hx hb dX1_service_68 (lv_at hl 4 rfl) ?_
            obtain ⟨hin, h⟩ := q_g h
            refine ldX1_on hx hb hK hP hin dX1_service_70 ?_
            refine lv_iload_n hx hb dX1_service_71 rfl (lv_at hl 1 rfl) ?_
            refine lv_icmp_ne (tgt := 90) hx hb dX1_service_72 (by decide) (fun c22 => ?_) (fun c22 => ?_)
            · have h := q_f h c22
              refine lv_iconst (v := (0 : Int32)) hx hb dX1_service_90 (by decide) ?_
              refine lv_istore_n (lv' := [(3, .int (0 : Int32)), (0, .ref ((ad 0))), (1, .int y1), (2, .int y2), (4, .int y4)]) hx hb dX1_service_91 rfl hl (by decide) rfl (fun ls hl => ?_)
              obtain ⟨v23, ev23, h⟩ := q_l h
              refine lv_iinc (v := v23) (lv' := [(4, .int v23), (3, .int (0 : Int32)), (0, .ref ((ad 0))), (1, .int y1), (2, .int y2)]) hx hb dX1_service_92 hl (k := 4) rfl (by rw [ev23]; rfl) (by decide) rfl (fun ls hl => ?_)
              refine lv_goto (tgt := 42) hx hb dX1_service_95 (by decide) ?_
              exact ih42 u y1 y2 (0 : Int32) v23 _ _ _ h hP hD hS (lv_sub hl [2, 3, 4, 1, 0] rfl)
            · have h := q_t h c22
              refine lv_aload_n hx hb dX1_service_75 rfl (lv_at hl 0 rfl) ?_
              refine gfX1_side inX1_service mX1_service_36 hx hb hts hown hK hP dX1_service_76 ?_
              refine lv_iload hx hb dX1_service_79 (lv_at hl 4 rfl) ?_
              obtain ⟨hin, h⟩ := q_g h
              refine ldX1_side hx hb hK hP hin dX1_service_81 ?_
              refine lv_iload_n hx hb dX1_service_82 rfl (lv_at hl 2 rfl) ?_
              refine lv_icmp_ne (tgt := 90) hx hb dX1_service_83 (by decide) (fun c24 => ?_) (fun c24 => ?_)
              · have h := q_f h c24
                refine lv_iconst (v := (0 : Int32)) hx hb dX1_service_90 (by decide) ?_
                refine lv_istore_n (lv' := [(3, .int (0 : Int32)), (0, .ref ((ad 0))), (1, .int y1), (2, .int y2), (4, .int y4)]) hx hb dX1_service_91 rfl hl (by decide) rfl (fun ls hl => ?_)
                obtain ⟨v25, ev25, h⟩ := q_l h
                refine lv_iinc (v := v25) (lv' := [(4, .int v25), (3, .int (0 : Int32)), (0, .ref ((ad 0))), (1, .int y1), (2, .int y2)]) hx hb dX1_service_92 hl (k := 4) rfl (by rw [ev25]; rfl) (by decide) rfl (fun ls hl => ?_)
                refine lv_goto (tgt := 42) hx hb dX1_service_95 (by decide) ?_
                exact ih42 u y1 y2 (0 : Int32) v25 _ _ _ h hP hD hS (lv_sub hl [2, 3, 4, 1, 0] rfl)
              · have h := q_t h c24
                refine lv_iconst (v := (1 : Int32)) hx hb dX1_service_86 (by decide) ?_
                refine lv_goto (tgt := 91) hx hb dX1_service_87 (by decide) ?_
                refine lv_istore_n (lv' := [(3, .int (1 : Int32)), (0, .ref ((ad 0))), (1, .int y1), (2, .int y2), (4, .int y4)]) hx hb dX1_service_91 rfl hl (by decide) rfl (fun ls hl => ?_)
                obtain ⟨v26, ev26, h⟩ := q_l h
                refine lv_iinc (v := v26) (lv' := [(4, .int v26), (3, .int (1 : Int32)), (0, .ref ((ad 0))), (1, .int y1), (2, .int y2)]) hx hb dX1_service_92 hl (k := 4) rfl (by rw [ev26]; rfl) (by decide) rfl (fun ls hl => ?_)
                refine lv_goto (tgt := 42) hx hb dX1_service_95 (by decide) ?_
                exact ih42 u y1 y2 (1 : Int32) v26 _ _ _ h hP hD hS (lv_sub hl [2, 3, 4, 1, 0] rfl)
set_option maxHeartbeats 4000000 in
set_option maxRecDepth 100000 in
theorem kX1_service (l : Launch) (dC : Nat → ClassId) (dI : Nat → Nat → Nat) (cI cJ cZ : ClassId) (ad : Nat → Nat) (sz : Nat) (u : gS) (x1 : Int32) (x2 : Int32) (r9 : Int32) (u9 : gS) (h : fX1_service u x1 x2 = some (r9, u9)) : Ki l yX1_service wsX1_service rmX1_service (dC, dI) vwCl (tyS cI cJ cZ) (wX1 cI cJ cZ ad) sz u [.ref (ad 0), .int x1, .int x2] r9 u9 := by
  refine g_ofW (cc := cX1_service) (maxL := 5) (ret := (some .boolean)) (wf := (wX1 cI cJ cZ ad)) (u := u) (Qf := fun A => va_Qi (fun r1 u1 => r1 = r9 ∧ u1 = u9) (gAt (dC, dI) vwCl (tyS cI cJ cZ) A (wX1 cI cJ cZ ad)) A) (by decide) rfl (Nat.le_of_ble_eq_true rfl) ?_
  intro p e s m below meth c A ls C0 hK hP hD hA hl
  have hS : va_S A s.heap s.heap [] := va_S.rf
  obtain ⟨hx, hb, hml, hown, hts, hr, hlocks⟩ := id C0
  have hl : lv_has ls 5 [(0, .ref ((ad 0))), (1, .int x1), (2, .int x2)] := hl
  unfold fX1_service at h
  refine lv_aload_n hx hb dX1_service_0 rfl (lv_at hl 0 rfl) ?_
  refine lv_iconst (v := (0 : Int32)) hx hb dX1_service_1 (by decide) ?_
  obtain ⟨u1, eu1, h⟩ := q_l h
  refine pfX1_thrown inX1_service mX1_service_51 hx hb hts hown hK hP hD hS eu1 dX1_service_2 (fun H locs hP hD hS => ?_)
  refine lv_aload_n hx hb dX1_service_5 rfl (lv_at hl 0 rfl) ?_
  refine lv_iload_n hx hb dX1_service_6 rfl (lv_at hl 1 rfl) ?_
  obtain ⟨r2, g4, h⟩ := q_s h
  refine q_Vi (rest := []) (As := [.int x1]) ⟨hx, hb, hml, hown, hts⟩ (kX1_isPiece l dC dI cI cJ cZ ad _ u1 x1 r2 g4) (cwV 1 hts gX1_service_X1_isPiece rfl rfl rfl hdX1_isPiece ⟨Nat.le_of_ble_eq_true rfl, Nat.le_of_ble_eq_true rfl⟩) (rvX1 hK hP) hK hP hD hS hA rfl hl.1 (Nat.le_of_ble_eq_true rfl) rfl dX1_service_7 ⟨Nat.zero_le _, Nat.zero_le _⟩ (fun H locs hP hD hS => ?_)
  refine lv_if_ne (tgt := 15) hx hb dX1_service_10 (by decide) (fun c5 => ?_) (fun c5 => ?_)
  · have h := q_f h c5
    refine lv_iload_n hx hb dX1_service_15 rfl (lv_at hl 2 rfl) ?_
    refine lv_iconst (v := (2 : Int32)) hx hb dX1_service_16 (by decide) ?_
    refine lv_icmp_ne (tgt := 37) hx hb dX1_service_17 (by decide) (fun c6 => ?_) (fun c6 => ?_)
    · have h := q_f h c6
      refine lv_iconst (v := (0 : Int32)) hx hb dX1_service_37 (by decide) ?_
      refine lv_istore_n (lv' := [(3, .int (0 : Int32)), (0, .ref ((ad 0))), (1, .int x1), (2, .int x2)]) hx hb dX1_service_38 rfl hl (by decide) rfl (fun ls hl => ?_)
      refine lv_iconst (v := (0 : Int32)) hx hb dX1_service_39 (by decide) ?_
      refine lv_istore (lv' := [(4, .int (0 : Int32)), (3, .int (0 : Int32)), (0, .ref ((ad 0))), (1, .int x1), (2, .int x2)]) hx hb dX1_service_40 hl (by decide) rfl (fun ls hl => ?_)
      exact kX1_service_L42 C0 hK hA 200 u1 x1 x2 (0 : Int32) (0 : Int32) _ _ _ h hP hD hS (lv_sub hl [2, 3, 4, 1, 0] rfl)
    · have h := q_t h c6
      refine lv_aload_n hx hb dX1_service_20 rfl (lv_at hl 0 rfl) ?_
      refine gfX1_close inX1_service mX1_service_26 hx hb hts hown hK hP dX1_service_21 ?_
      refine lv_iload_n hx hb dX1_service_24 rfl (lv_at hl 1 rfl) ?_
      obtain ⟨hin, h⟩ := q_g h
      refine ldX1_close hx hb hK hP hin dX1_service_25 ?_
      refine lv_lconst (v := (0 : Int64)) hx hb dX1_service_26 (by decide) ?_
      refine q_lc_le (tgt := 35) hx hb dX1_service_27 dX1_service_28 (by decide) (fun c27 => ?_) (fun c27 => ?_)
      · have h := q_t h c27
        refine lv_iconst (v := (0 : Int32)) hx hb dX1_service_35 (by decide) ?_
        exact q_zret hx hb hr hlocks hK hP hD hS rfl (q_p h).1 (q_p h).2 dX1_service_36
      · have h := q_f h c27
        refine lv_iconst (v := (1 : Int32)) hx hb dX1_service_31 (by decide) ?_
        refine lv_goto (tgt := 36) hx hb dX1_service_32 (by decide) ?_
        exact q_zret hx hb hr hlocks hK hP hD hS rfl (q_p h).1 (q_p h).2 dX1_service_36
  · have h := q_t h c5
    refine lv_iconst (v := (0 : Int32)) hx hb dX1_service_13 (by decide) ?_
    exact q_zret hx hb hr hlocks hK hP hD hS rfl (q_p h).1 (q_p h).2 dX1_service_14
