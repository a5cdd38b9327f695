set_option maxHeartbeats 4000000 in
set_option maxRecDepth 100000 in
theorem kX0_mayGoOn (l : Launch) (dC : Nat → ClassId) (dI : Nat → Nat → Nat) (cI cJ cZ : ClassId) (ad : Nat → Nat) (sz : Nat) (u : gS) (x1 : Int32) (x2 : Int32) (r9 : Int32) (h : fX0_mayGoOn u x1 x2 = some r9) : Ki l yX0_mayGoOn wsX0_mayGoOn rmX0_mayGoOn (dC, dI) vwCl (tyS cI cJ cZ) (wX0 cI cJ cZ ad) sz u [.ref (ad 0), .int x1, .int x2] r9 u := by
  refine g_ofW (cc := cX0_mayGoOn) (maxL := 3) (ret := (some .boolean)) (wf := (wX0 cI cJ cZ ad)) (u := u) (Qf := fun A => va_Qi (fun r1 u1 => r1 = r9 ∧ u1 = u) (gAt (dC, dI) vwCl (tyS cI cJ cZ) A (wX0 cI cJ cZ ad)) A) (by decide) rfl (Nat.le_of_ble_eq_true rfl) ?_
  intro p e s m below meth c A ls C0 hK hP hD hA hl
  have hS : va_S A s.heap s.heap [] := va_S.rf
  obtain ⟨hx, hb, hml, hown, hts, hr, hlocks⟩ := id C0
  have hl : lv_has ls 3 [(0, .ref ((ad 0))), (1, .int x1), (2, .int x2)] := hl
  unfold fX0_mayGoOn at h
  refine lv_aload_n hx hb dX0_mayGoOn_0 rfl (lv_at hl 0 rfl) ?_
  refine gfX0_ends inX0_mayGoOn mX0_mayGoOn_13 hx hb hts hown hK hP dX0_mayGoOn_1 ?_
  refine lv_iload_n hx hb dX0_mayGoOn_4 rfl (lv_at hl 1 rfl) ?_
  obtain ⟨hin, h⟩ := q_g h
  refine ldX0_ends hx hb hK hP hin dX0_mayGoOn_5 ?_
  refine lv_aload_n hx hb dX0_mayGoOn_6 rfl (lv_at hl 0 rfl) ?_
  refine gfX0_begins inX0_mayGoOn mX0_mayGoOn_9 hx hb hts hown hK hP dX0_mayGoOn_7 ?_
  refine lv_iload_n hx hb dX0_mayGoOn_10 rfl (lv_at hl 2 rfl) ?_
  obtain ⟨hin, h⟩ := q_g h
  refine ldX0_begins hx hb hK hP hin dX0_mayGoOn_11 ?_
  refine lv_icmp_ne (tgt := 28) hx hb dX0_mayGoOn_12 (by decide) (fun c1 => ?_) (fun c1 => ?_)
  · have h := q_f h c1
    refine lv_iconst (v := (0 : Int32)) hx hb dX0_mayGoOn_28 (by decide) ?_
    exact q_zret hx hb hr hlocks hK hP hD hS rfl (Option.some.inj h) rfl dX0_mayGoOn_29
  · have h := q_t h c1
    refine lv_aload_n hx hb dX0_mayGoOn_15 rfl (lv_at hl 0 rfl) ?_
    refine lv_iload_n hx hb dX0_mayGoOn_16 rfl (lv_at hl 1 rfl) ?_
    refine lv_iload_n hx hb dX0_mayGoOn_17 rfl (lv_at hl 2 rfl) ?_
    obtain ⟨r2, g4, h⟩ := q_s h
    refine q_Vi (rest := []) (As := [.int x1, .int x2]) ⟨hx, hb, hml, hown, hts⟩ (kX0_isBarred l dC dI cI cJ cZ ad _ u x1 x2 r2 g4) (cwV 2 hts gX0_mayGoOn_X0_isBarred rfl rfl rfl hdX0_isBarred ⟨Nat.le_of_ble_eq_true rfl, Nat.le_of_ble_eq_true rfl⟩) (rvX0 hK hP) hK hP hD hS hA rfl hl.1 (Nat.le_of_ble_eq_true rfl) rfl dX0_mayGoOn_18 ⟨Nat.zero_le _, Nat.zero_le _⟩ (fun H locs hP hD hS => ?_)
    refine lv_if_ne (tgt := 28) hx hb dX0_mayGoOn_21 (by decide) (fun c5 => ?_) (fun c5 => ?_)
    · have h := q_f h c5
      refine lv_iconst (v := (0 : Int32)) hx hb dX0_mayGoOn_28 (by decide) ?_
      exact q_zret hx hb hr hlocks hK hP hD hS rfl (Option.some.inj h) rfl dX0_mayGoOn_29
    · have h := q_t h c5
      refine lv_iconst (v := (1 : Int32)) hx hb dX0_mayGoOn_24 (by decide) ?_
      refine lv_goto (tgt := 29) hx hb dX0_mayGoOn_25 (by decide) ?_
      exact q_zret hx hb hr hlocks hK hP hD hS rfl (Option.some.inj h) rfl dX0_mayGoOn_29
set_option maxHeartbeats 4000000 in
set_option maxRecDepth 100000 in
theorem kX0_hasGate (l : Launch) (dC : Nat → ClassId) (dI : Nat → Nat → Nat) (cI cJ cZ : ClassId) (ad : Nat → Nat) (sz : Nat) (u : gS) (x1 : Int32) (r9 : Int32) (h : fX0_hasGate u x1 = some r9) : Ki l yX0_hasGate wsX0_hasGate rmX0_hasGate (dC, dI) vwCl (tyS cI cJ cZ) (wX0 cI cJ cZ ad) sz u [.ref (ad 0), .int x1] r9 u := by
  refine g_ofW (cc := cX0_hasGate) (maxL := 2) (ret := (some .boolean)) (wf := (wX0 cI cJ cZ ad)) (u := u) (Qf := fun A => va_Qi (fun r1 u1 => r1 = r9 ∧ u1 = u) (gAt (dC, dI) vwCl (tyS cI cJ cZ) A (wX0 cI cJ cZ ad)) A) (by decide) rfl (Nat.le_of_ble_eq_true rfl) ?_
  intro p e s m below meth c A ls C0 hK hP hD hA hl
  have hS : va_S A s.heap s.heap [] := va_S.rf
  obtain ⟨hx, hb, hml, hown, hts, hr, hlocks⟩ := id C0
  have hl : lv_has ls 2 [(0, .ref ((ad 0))), (1, .int x1)] := hl
  unfold fX0_hasGate at h
  refine lv_aload_n hx hb dX0_hasGate_0 rfl (lv_at hl 0 rfl) ?_
  refine gfX0_closes inX0_hasGate mX0_hasGate_26 hx hb hts hown hK hP dX0_hasGate_1 ?_
  refine lv_iload_n hx hb dX0_hasGate_4 rfl (lv_at hl 1 rfl) ?_
  obtain ⟨hin, h⟩ := q_g h
  refine ldX0_closes hx hb hK hP hin dX0_hasGate_5 ?_
  refine lv_lconst (v := (0 : Int64)) hx hb dX0_hasGate_6 (by decide) ?_
  refine q_lc_eq (tgt := 15) hx hb dX0_hasGate_7 dX0_hasGate_8 (by decide) (fun c1 => ?_) (fun c1 => ?_)
  · have h := q_t h c1
    refine lv_iconst (v := (0 : Int32)) hx hb dX0_hasGate_15 (by decide) ?_
    exact q_zret hx hb hr hlocks hK hP hD hS rfl (Option.some.inj h) rfl dX0_hasGate_16
  · have h := q_f h c1
    refine lv_iconst (v := (1 : Int32)) hx hb dX0_hasGate_11 (by decide) ?_
    refine lv_goto (tgt := 16) hx hb dX0_hasGate_12 (by decide) ?_
    exact q_zret hx hb hr hlocks hK hP hD hS rfl (Option.some.inj h) rfl dX0_hasGate_16
set_option maxHeartbeats 4000000 in
set_option maxRecDepth 100000 in
theorem kX0_entryAtOrAfter (l : Launch) (dC : Nat → ClassId) (dI : Nat → Nat → Nat) (cI cJ cZ : ClassId) (ad : Nat → Nat) (sz : Nat) (u : gS) (x1 : Int32) (x2 : Int64) (r9 : Int64) (h : fX0_entryAtOrAfter u x1 x2 = some r9) : Kl l yX0_entryAtOrAfter wsX0_entryAtOrAfter rmX0_entryAtOrAfter (dC, dI) vwCl (tyS cI cJ cZ) (wX0 cI cJ cZ ad) sz u [.ref (ad 0), .int x1, .long x2] r9 u := by
  refine g_ofW (cc := cX0_entryAtOrAfter) (maxL := 6) (ret := (some .long)) (wf := (wX0 cI cJ cZ ad)) (u := u) (Qf := fun A => va_Ql (fun r1 u1 => r1 = r9 ∧ u1 = u) (gAt (dC, dI) vwCl (tyS cI cJ cZ) A (wX0 cI cJ cZ ad)) A) (by decide) rfl (Nat.le_of_ble_eq_true rfl) ?_
  intro p e s m below meth c A ls C0 hK hP hD hA hl
  have hS : va_S A s.heap s.heap [] := va_S.rf
  obtain ⟨hx, hb, hml, hown, hts, hr, hlocks⟩ := id C0
  have hl : lv_has ls 6 [(0, .ref ((ad 0))), (1, .int x1), (2, .long x2)] := hl
  unfold fX0_entryAtOrAfter at h
  refine lv_aload_n hx hb dX0_entryAtOrAfter_0 rfl (lv_at hl 0 rfl) ?_
  refine lv_iload_n hx hb dX0_entryAtOrAfter_1 rfl (lv_at hl 1 rfl) ?_
  obtain ⟨r1, g3, h⟩ := q_s h
  refine q_Vi (rest := []) (As := [.int x1]) ⟨hx, hb, hml, hown, hts⟩ (kX0_hasGate l dC dI cI cJ cZ ad _ u x1 r1 g3) (cwV 1 hts gX0_entryAtOrAfter_X0_hasGate rfl rfl rfl hdX0_hasGate ⟨Nat.le_of_ble_eq_true rfl, Nat.le_of_ble_eq_true rfl⟩) (rvX0 hK hP) hK hP hD hS hA rfl hl.1 (Nat.le_of_ble_eq_true rfl) rfl dX0_entryAtOrAfter_2 ⟨Nat.zero_le _, Nat.zero_le _⟩ (fun H locs hP hD hS => ?_)
  refine lv_if_ne (tgt := 10) hx hb dX0_entryAtOrAfter_5 (by decide) (fun c4 => ?_) (fun c4 => ?_)
  · have h := q_f h c4
    refine lv_lload_n hx hb dX0_entryAtOrAfter_10 rfl (lv_at hl 2 rfl) ?_
    refine lv_ldc2 hx hb hown (hts _ mX0_entryAtOrAfter_116) dX0_entryAtOrAfter_11 ?_
    refine lv_lrem hx hb dX0_entryAtOrAfter_14 (by decide) ?_
    obtain ⟨v5, ev5, h⟩ := q_l h
    refine q_topl ev5 ?_
    refine lv_lstore (lv' := [(4, .long v5), (0, .ref ((ad 0))), (1, .int x1), (2, .long x2)]) hx hb dX0_entryAtOrAfter_15 hl (by decide) rfl (fun ls hl => ?_)
    refine lv_lload hx hb dX0_entryAtOrAfter_17 (lv_at hl 0 rfl) ?_
    refine lv_aload_n hx hb dX0_entryAtOrAfter_19 rfl (lv_at hl 1 rfl) ?_
    refine gfX0_opens inX0_entryAtOrAfter mX0_entryAtOrAfter_23 hx hb hts hown hK hP dX0_entryAtOrAfter_20 ?_
    refine lv_iload_n hx hb dX0_entryAtOrAfter_23 rfl (lv_at hl 2 rfl) ?_
    obtain ⟨hin, h⟩ := q_g h
    refine ldX0_opens hx hb hK hP hin dX0_entryAtOrAfter_24 ?_
    refine q_lc_ge (tgt := 41) hx hb dX0_entryAtOrAfter_25 dX0_entryAtOrAfter_26 (by decide) (fun c6 => ?_) (fun c6 => ?_)
    · have h := q_t h c6
      refine lv_lload hx hb dX0_entryAtOrAfter_41 (lv_at hl 0 rfl) ?_
      refine lv_aload_n hx hb dX0_entryAtOrAfter_43 rfl (lv_at hl 1 rfl) ?_
      refine gfX0_closes inX0_entryAtOrAfter mX0_entryAtOrAfter_26 hx hb hts hown hK hP dX0_entryAtOrAfter_44 ?_
      refine lv_iload_n hx hb dX0_entryAtOrAfter_47 rfl (lv_at hl 2 rfl) ?_
      obtain ⟨hin, h⟩ := q_g h
      refine ldX0_closes hx hb hK hP hin dX0_entryAtOrAfter_48 ?_
      refine q_lc_ge (tgt := 55) hx hb dX0_entryAtOrAfter_49 dX0_entryAtOrAfter_50 (by decide) (fun c7 => ?_) (fun c7 => ?_)
      · have h := q_t h c7
        refine lv_lload_n hx hb dX0_entryAtOrAfter_55 rfl (lv_at hl 3 rfl) ?_
        refine lv_lload hx hb dX0_entryAtOrAfter_56 (lv_at hl 0 rfl) ?_
        refine lv_lsub hx hb dX0_entryAtOrAfter_58 ?_
        refine lv_ldc2 hx hb hown (hts _ mX0_entryAtOrAfter_116) dX0_entryAtOrAfter_59 ?_
        refine lv_ladd hx hb dX0_entryAtOrAfter_62 ?_
        refine lv_aload_n hx hb dX0_entryAtOrAfter_63 rfl (lv_at hl 1 rfl) ?_
        refine gfX0_opens inX0_entryAtOrAfter mX0_entryAtOrAfter_23 hx hb hts hown hK hP dX0_entryAtOrAfter_64 ?_
        refine lv_iload_n hx hb dX0_entryAtOrAfter_67 rfl (lv_at hl 2 rfl) ?_
        obtain ⟨hin, h⟩ := q_g h
        refine ldX0_opens hx hb hK hP hin dX0_entryAtOrAfter_68 ?_
        refine lv_ladd hx hb dX0_entryAtOrAfter_69 ?_
        exact q_lret hx hb hr hlocks hK hP hD hS (Option.some.inj h) rfl dX0_entryAtOrAfter_70
      · have h := q_f h c7
        refine lv_lload_n hx hb dX0_entryAtOrAfter_53 rfl (lv_at hl 3 rfl) ?_
        exact q_lret hx hb hr hlocks hK hP hD hS (Option.some.inj h) rfl dX0_entryAtOrAfter_54
    · have h := q_f h c6
      refine lv_lload_n hx hb dX0_entryAtOrAfter_29 rfl (lv_at hl 3 rfl) ?_
      refine lv_lload hx hb dX0_entryAtOrAfter_30 (lv_at hl 0 rfl) ?_
      refine lv_lsub hx hb dX0_entryAtOrAfter_32 ?_
      refine lv_aload_n hx hb dX0_entryAtOrAfter_33 rfl (lv_at hl 1 rfl) ?_
      refine gfX0_opens inX0_entryAtOrAfter mX0_entryAtOrAfter_23 hx hb hts hown hK hP dX0_entryAtOrAfter_34 ?_
      refine lv_iload_n hx hb dX0_entryAtOrAfter_37 rfl (lv_at hl 2 rfl) ?_
      obtain ⟨hin, h⟩ := q_g h
      refine ldX0_opens hx hb hK hP hin dX0_entryAtOrAfter_38 ?_
      refine lv_ladd hx hb dX0_entryAtOrAfter_39 ?_
      exact q_lret hx hb hr hlocks hK hP hD hS (Option.some.inj h) rfl dX0_entryAtOrAfter_40
  · have h := q_t h c4
    refine lv_lload_n hx hb dX0_entryAtOrAfter_8 rfl (lv_at hl 2 rfl) ?_
    exact q_lret hx hb hr hlocks hK hP hD hS (Option.some.inj h) rfl dX0_entryAtOrAfter_9
set_option maxHeartbeats 4000000 in
set_option maxRecDepth 100000 in
theorem kX0_goOnFrom_L2 {l : Launch} {dC : Nat → ClassId} {dI : Nat → Nat → Nat} {cI cJ cZ : ClassId} {ad : Nat → Nat} {p : Program} {e : Env} {s : State} {m : MethodId} {below : List Frame} {meth : Method} {c : Code} {A : Nat → Prop} {args : Array Value} {u9 : gS} (C0 : gCtx p s m meth c args cX0_goOnFrom 5 none wsX0_goOnFrom yX0_goOnFrom.cls) (hK : va_K (dC, dI) vwCl (tyS cI cJ cZ) s) (hA : ∀ q, s.heap.size ≤ q → A q) :
    ∀ (n : Nat) (u : gS) (y1 : Int32) (y2 : Int32) (H : Heap) (locs : List Loc) (ls : Array Slot), fX0_goOnFrom_L2 n u y1 y2 = some u9 → va_P (dC, dI) vwCl ((wX0 cI cJ cZ ad) u) H → va_D A ((wX0 cI cJ cZ ad) u) → va_S A s.heap H locs → lv_has ls 5 [(0, .ref ((ad 0))), (1, .int y1), (2, .int y2)] → W p l e rmX0_goOnFrom s m args below meth c H locs 0 0 (MQ below (va_Qv (fun u1 => u1 = u9) (gAt (dC, dI) vwCl (tyS cI cJ cZ) A (wX0 cI cJ cZ ad)) A) args s 0 0 A) (F0 m 2 ls []) := by
  obtain ⟨hx, hb, hml, hown, hts, hr, hlocks⟩ := id C0
  intro n
  induction n with
  | zero =>
    intro u y1 y2 H locs ls h
    cases h
  | succ n ih2 =>
    intro u y1 y2 H locs ls h hP hD hS hl
    have h : fX0_goOnFrom_L2_b (fX0_goOnFrom_L2 n) u y1 y2 = some u9 := h
    unfold fX0_goOnFrom_L2_b at h
    refine lv_iload_n hx hb dX0_goOnFrom_2 rfl (lv_at hl 2 rfl) ?_
    refine lv_aload_n hx hb dX0_goOnFrom_3 rfl (lv_at hl 0 rfl) ?_
    refine gfX0_pieceCount inX0_goOnFrom mX0_goOnFrom_62 hx hb hts hown hK hP dX0_goOnFrom_4 ?_
    refine lv_icmp_ge (tgt := 86) hx hb dX0_goOnFrom_7 (by decide) (fun c1 => ?_) (fun c1 => ?_)
    · have h := q_t h c1
      exact q_vret hx hb hr hlocks hK hP hD hS (Option.some.inj h) dX0_goOnFrom_86
    · have h := q_f h c1
      refine lv_aload_n hx hb dX0_goOnFrom_10 rfl (lv_at hl 0 rfl) ?_
      refine lv_iload_n hx hb dX0_goOnFrom_11 rfl (lv_at hl 1 rfl) ?_
      refine lv_iload_n hx hb dX0_goOnFrom_12 rfl (lv_at hl 2 rfl) ?_
      obtain ⟨r2, g4, h⟩ := q_s h
      refine q_Vi (rest := []) (As := [.int y1, .int y2]) ⟨hx, hb, hml, hown, hts⟩ (kX0_mayGoOn l dC dI cI cJ cZ ad _ u y1 y2 r2 g4) (cwV 2 hts gX0_goOnFrom_X0_mayGoOn rfl rfl rfl hdX0_mayGoOn ⟨Nat.le_of_ble_eq_true rfl, Nat.le_of_ble_eq_true rfl⟩) (rvX0 hK hP) hK hP hD hS hA rfl hl.1 (Nat.le_of_ble_eq_true rfl) rfl dX0_goOnFrom_13 ⟨Nat.zero_le _, Nat.zero_le _⟩ (fun H locs hP hD hS => ?_)
      refine lv_if_ne (tgt := 22) hx hb dX0_goOnFrom_16 (by decide) (fun c5 => ?_) (fun c5 => ?_)
      · have h := q_f h c5
        refine lv_aload_n hx hb dX0_goOnFrom_22 rfl (lv_at hl 0 rfl) ?_
        refine lv_iload_n hx hb dX0_goOnFrom_23 rfl (lv_at hl 2 rfl) ?_
        refine lv_aload_n hx hb dX0_goOnFrom_24 rfl (lv_at hl 0 rfl) ?_
        refine gfX0_done inX0_goOnFrom mX0_goOnFrom_44 hx hb hts hown hK hP dX0_goOnFrom_25 ?_
        refine lv_iload_n hx hb dX0_goOnFrom_28 rfl (lv_at hl 1 rfl) ?_
        obtain ⟨hin, h⟩ := q_g h
        refine ldX0_done hx hb hK hP hin dX0_goOnFrom_29 ?_
        obtain ⟨r6, g8, h⟩ := q_s h
        refine q_Vl (rest := []) (As := [.int y2, .long (gl u 7 y1.toNatClampNeg)]) ⟨hx, hb, hml, hown, hts⟩ (kX0_entryAtOrAfter l dC dI cI cJ cZ ad _ u y2 (gl u 7 y1.toNatClampNeg) r6 g8) (cwV 2 hts gX0_goOnFrom_X0_entryAtOrAfter rfl rfl rfl hdX0_entryAtOrAfter ⟨Nat.le_of_ble_eq_true rfl, Nat.le_of_ble_eq_true rfl⟩) (rvX0 hK hP) hK hP hD hS hA rfl hl.1 (Nat.le_of_ble_eq_true rfl) rfl dX0_goOnFrom_30 ⟨Nat.zero_le _, Nat.zero_le _⟩ (fun H locs hP hD hS => ?_)
        refine lv_lstore_n (lv' := [(3, .long r6), (0, .ref ((ad 0))), (1, .int y1), (2, .int y2)]) hx hb dX0_goOnFrom_33 rfl hl (by decide) rfl (fun ls hl => ?_)
        refine lv_lload_n hx hb dX0_goOnFrom_34 rfl (lv_at hl 0 rfl) ?_
        refine lv_aload_n hx hb dX0_goOnFrom_35 rfl (lv_at hl 1 rfl) ?_
        refine gfX0_entered inX0_goOnFrom mX0_goOnFrom_41 hx hb hts hown hK hP dX0_goOnFrom_36 ?_
        refine lv_iload_n hx hb dX0_goOnFrom_39 rfl (lv_at hl 3 rfl) ?_
        obtain ⟨hin, h⟩ := q_g h
        refine ldX0_entered hx hb hK hP hin dX0_goOnFrom_40 ?_
        refine q_lc_ge (tgt := 80) hx hb dX0_goOnFrom_41 dX0_goOnFrom_42 (by decide) (fun c9 => ?_) (fun c9 => ?_)
        · have h := q_t h c9
          obtain ⟨v10, ev10, h⟩ := q_l h
          refine lv_iinc (v := v10) (lv' := [(2, .int v10), (3, .long r6), (0, .ref ((ad 0))), (1, .int y1)]) hx hb dX0_goOnFrom_80 hl (k := 3) rfl (by rw [ev10]; rfl) (by decide) rfl (fun ls hl => ?_)
          refine lv_goto (tgt := 2) hx hb dX0_goOnFrom_83 (by decide) ?_
          exact ih2 u y1 v10 _ _ _ h hP hD hS (lv_sub hl [2, 3, 0] rfl)
        · have h := q_f h c9
          refine lv_aload_n hx hb dX0_goOnFrom_45 rfl (lv_at hl 1 rfl) ?_
          refine gfX0_entered inX0_goOnFrom mX0_goOnFrom_41 hx hb hts hown hK hP dX0_goOnFrom_46 ?_
          refine lv_iload_n hx hb dX0_goOnFrom_49 rfl (lv_at hl 3 rfl) ?_
          refine lv_lload_n hx hb dX0_goOnFrom_50 rfl (lv_at hl 0 rfl) ?_
          obtain ⟨hin, h⟩ := q_g h
          obtain ⟨u11, eu11, h⟩ := q_l h
          refine stX0_entered hx hb hK hP hD hS hin eu11 dX0_goOnFrom_51 (fun H locs hP hD hS => ?_)
          refine lv_aload_n hx hb dX0_goOnFrom_52 rfl (lv_at hl 1 rfl) ?_
          refine gfX0_done inX0_goOnFrom mX0_goOnFrom_44 hx hb hts hown hK hP dX0_goOnFrom_53 ?_
          refine lv_iload_n hx hb dX0_goOnFrom_56 rfl (lv_at hl 3 rfl) ?_
          refine lv_aload_n hx hb dX0_goOnFrom_57 rfl (lv_at hl 1 rfl) ?_
          refine gfX0_done inX0_goOnFrom mX0_goOnFrom_44 hx hb hts hown hK hP dX0_goOnFrom_58 ?_
          refine lv_iload_n hx hb dX0_goOnFrom_61 rfl (lv_at hl 3 rfl) ?_
          obtain ⟨hin, h⟩ := q_g h
          refine ldX0_done hx hb hK hP hin dX0_goOnFrom_62 ?_
          refine lv_lload_n hx hb dX0_goOnFrom_63 rfl (lv_at hl 0 rfl) ?_
          refine lv_aload_n hx hb dX0_goOnFrom_64 rfl (lv_at hl 1 rfl) ?_
          refine lv_iload_n hx hb dX0_goOnFrom_65 rfl (lv_at hl 3 rfl) ?_
          refine lv_aload_n hx hb dX0_goOnFrom_66 rfl (lv_at hl 1 rfl) ?_
          refine gfX0_lengths inX0_goOnFrom mX0_goOnFrom_16 hx hb hts hown hK hP dX0_goOnFrom_67 ?_
          refine lv_iload_n hx hb dX0_goOnFrom_70 rfl (lv_at hl 3 rfl) ?_
          obtain ⟨hin, h⟩ := q_g h
          refine ldX0_lengths hx hb hK hP hin dX0_goOnFrom_71 ?_
          obtain ⟨r12, g14, h⟩ := q_s h
          refine q_Vl (rest := [.long r6, .long (gl u11 7 y2.toNatClampNeg), .int y2, .ref (ad 12)]) (As := [.int y2, .long (gl u11 0 y2.toNatClampNeg)]) ⟨hx, hb, hml, hown, hts⟩ (kX0_secondsFor l dC dI cI cJ cZ ad _ u11 y2 (gl u11 0 y2.toNatClampNeg) r12 g14) (cwV 2 hts gX0_goOnFrom_X0_secondsFor rfl rfl rfl hdX0_secondsFor ⟨Nat.le_of_ble_eq_true rfl, Nat.le_of_ble_eq_true rfl⟩) (rvX0 hK hP) hK hP hD hS hA rfl hl.1 (Nat.le_of_ble_eq_true rfl) rfl dX0_goOnFrom_72 ⟨Nat.zero_le _, Nat.zero_le _⟩ (fun H locs hP hD hS => ?_)
          refine lv_ladd hx hb dX0_goOnFrom_75 ?_
          refine va_mmin_long hx hb (by rw [hml]; exact hl.1.symm) hown (hts _ mX0_goOnFrom_minl) (hts _ mX0_goOnFrom_mins) (hts _ mX0_goOnFrom_mini) (hts _ mX0_goOnFrom_minc) (Nat.le_of_ble_eq_true rfl) (Nat.le_of_ble_eq_true rfl) (Nat.zero_le _) (Nat.zero_le _) dX0_goOnFrom_76 ?_
          obtain ⟨hin, h⟩ := q_g h
          obtain ⟨u15, eu15, h⟩ := q_l h
          refine stX0_done hx hb hK hP hD hS hin eu15 dX0_goOnFrom_79 (fun H locs hP hD hS => ?_)
          obtain ⟨v16, ev16, h⟩ := q_l h
          refine lv_iinc (v := v16) (lv' := [(2, .int v16), (3, .long r6), (0, .ref ((ad 0))), (1, .int y1)]) hx hb dX0_goOnFrom_80 hl (k := 3) rfl (by rw [ev16]; rfl) (by decide) rfl (fun ls hl => ?_)
          refine lv_goto (tgt := 2) hx hb dX0_goOnFrom_83 (by decide) ?_
          exact ih2 u15 y1 v16 _ _ _ h hP hD hS (lv_sub hl [2, 3, 0] rfl)
      · have h := q_t h c5
        refine lv_goto (tgt := 80) hx hb dX0_goOnFrom_19 (by decide) ?_
        obtain ⟨v17, ev17, h⟩ := q_l h
        refine lv_iinc (v := v17) (lv' := [(2, .int v17), (0, .ref ((ad 0))), (1, .int y1)]) hx hb dX0_goOnFrom_80 hl (k := 2) rfl (by rw [ev17]; rfl) (by decide) rfl (fun ls hl => ?_)
        refine lv_goto (tgt := 2) hx hb dX0_goOnFrom_83 (by decide) ?_
        exact ih2 u y1 v17 _ _ _ h hP hD hS (lv_sub hl [1, 2, 0] rfl)
set_option maxHeartbeats 4000000 in
set_option maxRecDepth 100000 in
theorem kX0_goOnFrom (l : Launch) (dC : Nat → ClassId) (dI : Nat → Nat → Nat) (cI cJ cZ : ClassId) (ad : Nat → Nat) (sz : Nat) (u : gS) (x1 : Int32) (u9 : gS) (h : fX0_goOnFrom u x1 = some u9) : Kv l yX0_goOnFrom wsX0_goOnFrom rmX0_goOnFrom (dC, dI) vwCl (tyS cI cJ cZ) (wX0 cI cJ cZ ad) sz u [.ref (ad 0), .int x1] u9 := by
  refine g_ofW (cc := cX0_goOnFrom) (maxL := 5) (ret := none) (wf := (wX0 cI cJ cZ ad)) (u := u) (Qf := fun A => va_Qv (fun u1 => u1 = u9) (gAt (dC, dI) vwCl (tyS cI cJ cZ) A (wX0 cI cJ cZ ad)) A) (by decide) rfl (Nat.le_of_ble_eq_true rfl) ?_
  intro p e s m below meth c A ls C0 hK hP hD hA hl
  have hS : va_S A s.heap s.heap [] := va_S.rf
  obtain ⟨hx, hb, hml, hown, hts, hr, hlocks⟩ := id C0
  have hl : lv_has ls 5 [(0, .ref ((ad 0))), (1, .int x1)] := hl
  unfold fX0_goOnFrom at h
  refine lv_iconst (v := (0 : Int32)) hx hb dX0_goOnFrom_0 (by decide) ?_
  refine lv_istore_n (lv' := [(2, .int (0 : Int32)), (0, .ref ((ad 0))), (1, .int x1)]) hx hb dX0_goOnFrom_1 rfl hl (by decide) rfl (fun ls hl => ?_)
  exact kX0_goOnFrom_L2 C0 hK hA 200 u x1 (0 : Int32) _ _ _ h hP hD hS (lv_sub hl [1, 2, 0] rfl)
set_option maxHeartbeats 4000000 in
set_option maxRecDepth 100000 in
theorem kX0_findLeastTimes_L14 {l : Launch} {dC : Nat → ClassId} {dI : Nat → Nat → Nat} {cI cJ cZ : ClassId} {ad : Nat → Nat} {p : Program} {e : Env} {s : State} {m : MethodId} {below : List Frame} {meth : Method} {c : Code} {A : Nat → Prop} {args : Array Value} {u9 : gS} (C0 : gCtx p s m meth c args cX0_findLeastTimes 7 none wsX0_findLeastTimes yX0_findLeastTimes.cls) (hK : va_K (dC, dI) vwCl (tyS cI cJ cZ) s) (hA : ∀ q, s.heap.size ≤ q → A q) :
    ∀ (n : Nat) (u : gS) (y4 : Int32) (y5 : Int32) (H : Heap) (locs : List Loc) (ls : Array Slot), fX0_findLeastTimes_L14 n u y4 y5 = some u9 → va_P (dC, dI) vwCl ((wX0 cI cJ cZ ad) u) H → va_D A ((wX0 cI cJ cZ ad) u) → va_S A s.heap H locs → lv_has ls 7 [(0, .ref ((ad 0))), (4, .int y4), (5, .int y5)] → W p l e rmX0_findLeastTimes s m args below meth c H locs 0 0 (MQ below (va_Qv (fun u1 => u1 = u9) (gAt (dC, dI) vwCl (tyS cI cJ cZ) A (wX0 cI cJ cZ ad)) A) args s 0 0 A) (F0 m 14 ls []) := by
  obtain ⟨hx, hb, hml, hown, hts, hr, hlocks⟩ := id C0
  intro n
  induction n with
  | zero =>
    intro u y4 y5 H locs ls h
    cases h
  | succ n ih14 =>
    intro u y4 y5 H locs ls h hP hD hS hl
    have h : fX0_findLeastTimes_L14_b (fX0_findLeastTimes_L14 n) u y4 y5 = some u9 := h
    unfold fX0_findLeastTimes_L14_b at h
    refine lv_iload hx hb dX0_findLeastTimes_14 (lv_at hl 2 rfl) ?_
    refine lv_aload_n hx hb dX0_findLeastTimes_16 rfl (lv_at hl 0 rfl) ?_
    refine gfX0_pieceCount inX0_findLeastTimes mX0_findLeastTimes_62 hx hb hts hown hK hP dX0_findLeastTimes_17 ?_
    refine lv_icmp_ge (tgt := 74) hx hb dX0_findLeastTimes_20 (by decide) (fun c5 => ?_) (fun c5 => ?_)
    · have h := q_t h c5
      exact q_vret hx hb hr hlocks hK hP hD hS (Option.some.inj h) dX0_findLeastTimes_74
    · have h := q_f h c5
      refine lv_aload_n hx hb dX0_findLeastTimes_23 rfl (lv_at hl 0 rfl) ?_
      obtain ⟨r6, g8, h⟩ := q_s h
      refine q_Vi (rest := []) (As := []) ⟨hx, hb, hml, hown, hts⟩ (kX0_earliestUnsettled l dC dI cI cJ cZ ad _ u r6 g8) (cwV 0 hts gX0_findLeastTimes_X0_earliestUnsettled rfl rfl rfl hdX0_earliestUnsettled ⟨Nat.le_of_ble_eq_true rfl, Nat.le_of_ble_eq_true rfl⟩) (rvX0 hK hP) hK hP hD hS hA rfl hl.1 (Nat.le_of_ble_eq_true rfl) rfl dX0_findLeastTimes_24 ⟨Nat.zero_le _, Nat.zero_le _⟩ (fun H locs hP hD hS => ?_)
      refine lv_istore (lv' := [(6, .int r6), (0, .ref ((ad 0))), (4, .int y4), (5, .int y5)]) hx hb dX0_findLeastTimes_27 hl (by decide) rfl (fun ls hl => ?_)
      refine lv_iload hx hb dX0_findLeastTimes_29 (lv_at hl 0 rfl) ?_
      refine lv_iconst (v := (-1 : Int32)) hx hb dX0_findLeastTimes_31 (by decide) ?_
      refine lv_icmp_eq (tgt := 53) hx hb dX0_findLeastTimes_32 (by decide) (fun c9 => ?_) (fun c9 => ?_)
      · have h := q_t h c9
        exact q_vret hx hb hr hlocks hK hP hD hS (Option.some.inj h) dX0_findLeastTimes_53
      · have h := q_f h c9
        refine lv_aload_n hx hb dX0_findLeastTimes_35 rfl (lv_at hl 1 rfl) ?_
        refine gfX0_done inX0_findLeastTimes mX0_findLeastTimes_44 hx hb hts hown hK hP dX0_findLeastTimes_36 ?_
        refine lv_iload hx hb dX0_findLeastTimes_39 (lv_at hl 0 rfl) ?_
        obtain ⟨hin, h⟩ := q_g h
        refine ldX0_done hx hb hK hP hin dX0_findLeastTimes_41 ?_
        refine lv_aload_n hx hb dX0_findLeastTimes_42 rfl (lv_at hl 1 rfl) ?_
        refine gfX0_entered inX0_findLeastTimes mX0_findLeastTimes_41 hx hb hts hown hK hP dX0_findLeastTimes_43 ?_
        refine lv_iload hx hb dX0_findLeastTimes_46 (lv_at hl 2 rfl) ?_
        obtain ⟨hin, h⟩ := q_g h
        refine ldX0_entered hx hb hK hP hin dX0_findLeastTimes_48 ?_
        refine q_lc_le (tgt := 54) hx hb dX0_findLeastTimes_49 dX0_findLeastTimes_50 (by decide) (fun c10 => ?_) (fun c10 => ?_)
        · have h := q_t h c10
          refine lv_aload_n hx hb dX0_findLeastTimes_54 rfl (lv_at hl 1 rfl) ?_
          refine gfX0_settled inX0_findLeastTimes mX0_findLeastTimes_47 hx hb hts hown hK hP dX0_findLeastTimes_55 ?_
          refine lv_iload hx hb dX0_findLeastTimes_58 (lv_at hl 0 rfl) ?_
          refine lv_iconst (v := (1 : Int32)) hx hb dX0_findLeastTimes_60 (by decide) ?_
          obtain ⟨hin, h⟩ := q_g h
          obtain ⟨u11, eu11, h⟩ := q_l h
          refine stX0_settled hx hb hK hP hD hS hin eu11 dX0_findLeastTimes_61 (fun H locs hP hD hS => ?_)
          refine lv_aload_n hx hb dX0_findLeastTimes_62 rfl (lv_at hl 1 rfl) ?_
          refine lv_iload hx hb dX0_findLeastTimes_63 (lv_at hl 0 rfl) ?_
          obtain ⟨u13, g14, h⟩ := q_s h
          refine q_Vv (rest := []) (As := [.int r6]) ⟨hx, hb, hml, hown, hts⟩ (kX0_goOnFrom l dC dI cI cJ cZ ad _ u11 r6 u13 g14) (cwV 1 hts gX0_findLeastTimes_X0_goOnFrom rfl rfl rfl hdX0_goOnFrom ⟨Nat.le_of_ble_eq_true rfl, Nat.le_of_ble_eq_true rfl⟩) (rvX0 hK hP) hK hP hD hS hA rfl hl.1 (Nat.le_of_ble_eq_true rfl) rfl dX0_findLeastTimes_65 ⟨Nat.zero_le _, Nat.zero_le _⟩ (fun H locs hP hD hS => ?_)
          obtain ⟨v15, ev15, h⟩ := q_l h
          refine lv_iinc (v := v15) (lv' := [(5, .int v15), (6, .int r6), (0, .ref ((ad 0))), (4, .int y4)]) hx hb dX0_findLeastTimes_68 hl (k := 3) rfl (by rw [ev15]; rfl) (by decide) rfl (fun ls hl => ?_)
          refine lv_goto (tgt := 14) hx hb dX0_findLeastTimes_71 (by decide) ?_
          exact ih14 u13 y4 v15 _ _ _ h hP hD hS (lv_sub hl [2, 3, 0] rfl)
        · have h := q_f h c10
          exact q_vret hx hb hr hlocks hK hP hD hS (Option.some.inj h) dX0_findLeastTimes_53
set_option maxHeartbeats 4000000 in
set_option maxRecDepth 100000 in
theorem kX0_findLeastTimes (l : Launch) (dC : Nat → ClassId) (dI : Nat → Nat → Nat) (cI cJ cZ : ClassId) (ad : Nat → Nat) (sz : Nat) (u : gS) (x1 : Int32) (x2 : Int64) (x3 : Int32) (u9 : gS) (h : fX0_findLeastTimes u x1 x2 x3 = some u9) : Kv l yX0_findLeastTimes wsX0_findLeastTimes rmX0_findLeastTimes (dC, dI) vwCl (tyS cI cJ cZ) (wX0 cI cJ cZ ad) sz u [.ref (ad 0), .int x1, .long x2, .int x3] u9 := by
  refine g_ofW (cc := cX0_findLeastTimes) (maxL := 7) (ret := none) (wf := (wX0 cI cJ cZ ad)) (u := u) (Qf := fun A => va_Qv (fun u1 => u1 = u9) (gAt (dC, dI) vwCl (tyS cI cJ cZ) A (wX0 cI cJ cZ ad)) A) (by decide) rfl (Nat.le_of_ble_eq_true rfl) ?_
  intro p e s m below meth c A ls C0 hK hP hD hA hl
  have hS : va_S A s.heap s.heap [] := va_S.rf
  obtain ⟨hx, hb, hml, hown, hts, hr, hlocks⟩ := id C0
  have hl : lv_has ls 7 [(0, .ref ((ad 0))), (1, .int x1), (2, .long x2), (4, .int x3)] := hl
  unfold fX0_findLeastTimes at h
  refine lv_aload_n hx hb dX0_findLeastTimes_0 rfl (lv_at hl 0 rfl) ?_
  obtain ⟨u2, g3, h⟩ := q_s h
  refine q_Vv (rest := []) (As := []) ⟨hx, hb, hml, hown, hts⟩ (kX0_forgetLeastTimes l dC dI cI cJ cZ ad _ u u2 g3) (cwV 0 hts gX0_findLeastTimes_X0_forgetLeastTimes rfl rfl rfl hdX0_forgetLeastTimes ⟨Nat.le_of_ble_eq_true rfl, Nat.le_of_ble_eq_true rfl⟩) (rvX0 hK hP) hK hP hD hS hA rfl hl.1 (Nat.le_of_ble_eq_true rfl) rfl dX0_findLeastTimes_1 ⟨Nat.zero_le _, Nat.zero_le _⟩ (fun H locs hP hD hS => ?_)
  refine lv_aload_n hx hb dX0_findLeastTimes_4 rfl (lv_at hl 0 rfl) ?_
  refine gfX0_done inX0_findLeastTimes mX0_findLeastTimes_44 hx hb hts hown hK hP dX0_findLeastTimes_5 ?_
  refine lv_iload_n hx hb dX0_findLeastTimes_8 rfl (lv_at hl 1 rfl) ?_
  refine lv_lload_n hx hb dX0_findLeastTimes_9 rfl (lv_at hl 2 rfl) ?_
  obtain ⟨hin, h⟩ := q_g h
  obtain ⟨u4, eu4, h⟩ := q_l h
  refine stX0_done hx hb hK hP hD hS hin eu4 dX0_findLeastTimes_10 (fun H locs hP hD hS => ?_)
  refine lv_iconst (v := (0 : Int32)) hx hb dX0_findLeastTimes_11 (by decide) ?_
  refine lv_istore (lv' := [(5, .int (0 : Int32)), (0, .ref ((ad 0))), (1, .int x1), (2, .long x2), (4, .int x3)]) hx hb dX0_findLeastTimes_12 hl (by decide) rfl (fun ls hl => ?_)
  exact kX0_findLeastTimes_L14 C0 hK hA 200 u4 x3 (0 : Int32) _ _ _ h hP hD hS (lv_sub hl [1, 4, 0] rfl)
set_option maxHeartbeats 4000000 in
set_option maxRecDepth 100000 in
theorem kX0_leastArrival (l : Launch) (dC : Nat → ClassId) (dI : Nat → Nat → Nat) (cI cJ cZ : ClassId) (ad : Nat → Nat) (sz : Nat) (u : gS) (x1 : Int32) (x2 : Int32) (x3 : Int64) (r9 : Int64) (u9 : gS) (h : fX0_leastArrival u x1 x2 x3 = some (r9, u9)) : Kl l yX0_leastArrival wsX0_leastArrival rmX0_leastArrival (dC, dI) vwCl (tyS cI cJ cZ) (wX0 cI cJ cZ ad) sz u [.ref (ad 0), .int x1, .int x2, .long x3] r9 u9 := by
  refine g_ofW (cc := cX0_leastArrival) (maxL := 11) (ret := (some .long)) (wf := (wX0 cI cJ cZ ad)) (u := u) (Qf := fun A => va_Ql (fun r1 u1 => r1 = r9 ∧ u1 = u9) (gAt (dC, dI) vwCl (tyS cI cJ cZ) A (wX0 cI cJ cZ ad)) A) (by decide) rfl (Nat.le_of_ble_eq_true rfl) ?_
  intro p e s m below meth c A ls C0 hK hP hD hA hl
  have hS : va_S A s.heap s.heap [] := va_S.rf
  obtain ⟨hx, hb, hml, hown, hts, hr, hlocks⟩ := id C0
  have hl : lv_has ls 11 [(0, .ref ((ad 0))), (1, .int x1), (2, .int x2), (3, .long x3)] := hl
  unfold fX0_leastArrival at h
  refine lv_lload_n hx hb dX0_leastArrival_0 rfl (lv_at hl 3 rfl) ?_
  refine lv_aload_n hx hb dX0_leastArrival_1 rfl (lv_at hl 0 rfl) ?_
  refine lv_iload_n hx hb dX0_leastArrival_2 rfl (lv_at hl 1 rfl) ?_
  obtain ⟨r1, g3, h⟩ := q_s h
  refine q_Vl (rest := [.long x3]) (As := [.int x1]) ⟨hx, hb, hml, hown, hts⟩ (kX0_secondsAcross l dC dI cI cJ cZ ad _ u x1 r1 g3) (cwV 1 hts gX0_leastArrival_X0_secondsAcross rfl rfl rfl hdX0_secondsAcross ⟨Nat.le_of_ble_eq_true rfl, Nat.le_of_ble_eq_true rfl⟩) (rvX0 hK hP) hK hP hD hS hA rfl hl.1 (Nat.le_of_ble_eq_true rfl) rfl dX0_leastArrival_3 ⟨Nat.zero_le _, Nat.zero_le _⟩ (fun H locs hP hD hS => ?_)
  refine lv_ladd hx hb dX0_leastArrival_6 ?_
  obtain ⟨v4, ev4, h⟩ := q_l h
  refine q_topl ev4 ?_
  refine lv_lstore (lv' := [(5, .long v4), (0, .ref ((ad 0))), (1, .int x1), (2, .int x2), (3, .long x3)]) hx hb dX0_leastArrival_7 hl (by decide) rfl (fun ls hl => ?_)
  refine lv_aload_n hx hb dX0_leastArrival_9 rfl (lv_at hl 1 rfl) ?_
  refine gfX0_stopPieces inX0_leastArrival mX0_leastArrival_32 hx hb hts hown hK hP dX0_leastArrival_10 ?_
  refine lv_iload_n hx hb dX0_leastArrival_13 rfl (lv_at hl 2 rfl) ?_
  obtain ⟨hin, h⟩ := q_g h
  refine ldX0_stopPieces hx hb hK hP hin dX0_leastArrival_14 ?_
  obtain ⟨v5, ev5, h⟩ := q_l h
  refine q_topi ev5 ?_
  refine lv_istore (lv' := [(7, .int v5), (5, .long v4), (0, .ref ((ad 0))), (1, .int x1), (2, .int x2), (3, .long x3)]) hx hb dX0_leastArrival_15 hl (by decide) rfl (fun ls hl => ?_)
  refine lv_aload_n hx hb dX0_leastArrival_17 rfl (lv_at hl 2 rfl) ?_
  refine gfX0_stopPieces inX0_leastArrival mX0_leastArrival_32 hx hb hts hown hK hP dX0_leastArrival_18 ?_
  refine lv_iload_n hx hb dX0_leastArrival_21 rfl (lv_at hl 4 rfl) ?_
  obtain ⟨hin, h⟩ := q_g h
  refine ldX0_stopPieces hx hb hK hP hin dX0_leastArrival_22 ?_
  obtain ⟨v6, ev6, h⟩ := q_l h
  refine q_topi ev6 ?_
  refine lv_istore (lv' := [(8, .int v6), (7, .int v5), (5, .long v4), (0, .ref ((ad 0))), (1, .int x1), (2, .int x2), (3, .long x3)]) hx hb dX0_leastArrival_23 hl (by decide) rfl (fun ls hl => ?_)
  refine lv_aload_n hx hb dX0_leastArrival_25 rfl (lv_at hl 3 rfl) ?_
  refine lv_iload_n hx hb dX0_leastArrival_26 rfl (lv_at hl 4 rfl) ?_
  refine lv_iload_n hx hb dX0_leastArrival_27 rfl (lv_at hl 5 rfl) ?_
  obtain ⟨r7, g9, h⟩ := q_s h
  refine q_Vi (rest := []) (As := [.int x1, .int x2]) ⟨hx, hb, hml, hown, hts⟩ (kX0_isStraightOn l dC dI cI cJ cZ ad _ u x1 x2 r7 g9) (cwV 2 hts gX0_leastArrival_X0_isStraightOn rfl rfl rfl hdX0_isStraightOn ⟨Nat.le_of_ble_eq_true rfl, Nat.le_of_ble_eq_true rfl⟩) (rvX0 hK hP) hK hP hD hS hA rfl hl.1 (Nat.le_of_ble_eq_true rfl) rfl dX0_leastArrival_28 ⟨Nat.zero_le _, Nat.zero_le _⟩ (fun H locs hP hD hS => ?_)
  refine lv_if_eq (tgt := 67) hx hb dX0_leastArrival_31 (by decide) (fun c10 => ?_) (fun c10 => ?_)
  · have h := q_t h c10
    refine lv_aload_n hx hb dX0_leastArrival_67 rfl (lv_at hl 3 rfl) ?_
    refine gfX0_lengths inX0_leastArrival mX0_leastArrival_16 hx hb hts hown hK hP dX0_leastArrival_68 ?_
    refine lv_iload hx hb dX0_leastArrival_71 (lv_at hl 1 rfl) ?_
    obtain ⟨hin, h⟩ := q_g h
    refine ldX0_lengths hx hb hK hP hin dX0_leastArrival_73 ?_
    refine lv_aload_n hx hb dX0_leastArrival_74 rfl (lv_at hl 3 rfl) ?_
    refine gfX0_stopMetres inX0_leastArrival mX0_leastArrival_38 hx hb hts hown hK hP dX0_leastArrival_75 ?_
    refine lv_iload_n hx hb dX0_leastArrival_78 rfl (lv_at hl 4 rfl) ?_
    obtain ⟨hin, h⟩ := q_g h
    refine ldX0_stopMetres hx hb hK hP hin dX0_leastArrival_79 ?_
    refine lv_lsub hx hb dX0_leastArrival_80 ?_
    obtain ⟨v11, ev11, h⟩ := q_l h
    refine q_topl ev11 ?_
    refine lv_lstore (lv' := [(9, .long v11), (8, .int v6), (7, .int v5), (5, .long v4), (0, .ref ((ad 0))), (1, .int x1), (2, .int x2), (3, .long x3)]) hx hb dX0_leastArrival_81 hl (by decide) rfl (fun ls hl => ?_)
    refine lv_aload_n hx hb dX0_leastArrival_83 rfl (lv_at hl 4 rfl) ?_
    refine lv_iload hx hb dX0_leastArrival_84 (lv_at hl 2 rfl) ?_
    refine lv_lload hx hb dX0_leastArrival_86 (lv_at hl 3 rfl) ?_
    refine lv_aload_n hx hb dX0_leastArrival_88 rfl (lv_at hl 4 rfl) ?_
    refine lv_iload hx hb dX0_leastArrival_89 (lv_at hl 2 rfl) ?_
    refine lv_lload hx hb dX0_leastArrival_91 (lv_at hl 0 rfl) ?_
    obtain ⟨r12, g14, h⟩ := q_s h
    refine q_Vl (rest := [.long v4, .int v5, .ref (ad 0)]) (As := [.int v5, .long v11]) ⟨hx, hb, hml, hown, hts⟩ (kX0_secondsFor l dC dI cI cJ cZ ad _ u v5 v11 r12 g14) (cwV 2 hts gX0_leastArrival_X0_secondsFor rfl rfl rfl hdX0_secondsFor ⟨Nat.le_of_ble_eq_true rfl, Nat.le_of_ble_eq_true rfl⟩) (rvX0 hK hP) hK hP hD hS hA rfl hl.1 (Nat.le_of_ble_eq_true rfl) rfl dX0_leastArrival_93 ⟨Nat.zero_le _, Nat.zero_le _⟩ (fun H locs hP hD hS => ?_)
    refine lv_ladd hx hb dX0_leastArrival_96 ?_
    refine lv_iload hx hb dX0_leastArrival_97 (lv_at hl 1 rfl) ?_
    obtain ⟨u16, g17, h⟩ := q_s h
    refine q_Vv (rest := []) (As := [.int v5, .long (v4 + r12), .int v6]) ⟨hx, hb, hml, hown, hts⟩ (kX0_findLeastTimes l dC dI cI cJ cZ ad _ u v5 (v4 + r12) v6 u16 g17) (cwV 3 hts gX0_leastArrival_X0_findLeastTimes rfl rfl rfl hdX0_findLeastTimes ⟨Nat.le_of_ble_eq_true rfl, Nat.le_of_ble_eq_true rfl⟩) (rvX0 hK hP) hK hP hD hS hA rfl hl.1 (Nat.le_of_ble_eq_true rfl) rfl dX0_leastArrival_99 ⟨Nat.zero_le _, Nat.zero_le _⟩ (fun H locs hP hD hS => ?_)
    refine lv_aload_n hx hb dX0_leastArrival_102 rfl (lv_at hl 4 rfl) ?_
    refine gfX0_entered inX0_leastArrival mX0_leastArrival_41 hx hb hts hown hK hP dX0_leastArrival_103 ?_
    refine lv_iload hx hb dX0_leastArrival_106 (lv_at hl 1 rfl) ?_
    obtain ⟨hin, h⟩ := q_g h
    refine ldX0_entered hx hb hK hP hin dX0_leastArrival_108 ?_
    refine lv_ldc2 hx hb hown (hts _ mX0_leastArrival_159) dX0_leastArrival_109 ?_
    refine q_lc_ne (tgt := 120) hx hb dX0_leastArrival_112 dX0_leastArrival_113 (by decide) (fun c18 => ?_) (fun c18 => ?_)
    · have h := q_f h c18
      refine lv_aload_n hx hb dX0_leastArrival_120 rfl (lv_at hl 4 rfl) ?_
      refine gfX0_entered inX0_leastArrival mX0_leastArrival_41 hx hb hts hown hK hP dX0_leastArrival_121 ?_
      refine lv_iload hx hb dX0_leastArrival_124 (lv_at hl 1 rfl) ?_
      obtain ⟨hin, h⟩ := q_g h
      refine ldX0_entered hx hb hK hP hin dX0_leastArrival_126 ?_
      refine lv_aload_n hx hb dX0_leastArrival_127 rfl (lv_at hl 4 rfl) ?_
      refine lv_iload hx hb dX0_leastArrival_128 (lv_at hl 1 rfl) ?_
      refine lv_aload_n hx hb dX0_leastArrival_130 rfl (lv_at hl 4 rfl) ?_
      refine gfX0_stopMetres inX0_leastArrival mX0_leastArrival_38 hx hb hts hown hK hP dX0_leastArrival_131 ?_
      refine lv_iload_n hx hb dX0_leastArrival_134 rfl (lv_at hl 6 rfl) ?_
      obtain ⟨hin, h⟩ := q_g h
      refine ldX0_stopMetres hx hb hK hP hin dX0_leastArrival_135 ?_
      obtain ⟨r19, g21, h⟩ := q_s h
      refine q_Vl (rest := [.long (gl u16 6 v6.toNatClampNeg)]) (As := [.int v6, .long (gl u16 5 x2.toNatClampNeg)]) ⟨hx, hb, hml, hown, hts⟩ (kX0_secondsFor l dC dI cI cJ cZ ad _ u16 v6 (gl u16 5 x2.toNatClampNeg) r19 g21) (cwV 2 hts gX0_leastArrival_X0_secondsFor rfl rfl rfl hdX0_secondsFor ⟨Nat.le_of_ble_eq_true rfl, Nat.le_of_ble_eq_true rfl⟩) (rvX0 hK hP) hK hP hD hS hA rfl hl.1 (Nat.le_of_ble_eq_true rfl) rfl dX0_leastArrival_136 ⟨Nat.zero_le _, Nat.zero_le _⟩ (fun H locs hP hD hS => ?_)
      refine lv_ladd hx hb dX0_leastArrival_139 ?_
      refine lv_aload_n hx hb dX0_leastArrival_140 rfl (lv_at hl 4 rfl) ?_
      refine lv_iload_n hx hb dX0_leastArrival_141 rfl (lv_at hl 6 rfl) ?_
      obtain ⟨r22, g24, h⟩ := q_s h
      refine q_Vl (rest := [.long ((gl u16 6 v6.toNatClampNeg) + r19)]) (As := [.int x2]) ⟨hx, hb, hml, hown, hts⟩ (kX0_secondsAcross l dC dI cI cJ cZ ad _ u16 x2 r22 g24) (cwV 1 hts gX0_leastArrival_X0_secondsAcross rfl rfl rfl hdX0_secondsAcross ⟨Nat.le_of_ble_eq_true rfl, Nat.le_of_ble_eq_true rfl⟩) (rvX0 hK hP) hK hP hD hS hA rfl hl.1 (Nat.le_of_ble_eq_true rfl) rfl dX0_leastArrival_142 ⟨Nat.zero_le _, Nat.zero_le _⟩ (fun H locs hP hD hS => ?_)
      refine lv_ladd hx hb dX0_leastArrival_145 ?_
      exact q_lret hx hb hr hlocks hK hP hD hS (q_p h).1 (q_p h).2 dX0_leastArrival_146
    · have h := q_t h c18
      refine lv_ldc2 hx hb hown (hts _ mX0_leastArrival_110) dX0_leastArrival_116 ?_
      exact q_lret hx hb hr hlocks hK hP hD hS (q_p h).1 (q_p h).2 dX0_leastArrival_119
  · have h := q_f h c10
    refine lv_aload_n hx hb dX0_leastArrival_34 rfl (lv_at hl 3 rfl) ?_
    refine gfX0_stopMetres inX0_leastArrival mX0_leastArrival_38 hx hb hts hown hK hP dX0_leastArrival_35 ?_
    refine lv_iload_n hx hb dX0_leastArrival_38 rfl (lv_at hl 5 rfl) ?_
    obtain ⟨hin, h⟩ := q_g h
    refine ldX0_stopMetres hx hb hK hP hin dX0_leastArrival_39 ?_
    refine lv_aload_n hx hb dX0_leastArrival_40 rfl (lv_at hl 3 rfl) ?_
    refine gfX0_stopMetres inX0_leastArrival mX0_leastArrival_38 hx hb hts hown hK hP dX0_leastArrival_41 ?_
    refine lv_iload_n hx hb dX0_leastArrival_44 rfl (lv_at hl 4 rfl) ?_
    obtain ⟨hin, h⟩ := q_g h
    refine ldX0_stopMetres hx hb hK hP hin dX0_leastArrival_45 ?_
    refine lv_lsub hx hb dX0_leastArrival_46 ?_
    obtain ⟨v25, ev25, h⟩ := q_l h
    refine q_topl ev25 ?_
    refine lv_lstore (lv' := [(9, .long v25), (8, .int v6), (7, .int v5), (5, .long v4), (0, .ref ((ad 0))), (1, .int x1), (2, .int x2), (3, .long x3)]) hx hb dX0_leastArrival_47 hl (by decide) rfl (fun ls hl => ?_)
    refine lv_lload hx hb dX0_leastArrival_49 (lv_at hl 3 rfl) ?_
    refine lv_aload_n hx hb dX0_leastArrival_51 rfl (lv_at hl 4 rfl) ?_
    refine lv_iload hx hb dX0_leastArrival_52 (lv_at hl 2 rfl) ?_
    refine lv_lload hx hb dX0_leastArrival_54 (lv_at hl 0 rfl) ?_
    obtain ⟨r26, g28, h⟩ := q_s h
    refine q_Vl (rest := [.long v4]) (As := [.int v5, .long v25]) ⟨hx, hb, hml, hown, hts⟩ (kX0_secondsFor l dC dI cI cJ cZ ad _ u v5 v25 r26 g28) (cwV 2 hts gX0_leastArrival_X0_secondsFor rfl rfl rfl hdX0_secondsFor ⟨Nat.le_of_ble_eq_true rfl, Nat.le_of_ble_eq_true rfl⟩) (rvX0 hK hP) hK hP hD hS hA rfl hl.1 (Nat.le_of_ble_eq_true rfl) rfl dX0_leastArrival_56 ⟨Nat.zero_le _, Nat.zero_le _⟩ (fun H locs hP hD hS => ?_)
    refine lv_ladd hx hb dX0_leastArrival_59 ?_
    refine lv_aload_n hx hb dX0_leastArrival_60 rfl (lv_at hl 4 rfl) ?_
    refine lv_iload_n hx hb dX0_leastArrival_61 rfl (lv_at hl 6 rfl) ?_
    obtain ⟨r29, g31, h⟩ := q_s h
    refine q_Vl (rest := [.long (v4 + r26)]) (As := [.int x2]) ⟨hx, hb, hml, hown, hts⟩ (kX0_secondsAcross l dC dI cI cJ cZ ad _ u x2 r29 g31) (cwV 1 hts gX0_leastArrival_X0_secondsAcross rfl rfl rfl hdX0_secondsAcross ⟨Nat.le_of_ble_eq_true rfl, Nat.le_of_ble_eq_true rfl⟩) (rvX0 hK hP) hK hP hD hS hA rfl hl.1 (Nat.le_of_ble_eq_true rfl) rfl dX0_leastArrival_62 ⟨Nat.zero_le _, Nat.zero_le _⟩ (fun H locs hP hD hS => ?_)
    refine lv_ladd hx hb dX0_leastArrival_65 ?_
    exact q_lret hx hb hr hlocks hK hP hD hS (q_p h).1 (q_p h).2 dX0_leastArrival_66
set_option maxHeartbeats 4000000 in
set_option maxRecDepth 100000 in
theorem kX0_pieceBefore_L2 {l : Launch} {dC : Nat → ClassId} {dI : Nat → Nat → Nat} {cI cJ cZ : ClassId} {ad : Nat → Nat} {p : Program} {e : Env} {s : State} {m : MethodId} {below : List Frame} {meth : Method} {c : Code} {A : Nat → Prop} {args : Array Value} {r9 : Int32} {u : gS} (C0 : gCtx p s m meth c args cX0_pieceBefore 3 (some .int) wsX0_pieceBefore yX0_pieceBefore.cls) (hK : va_K (dC, dI) vwCl (tyS cI cJ cZ) s) (hA : ∀ q, s.heap.size ≤ q → A q) :
    ∀ (n : Nat) (y1 : Int32) (y2 : Int32) (H : Heap) (locs : List Loc) (ls : Array Slot), fX0_pieceBefore_L2 n u y1 y2 = some r9 → va_P (dC, dI) vwCl ((wX0 cI cJ cZ ad) u) H → va_D A ((wX0 cI cJ cZ ad) u) → va_S A s.heap H locs → lv_has ls 3 [(0, .ref ((ad 0))), (1, .int y1), (2, .int y2)] → W p l e rmX0_pieceBefore s m args below meth c H locs 0 0 (MQ below (va_Qi (fun r1 u1 => r1 = r9 ∧ u1 = u) (gAt (dC, dI) vwCl (tyS cI cJ cZ) A (wX0 cI cJ cZ ad)) A) args s 0 0 A) (F0 m 2 ls []) := by
  obtain ⟨hx, hb, hml, hown, hts, hr, hlocks⟩ := id C0
  intro n
  induction n with
  | zero =>
    intro y1 y2 H locs ls h
    cases h
  | succ n ih2 =>
    intro y1 y2 H locs ls h hP hD hS hl
    have h : fX0_pieceBefore_L2_b (fX0_pieceBefore_L2 n) u y1 y2 = some r9 := h
    unfold fX0_pieceBefore_L2_b at h
    refine lv_iload_n hx hb dX0_pieceBefore_2 rfl (lv_at hl 2 rfl) ?_
    refine lv_aload_n hx hb dX0_pieceBefore_3 rfl (lv_at hl 0 rfl) ?_
    refine gfX0_pieceCount inX0_pieceBefore mX0_pieceBefore_62 hx hb hts hown hK hP dX0_pieceBefore_4 ?_
    refine lv_icmp_ge (tgt := 48) hx hb dX0_pieceBefore_7 (by decide) (fun c1 => ?_) (fun c1 => ?_)
    · have h := q_t h c1
      refine lv_iconst (v := (-1 : Int32)) hx hb dX0_pieceBefore_48 (by decide) ?_
      exact q_iret hx hb hr hlocks hK hP hD hS (Option.some.inj h) rfl dX0_pieceBefore_49
    · have h := q_f h c1
      refine lv_aload_n hx hb dX0_pieceBefore_10 rfl (lv_at hl 0 rfl) ?_
      refine lv_iload_n hx hb dX0_pieceBefore_11 rfl (lv_at hl 2 rfl) ?_
      refine lv_iload_n hx hb dX0_pieceBefore_12 rfl (lv_at hl 1 rfl) ?_
      obtain ⟨r2, g4, h⟩ := q_s h
      refine q_Vi (rest := []) (As := [.int y2, .int y1]) ⟨hx, hb, hml, hown, hts⟩ (kX0_mayGoOn l dC dI cI cJ cZ ad _ u y2 y1 r2 g4) (cwV 2 hts gX0_pieceBefore_X0_mayGoOn rfl rfl rfl hdX0_mayGoOn ⟨Nat.le_of_ble_eq_true rfl, Nat.le_of_ble_eq_true rfl⟩) (rvX0 hK hP) hK hP hD hS hA rfl hl.1 (Nat.le_of_ble_eq_true rfl) rfl dX0_pieceBefore_13 ⟨Nat.zero_le _, Nat.zero_le _⟩ (fun H locs hP hD hS => ?_)
      refine lv_if_eq (tgt := 42) hx hb dX0_pieceBefore_16 (by decide) (fun c5 => ?_) (fun c5 => ?_)
      · have h := q_t h c5
        obtain ⟨v6, ev6, h⟩ := q_l h
        refine lv_iinc (v := v6) (lv' := [(2, .int v6), (0, .ref ((ad 0))), (1, .int y1)]) hx hb dX0_pieceBefore_42 hl (k := 2) rfl (by rw [ev6]; rfl) (by decide) rfl (fun ls hl => ?_)
        refine lv_goto (tgt := 2) hx hb dX0_pieceBefore_45 (by decide) ?_
        exact ih2 y1 v6 _ _ _ h hP hD hS (lv_sub hl [1, 2, 0] rfl)
      · have h := q_f h c5
        refine lv_aload_n hx hb dX0_pieceBefore_19 rfl (lv_at hl 0 rfl) ?_
        refine lv_iload_n hx hb dX0_pieceBefore_20 rfl (lv_at hl 1 rfl) ?_
        refine lv_aload_n hx hb dX0_pieceBefore_21 rfl (lv_at hl 0 rfl) ?_
        refine gfX0_done inX0_pieceBefore mX0_pieceBefore_44 hx hb hts hown hK hP dX0_pieceBefore_22 ?_
        refine lv_iload_n hx hb dX0_pieceBefore_25 rfl (lv_at hl 2 rfl) ?_
        obtain ⟨hin, h⟩ := q_g h
        refine ldX0_done hx hb hK hP hin dX0_pieceBefore_26 ?_
        obtain ⟨r7, g9, h⟩ := q_s h
        refine q_Vl (rest := []) (As := [.int y1, .long (gl u 7 y2.toNatClampNeg)]) ⟨hx, hb, hml, hown, hts⟩ (kX0_entryAtOrAfter l dC dI cI cJ cZ ad _ u y1 (gl u 7 y2.toNatClampNeg) r7 g9) (cwV 2 hts gX0_pieceBefore_X0_entryAtOrAfter rfl rfl rfl hdX0_entryAtOrAfter ⟨Nat.le_of_ble_eq_true rfl, Nat.le_of_ble_eq_true rfl⟩) (rvX0 hK hP) hK hP hD hS hA rfl hl.1 (Nat.le_of_ble_eq_true rfl) rfl dX0_pieceBefore_27 ⟨Nat.zero_le _, Nat.zero_le _⟩ (fun H locs hP hD hS => ?_)
        refine lv_aload_n hx hb dX0_pieceBefore_30 rfl (lv_at hl 0 rfl) ?_
        refine gfX0_entered inX0_pieceBefore mX0_pieceBefore_41 hx hb hts hown hK hP dX0_pieceBefore_31 ?_
        refine lv_iload_n hx hb dX0_pieceBefore_34 rfl (lv_at hl 1 rfl) ?_
        obtain ⟨hin, h⟩ := q_g h
        refine ldX0_entered hx hb hK hP hin dX0_pieceBefore_35 ?_
        refine q_lc_ne (tgt := 42) hx hb dX0_pieceBefore_36 dX0_pieceBefore_37 (by decide) (fun c10 => ?_) (fun c10 => ?_)
        · have h := q_f h c10
          obtain ⟨v11, ev11, h⟩ := q_l h
          refine lv_iinc (v := v11) (lv' := [(2, .int v11), (0, .ref ((ad 0))), (1, .int y1)]) hx hb dX0_pieceBefore_42 hl (k := 2) rfl (by rw [ev11]; rfl) (by decide) rfl (fun ls hl => ?_)
          refine lv_goto (tgt := 2) hx hb dX0_pieceBefore_45 (by decide) ?_
          exact ih2 y1 v11 _ _ _ h hP hD hS (lv_sub hl [1, 2, 0] rfl)
        · have h := q_t h c10
          refine lv_iload_n hx hb dX0_pieceBefore_40 rfl (lv_at hl 2 rfl) ?_
          exact q_iret hx hb hr hlocks hK hP hD hS (Option.some.inj h) rfl dX0_pieceBefore_41
set_option maxHeartbeats 4000000 in
set_option maxRecDepth 100000 in
theorem kX0_pieceBefore (l : Launch) (dC : Nat → ClassId) (dI : Nat → Nat → Nat) (cI cJ cZ : ClassId) (ad : Nat → Nat) (sz : Nat) (u : gS) (x1 : Int32) (r9 : Int32) (h : fX0_pieceBefore u x1 = some r9) : Ki l yX0_pieceBefore wsX0_pieceBefore rmX0_pieceBefore (dC, dI) vwCl (tyS cI cJ cZ) (wX0 cI cJ cZ ad) sz u [.ref (ad 0), .int x1] r9 u := by
  refine g_ofW (cc := cX0_pieceBefore) (maxL := 3) (ret := (some .int)) (wf := (wX0 cI cJ cZ ad)) (u := u) (Qf := fun A => va_Qi (fun r1 u1 => r1 = r9 ∧ u1 = u) (gAt (dC, dI) vwCl (tyS cI cJ cZ) A (wX0 cI cJ cZ ad)) A) (by decide) rfl (Nat.le_of_ble_eq_true rfl) ?_
  intro p e s m below meth c A ls C0 hK hP hD hA hl
  have hS : va_S A s.heap s.heap [] := va_S.rf
  obtain ⟨hx, hb, hml, hown, hts, hr, hlocks⟩ := id C0
  have hl : lv_has ls 3 [(0, .ref ((ad 0))), (1, .int x1)] := hl
  unfold fX0_pieceBefore at h
  refine lv_iconst (v := (0 : Int32)) hx hb dX0_pieceBefore_0 (by decide) ?_
  refine lv_istore_n (lv' := [(2, .int (0 : Int32)), (0, .ref ((ad 0))), (1, .int x1)]) hx hb dX0_pieceBefore_1 rfl hl (by decide) rfl (fun ls hl => ?_)
  exact kX0_pieceBefore_L2 C0 hK hA 200 x1 (0 : Int32) _ _ _ h hP hD hS (lv_sub hl [1, 2, 0] rfl)
