set_option maxHeartbeats 4000000 in
set_option maxRecDepth 100000 in
theorem kX0_mayGoOnFrom_L2 {l : Launch} {dC : Nat → ClassId} {dI : Nat → Nat → Nat} {cI cJ cZ : ClassId} {ad : Nat → Nat} {p : Program} {e : Env} {s : State} {m : MethodId} {below : List Frame} {meth : Method} {c : Code} {A : Nat → Prop} {args : Array Value} {r9 : Int32} {u : gS} (C0 : gCtx p s m meth c args cX0_mayGoOnFrom 3 (some .boolean) wsX0_mayGoOnFrom yX0_mayGoOnFrom.cls) (hK : va_K (dC, dI) vwCl (tyS cI cJ cZ) s) (hA : ∀ q, s.heap.size ≤ q → A q) :
    ∀ (n : Nat) (y1 : Int32) (y2 : Int32) (H : Heap) (locs : List Loc) (ls : Array Slot), fX0_mayGoOnFrom_L2 n u y1 y2 = some r9 → va_P (dC, dI) vwCl ((wX0 cI cJ cZ ad) u) H → va_D A ((wX0 cI cJ cZ ad) u) → va_S A s.heap H locs → lv_has ls 3 [(0, .ref ((ad 0))), (1, .int y1), (2, .int y2)] → W p l e rmX0_mayGoOnFrom s m args below meth c H locs 0 0 (MQ below (va_Qi (fun r1 u1 => r1 = r9 ∧ u1 = u) (gAt (dC, dI) vwCl (tyS cI cJ cZ) A (wX0 cI cJ cZ ad)) A) args s 0 0 A) (F0 m 2 ls []) := by
  obtain ⟨hx, hb, hml, hown, hts, hr, hlocks⟩ := id C0
  intro n
  induction n with
  | zero =>
    intro y1 y2 H locs ls h
    cases h
  | succ n ih2 =>
    intro y1 y2 H locs ls h hP hD hS hl
    have h : fX0_mayGoOnFrom_L2_b (fX0_mayGoOnFrom_L2 n) u y1 y2 = some r9 := h
    unfold fX0_mayGoOnFrom_L2_b at h
    refine lv_iload_n hx hb dX0_mayGoOnFrom_2 rfl (lv_at hl 2 rfl) ?_
    refine lv_aload_n hx hb dX0_mayGoOnFrom_3 rfl (lv_at hl 0 rfl) ?_
    refine gfX0_pieceCount inX0_mayGoOnFrom mX0_mayGoOnFrom_62 hx hb hts hown hK hP dX0_mayGoOnFrom_4 ?_
    refine lv_icmp_ge (tgt := 27) hx hb dX0_mayGoOnFrom_7 (by decide) (fun c1 => ?_) (fun c1 => ?_)
    · have h := q_t h c1
      refine lv_iconst (v := (0 : Int32)) hx hb dX0_mayGoOnFrom_27 (by decide) ?_
      exact q_zret hx hb hr hlocks hK hP hD hS rfl (Option.some.inj h) rfl dX0_mayGoOnFrom_28
    · have h := q_f h c1
      refine lv_aload_n hx hb dX0_mayGoOnFrom_10 rfl (lv_at hl 0 rfl) ?_
      refine lv_iload_n hx hb dX0_mayGoOnFrom_11 rfl (lv_at hl 1 rfl) ?_
      refine lv_iload_n hx hb dX0_mayGoOnFrom_12 rfl (lv_at hl 2 rfl) ?_
      obtain ⟨r2, g4, h⟩ := q_s h
      refine q_Vi (rest := []) (As := [.int y1, .int y2]) ⟨hx, hb, hml, hown, hts⟩ (kX0_mayGoOn l dC dI cI cJ cZ ad _ u y1 y2 r2 g4) (cwV 2 hts gX0_mayGoOnFrom_X0_mayGoOn rfl rfl rfl hdX0_mayGoOn ⟨Nat.le_of_ble_eq_true rfl, Nat.le_of_ble_eq_true rfl⟩) (rvX0 hK hP) hK hP hD hS hA rfl hl.1 (Nat.le_of_ble_eq_true rfl) rfl dX0_mayGoOnFrom_13 ⟨Nat.zero_le _, Nat.zero_le _⟩ (fun H locs hP hD hS => ?_)
      refine lv_if_eq (tgt := 21) hx hb dX0_mayGoOnFrom_16 (by decide) (fun c5 => ?_) (fun c5 => ?_)
      · have h := q_t h c5
        obtain ⟨v6, ev6, h⟩ := q_l h
        refine lv_iinc (v := v6) (lv' := [(2, .int v6), (0, .ref ((ad 0))), (1, .int y1)]) hx hb dX0_mayGoOnFrom_21 hl (k := 2) rfl (by rw [ev6]; rfl) (by decide) rfl (fun ls hl => ?_)
        refine lv_goto (tgt := 2) hx hb dX0_mayGoOnFrom_24 (by decide) ?_
        exact ih2 y1 v6 _ _ _ h hP hD hS (lv_sub hl [1, 2, 0] rfl)
      · have h := q_f h c5
        refine lv_iconst (v := (1 : Int32)) hx hb dX0_mayGoOnFrom_19 (by decide) ?_
        exact q_zret hx hb hr hlocks hK hP hD hS rfl (Option.some.inj h) rfl dX0_mayGoOnFrom_20
set_option maxHeartbeats 4000000 in
set_option maxRecDepth 100000 in
theorem kX0_mayGoOnFrom (l : Launch) (dC : Nat → ClassId) (dI : Nat → Nat → Nat) (cI cJ cZ : ClassId) (ad : Nat → Nat) (sz : Nat) (u : gS) (x1 : Int32) (r9 : Int32) (h : fX0_mayGoOnFrom u x1 = some r9) : Ki l yX0_mayGoOnFrom wsX0_mayGoOnFrom rmX0_mayGoOnFrom (dC, dI) vwCl (tyS cI cJ cZ) (wX0 cI cJ cZ ad) sz u [.ref (ad 0), .int x1] r9 u := by
  refine g_ofW (cc := cX0_mayGoOnFrom) (maxL := 3) (ret := (some .boolean)) (wf := (wX0 cI cJ cZ ad)) (u := u) (Qf := fun A => va_Qi (fun r1 u1 => r1 = r9 ∧ u1 = u) (gAt (dC, dI) vwCl (tyS cI cJ cZ) A (wX0 cI cJ cZ ad)) A) (by decide) rfl (Nat.le_of_ble_eq_true rfl) ?_
  intro p e s m below meth c A ls C0 hK hP hD hA hl
  have hS : va_S A s.heap s.heap [] := va_S.rf
  obtain ⟨hx, hb, hml, hown, hts, hr, hlocks⟩ := id C0
  have hl : lv_has ls 3 [(0, .ref ((ad 0))), (1, .int x1)] := hl
  unfold fX0_mayGoOnFrom at h
  refine lv_iconst (v := (0 : Int32)) hx hb dX0_mayGoOnFrom_0 (by decide) ?_
  refine lv_istore_n (lv' := [(2, .int (0 : Int32)), (0, .ref ((ad 0))), (1, .int x1)]) hx hb dX0_mayGoOnFrom_1 rfl hl (by decide) rfl (fun ls hl => ?_)
  exact kX0_mayGoOnFrom_L2 C0 hK hA 200 x1 (0 : Int32) _ _ _ h hP hD hS (lv_sub hl [1, 2, 0] rfl)
set_option maxHeartbeats 4000000 in
set_option maxRecDepth 100000 in
theorem kX0_service (l : Launch) (dC : Nat → ClassId) (dI : Nat → Nat → Nat) (cI cJ cZ : ClassId) (ad : Nat → Nat) (sz : Nat) (u : gS) (x1 : Int32) (x2 : Int32) (r9 : Int32) (h : fX0_service u x1 x2 = some r9) : Ki l yX0_service wsX0_service rmX0_service (dC, dI) vwCl (tyS cI cJ cZ) (wX0 cI cJ cZ ad) sz u [.ref (ad 0), .int x1, .int x2] r9 u := by
  refine g_ofW (cc := cX0_service) (maxL := 3) (ret := (some .boolean)) (wf := (wX0 cI cJ cZ ad)) (u := u) (Qf := fun A => va_Qi (fun r1 u1 => r1 = r9 ∧ u1 = u) (gAt (dC, dI) vwCl (tyS cI cJ cZ) A (wX0 cI cJ cZ ad)) A) (by decide) rfl (Nat.le_of_ble_eq_true rfl) ?_
  intro p e s m below meth c A ls C0 hK hP hD hA hl
  have hS : va_S A s.heap s.heap [] := va_S.rf
  obtain ⟨hx, hb, hml, hown, hts, hr, hlocks⟩ := id C0
  have hl : lv_has ls 3 [(0, .ref ((ad 0))), (1, .int x1), (2, .int x2)] := hl
  unfold fX0_service at h
  refine lv_aload_n hx hb dX0_service_0 rfl (lv_at hl 0 rfl) ?_
  refine lv_iload_n hx hb dX0_service_1 rfl (lv_at hl 1 rfl) ?_
  obtain ⟨r1, g3, h⟩ := q_s h
  refine q_Vi (rest := []) (As := [.int x1]) ⟨hx, hb, hml, hown, hts⟩ (kX0_isPiece l dC dI cI cJ cZ ad _ u x1 r1 g3) (cwV 1 hts gX0_service_X0_isPiece rfl rfl rfl hdX0_isPiece ⟨Nat.le_of_ble_eq_true rfl, Nat.le_of_ble_eq_true rfl⟩) (rvX0 hK hP) hK hP hD hS hA rfl hl.1 (Nat.le_of_ble_eq_true rfl) rfl dX0_service_2 ⟨Nat.zero_le _, Nat.zero_le _⟩ (fun H locs hP hD hS => ?_)
  refine lv_if_ne (tgt := 10) hx hb dX0_service_5 (by decide) (fun c4 => ?_) (fun c4 => ?_)
  · have h := q_f h c4
    refine lv_iload_n hx hb dX0_service_10 rfl (lv_at hl 2 rfl) ?_
    by_cases c5 : x2 = (0 : Int32)
    · have h := q_t h c5
      have ic5 : (x2 : Int32).toInt = 0 := by rw [c5]; rfl
      refine lv_tableIn (tgt := 40) hx hb dX0_service_11 (by rw [ic5]; decide) (by rw [ic5]; decide) (by rw [ic5]; rfl) (by decide) ?_
      refine lv_aload_n hx hb dX0_service_40 rfl (lv_at hl 0 rfl) ?_
      refine lv_iload_n hx hb dX0_service_41 rfl (lv_at hl 1 rfl) ?_
      refine lv_iload_n hx hb dX0_service_42 rfl (lv_at hl 2 rfl) ?_
      obtain ⟨r6, g8, h⟩ := q_s h
      refine q_Vi (rest := []) (As := [.int x1, .int x2]) ⟨hx, hb, hml, hown, hts⟩ (kX0_hasStopAtSide l dC dI cI cJ cZ ad _ u x1 x2 r6 g8) (cwV 2 hts gX0_service_X0_hasStopAtSide rfl rfl rfl hdX0_hasStopAtSide ⟨Nat.le_of_ble_eq_true rfl, Nat.le_of_ble_eq_true rfl⟩) (rvX0 hK hP) hK hP hD hS hA rfl hl.1 (Nat.le_of_ble_eq_true rfl) rfl dX0_service_43 ⟨Nat.zero_le _, Nat.zero_le _⟩ (fun H locs hP hD hS => ?_)
      obtain ⟨hna, h⟩ := q_g h
      exact q_zret hx hb hr hlocks hK hP hD hS (q_nz hna) (Option.some.inj h) rfl dX0_service_46
    have h := q_f h c5
    by_cases c9 : x2 = (1 : Int32)
    · have h := q_t h c9
      have ic9 : (x2 : Int32).toInt = 1 := by rw [c9]; rfl
      refine lv_tableIn (tgt := 40) hx hb dX0_service_11 (by rw [ic9]; decide) (by rw [ic9]; decide) (by rw [ic9]; rfl) (by decide) ?_
      refine lv_aload_n hx hb dX0_service_40 rfl (lv_at hl 0 rfl) ?_
      refine lv_iload_n hx hb dX0_service_41 rfl (lv_at hl 1 rfl) ?_
      refine lv_iload_n hx hb dX0_service_42 rfl (lv_at hl 2 rfl) ?_
      obtain ⟨r10, g12, h⟩ := q_s h
      refine q_Vi (rest := []) (As := [.int x1, .int x2]) ⟨hx, hb, hml, hown, hts⟩ (kX0_hasStopAtSide l dC dI cI cJ cZ ad _ u x1 x2 r10 g12) (cwV 2 hts gX0_service_X0_hasStopAtSide rfl rfl rfl hdX0_hasStopAtSide ⟨Nat.le_of_ble_eq_true rfl, Nat.le_of_ble_eq_true rfl⟩) (rvX0 hK hP) hK hP hD hS hA rfl hl.1 (Nat.le_of_ble_eq_true rfl) rfl dX0_service_43 ⟨Nat.zero_le _, Nat.zero_le _⟩ (fun H locs hP hD hS => ?_)
      obtain ⟨hna, h⟩ := q_g h
      exact q_zret hx hb hr hlocks hK hP hD hS (q_nz hna) (Option.some.inj h) rfl dX0_service_46
    have h := q_f h c9
    by_cases c13 : x2 = (2 : Int32)
    · have h := q_t h c13
      have ic13 : (x2 : Int32).toInt = 2 := by rw [c13]; rfl
      refine lv_tableIn (tgt := 47) hx hb dX0_service_11 (by rw [ic13]; decide) (by rw [ic13]; decide) (by rw [ic13]; rfl) (by decide) ?_
      refine lv_aload_n hx hb dX0_service_47 rfl (lv_at hl 0 rfl) ?_
      refine lv_iload_n hx hb dX0_service_48 rfl (lv_at hl 1 rfl) ?_
      obtain ⟨r14, g16, h⟩ := q_s h
      refine q_Vi (rest := []) (As := [.int x1]) ⟨hx, hb, hml, hown, hts⟩ (kX0_hasGate l dC dI cI cJ cZ ad _ u x1 r14 g16) (cwV 1 hts gX0_service_X0_hasGate rfl rfl rfl hdX0_hasGate ⟨Nat.le_of_ble_eq_true rfl, Nat.le_of_ble_eq_true rfl⟩) (rvX0 hK hP) hK hP hD hS hA rfl hl.1 (Nat.le_of_ble_eq_true rfl) rfl dX0_service_49 ⟨Nat.zero_le _, Nat.zero_le _⟩ (fun H locs hP hD hS => ?_)
      obtain ⟨hna, h⟩ := q_g h
      exact q_zret hx hb hr hlocks hK hP hD hS (q_nz hna) (Option.some.inj h) rfl dX0_service_52
    have h := q_f h c13
    by_cases c17 : x2 = (3 : Int32)
    · have h := q_t h c17
      have ic17 : (x2 : Int32).toInt = 3 := by rw [c17]; rfl
      refine lv_tableIn (tgt := 53) hx hb dX0_service_11 (by rw [ic17]; decide) (by rw [ic17]; decide) (by rw [ic17]; rfl) (by decide) ?_
      refine lv_aload_n hx hb dX0_service_53 rfl (lv_at hl 0 rfl) ?_
      refine lv_iload_n hx hb dX0_service_54 rfl (lv_at hl 1 rfl) ?_
      obtain ⟨r18, g20, h⟩ := q_s h
      refine q_Vi (rest := []) (As := [.int x1]) ⟨hx, hb, hml, hown, hts⟩ (kX0_mayGoOnFrom l dC dI cI cJ cZ ad _ u x1 r18 g20) (cwV 1 hts gX0_service_X0_mayGoOnFrom rfl rfl rfl hdX0_mayGoOnFrom ⟨Nat.le_of_ble_eq_true rfl, Nat.le_of_ble_eq_true rfl⟩) (rvX0 hK hP) hK hP hD hS hA rfl hl.1 (Nat.le_of_ble_eq_true rfl) rfl dX0_service_55 ⟨Nat.zero_le _, Nat.zero_le _⟩ (fun H locs hP hD hS => ?_)
      obtain ⟨hna, h⟩ := q_g h
      exact q_zret hx hb hr hlocks hK hP hD hS (q_nz hna) (Option.some.inj h) rfl dX0_service_58
    have h := q_f h c17
    refine lv_tableOut (tgt := 59) hx hb dX0_service_11 (q_sw0_3 c5 c9 c13 c17) (by decide) ?_
    refine lv_iconst (v := (0 : Int32)) hx hb dX0_service_59 (by decide) ?_
    exact q_zret hx hb hr hlocks hK hP hD hS rfl (Option.some.inj h) rfl dX0_service_60
  · have h := q_t h c4
    refine lv_iconst (v := (0 : Int32)) hx hb dX0_service_8 (by decide) ?_
    exact q_zret hx hb hr hlocks hK hP hD hS rfl (Option.some.inj h) rfl dX0_service_9
