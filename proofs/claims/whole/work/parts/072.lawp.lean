/-! Own rows: worlds side by side. -/
theorem jn_P {D : va_G} {cl : List vw_C} {wa wc wb : va_W} {H : Heap} (hP : va_P D cl (wa ++ (wc ++ wb)) H) : va_P D cl wa H ∧ va_P D cl wc H ∧ va_P D cl wb H := by
  refine ⟨fun k q h => hP k q ?_, fun k q h => hP (wa.length + k) q ?_, fun k q h => hP (wa.length + (wc.length + k)) q ?_⟩
  · rw [List.getElem?_append_left (List.getElem?_eq_some_iff.mp h).1]; exact h
  · rw [List.getElem?_append_right (Nat.le_add_right _ _), Nat.add_sub_cancel_left, List.getElem?_append_left (List.getElem?_eq_some_iff.mp h).1]; exact h
  · rw [List.getElem?_append_right (Nat.le_add_right _ _), Nat.add_sub_cancel_left, List.getElem?_append_right (Nat.le_add_right _ _), Nat.add_sub_cancel_left]; exact h
theorem jn_at {wa wc wb : va_W} {k : Nat} {q : Nat × va_E} : (wa[k]? = some q → (wa ++ (wc ++ wb))[k]? = some q) ∧ (wc[k]? = some q → (wa ++ (wc ++ wb))[wa.length + k]? = some q) ∧ (wb[k]? = some q → (wa ++ (wc ++ wb))[wa.length + (wc.length + k)]? = some q) := by
  refine ⟨fun h => ?_, fun h => ?_, fun h => ?_⟩
  · rw [List.getElem?_append_left (List.getElem?_eq_some_iff.mp h).1]; exact h
  · rw [List.getElem?_append_right (Nat.le_add_right _ _), Nat.add_sub_cancel_left, List.getElem?_append_left (List.getElem?_eq_some_iff.mp h).1]; exact h
  · rw [List.getElem?_append_right (Nat.le_add_right _ _), Nat.add_sub_cancel_left, List.getElem?_append_right (Nat.le_add_right _ _), Nat.add_sub_cancel_left]; exact h
theorem jn_D {A : Nat → Prop} {wa wc wb : va_W} (hD : va_D A (wa ++ (wc ++ wb))) : va_D A wa ∧ va_D A wc ∧ va_D A wb := by
  refine ⟨⟨fun i j p q h1 h2 e => ?_, fun k q h => hD.2 _ q (jn_at.1 h)⟩, ⟨fun i j p q h1 h2 e => ?_, fun k q h => hD.2 _ q (jn_at.2.1 h)⟩, ⟨fun i j p q h1 h2 e => ?_, fun k q h => hD.2 _ q (jn_at.2.2 h)⟩⟩
  · exact hD.1 _ _ p q (jn_at.1 h1) (jn_at.1 h2) e
  · have := hD.1 _ _ p q (jn_at.2.1 h1) (jn_at.2.1 h2) e; omega
  · have := hD.1 _ _ p q (jn_at.2.2 h1) (jn_at.2.2 h2) e; omega
theorem jn3 {A : Nat → Prop} {D : va_G} {cl : List vw_C} {wa wc wc' wb : va_W} {H H1 : Heap} (hP : va_P D cl (wa ++ (wc ++ wb)) H) (hD : va_D A (wa ++ (wc ++ wb))) (hk : ∀ q : Nat, q < H.size → ¬ va_A wc H.size q → H1[q]? = H[q]?) (hF : ∀ q, va_A wc H.size q → A q) (hP1 : va_P D cl wc' H1) (hD1 : va_D (va_A wc H.size) wc') : va_P D cl (wa ++ (wc' ++ wb)) H1 ∧ va_D A (wa ++ (wc' ++ wb)) := by
  obtain ⟨pa, pc, pb⟩ := jn_P hP
  obtain ⟨da, dc, db⟩ := jn_D hD
  have na : ∀ (k : Nat) (q : Nat × va_E), wa[k]? = some q → ¬ va_A wc H.size q.1 := fun k q h hv => by
    rcases hv with ⟨k2, e2, h2⟩ | hv
    · have e3 := hD.1 _ _ q (q.1, e2) (jn_at.1 h) (jn_at.2.1 h2) rfl
      have := (List.getElem?_eq_some_iff.mp h).1; omega
    · exact absurd (pa k q h).lt (Nat.not_lt.mpr hv)
  have nb : ∀ (k : Nat) (q : Nat × va_E), wb[k]? = some q → ¬ va_A wc H.size q.1 := fun k q h hv => by
    rcases hv with ⟨k2, e2, h2⟩ | hv
    · have e3 := hD.1 _ _ q (q.1, e2) (jn_at.2.2 h) (jn_at.2.1 h2) rfl
      have := (List.getElem?_eq_some_iff.mp h2).1; omega
    · exact absurd (pb k q h).lt (Nat.not_lt.mpr hv)
  refine ⟨(pa.kept (fun k q h => hk q.1 (pa k q h).lt (na k q h))).app (hP1.app (pb.kept (fun k q h => hk q.1 (pb k q h).lt (nb k q h)))), ?_⟩
  refine da.app ((hD1.weaken (fun _ _ _ h => hF _ h)).app db (fun i j p q h1 h2 e => nb j q h2 (e ▸ hD1.2 i p h1))) (fun i j p q h1 h2 e => ?_)
  rcases Nat.lt_or_ge j wc'.length with hj | hj
  · rw [List.getElem?_append_left hj] at h2
    exact na i p h1 (e ▸ hD1.2 j q h2)
  · rw [List.getElem?_append_right hj] at h2
    have e3 := hD.1 _ _ p q (jn_at.1 h1) (jn_at.2.2 h2) e
    have := (List.getElem?_eq_some_iff.mp h1).1; omega
theorem g_blindX {D : va_G} {cl : List vw_C} {tys : List (ClassId × FieldType)} {As : List Value} {w : va_W} {sz : Nat} {at9 : List Cond} {is : Nat} {text : String} {A : Nat → Prop} : FrameBlind (va_Pc As (fun U => gPre D cl tys sz w U ∧ xE at9 is text A U)) := fun a U g mk q => by
  obtain ⟨q0, ⟨q1, qP, qK, qD⟩, qE⟩ := q
  exact ⟨q0, ⟨q1, qP, va_K.moved (u := U) (U := U.calling g mk a) (Vm.Alike.refl U.vm) qK, qD⟩, xE.call g mk a qE⟩
def wL (cI cJ cZ : ClassId) (ad : Nat → Nat) (o : Nat) (v : gS × (Nat → Int64)) : va_W := wX0 cI cJ cZ ad v.1 ++ [(o, .inl (cJ, 1, .inr (.inl v.2)))]
def fL_out (v : gS × (Nat → Int64)) (ro : Option Int32) (u : gS) : Int32 × (gS × (Nat → Int64)) := match ro with
  | some r => (0, (u, vp_updL v.2 (0 : Int32).toNatClampNeg r.toInt64))
  | none => (1, (u, v.2))
theorem mcL_piece : Cond.classLink RL 13 "java/lang/ArithmeticException" ∈ wsL_piece := by decide +kernel
theorem hdL_piece : yX0_piece.cls = RX0 ∧ yX0_piece.cls ≠ "java/lang/invoke/MethodHandle" ∧ yX0_piece.cls ≠ "java/lang/invoke/VarHandle" ∧ (parseMethodDescriptor yX0_piece.desc).map (fun d => d.parameters.length) = some 4 := by decide +kernel
def wsLP2 : List Cond := wsL_piece2 ++ (Cond.classLink RL 19 "java/lang/ArrayIndexOutOfBoundsException" :: atI.filter goodWord)
theorem mcL_piece2 : Cond.classLink RL 19 "java/lang/ArrayIndexOutOfBoundsException" ∈ wsLP2 := List.mem_append_right _ List.mem_cons_self
theorem hdL_piece2 : yX0_piece2.cls = RX0 ∧ yX0_piece2.cls ≠ "java/lang/invoke/MethodHandle" ∧ yX0_piece2.cls ≠ "java/lang/invoke/VarHandle" ∧ (parseMethodDescriptor yX0_piece2.desc).map (fun d => d.parameters.length) = some 1 := by decide +kernel
theorem gLP2_0 : GoodIn wsLP2 wsP2 := fun w h => (List.mem_append.mp h).elim (fun h => ⟨List.mem_append_left _ (gL_piece2_X0_piece2 w (List.mem_append_right _ h)).1, (gL_piece2_X0_piece2 w (List.mem_append_right _ h)).2⟩) (fun h => ⟨List.mem_append_right _ (List.mem_cons_of_mem _ h), good_of_word (List.mem_filter.mp h).2⟩)
theorem gLP2 : GoodIn wsLP2 (wsV RL 15 RX0 yX0_piece2 wsP2) := fun w h => (List.mem_append.mp h).elim (fun h => ⟨List.mem_append_left _ (gL_piece2_X0_piece2 w (List.mem_append_left _ h)).1, (gL_piece2_X0_piece2 w (List.mem_append_left _ h)).2⟩) (fun h => gLP2_0 w h)
def fL_piece (v : gS × (Nat → Int64)) (x1 : Int32) (x2 : Int32) (x3 : Int64) (x4 : Int64) : Option (Int32 × (gS × (Nat → Int64))) := q_b2 (fX0_piece v.1 x1 x2 x3 x4) fun ro u => some (fL_out v ro u)
abbrev rmL_piece : Room := { frames := 8, cells := 1, slots := 6, locals := 160 }
set_option maxHeartbeats 4000000 in
set_option maxRecDepth 100000 in
theorem kL_piece (l : Launch) (hl0 : l.stackTraces = false) (dC : Nat → ClassId) (dI : Nat → Nat → Nat) (cI cJ cZ : ClassId) (ad : Nat → Nat) (o sz : Nat) (v : gS × (Nat → Int64)) (x1 : Int32) (x2 : Int32) (x3 : Int64) (x4 : Int64) (r9 : Int32) (v9 : gS × (Nat → Int64)) (h : fL_piece v x1 x2 x3 x4 = some (r9, v9)) : Met l yL_piece wsL_piece rmL_piece (va_Pc [.ref (ad 0), .int x1, .int x2, .long x3, .long x4, .ref o] (fun U => gPre (dC, dI) vwCl (tyS cI cJ cZ) sz (wL cI cJ cZ ad o v) U ∧ xE atA 68 "a piece's speed is 0" (va_A (wL cI cJ cZ ad o v) sz) U)) (va_Qi (fun r1 v1 => r1 = r9 ∧ v1 = v9) (gAt (dC, dI) vwCl (tyS cI cJ cZ) (va_A (wL cI cJ cZ ad o v) sz) (wL cI cJ cZ ad o)) (va_A (wL cI cJ cZ ad o v) sz)) 1 6 (va_A (wL cI cJ cZ ad o v) sz) := by
  refine va_MetW (cc := cL_piece) (maxL := 9) (ret := (some .int)) (hh := [(0, 14, 17, 13)]) (by decide) rfl ?_
  intro p e s m args below meth c s₁ B hml hv
  obtain ⟨rfl, ⟨hsz, hP, hK, hD0⟩, hE⟩ := hv
  have hx := B.exec
  have hb := B.bytes
  have hr := B.returns
  have hts := atoms_spec (ws := wsL_piece) B.pre
  have hown : s.vm.findClass RL = some m.cls := findClass_of_methodNamed B.named
  have hlocks := B.notSynchronized
  have htab : c.exceptionTable.toList = tableOf [(0, 14, 17, 13)] := vx_table (x := yL_piece) B (hts _ List.mem_cons_self)
  subst hsz
  have hD := hD0.self (sz := s.heap.size)
  generalize hAe : va_A (wL cI cJ cZ ad o v) s.heap.size = A at hD hE ⊢
  have hA : ∀ q : Nat, s.heap.size ≤ q → A q := fun q h => by rw [← hAe]; exact Or.inr h
  have hS : va_S A s.heap s.heap [] := va_S.rf
  have hl := lv_entry ([.ref (ad 0), .int x1, .int x2, .long x3, .long x4, .ref o]) (n := 9) (Nat.le_of_ble_eq_true rfl)
  rw [lg_entry_eq]
  generalize (lg_sl ([.ref (ad 0), .int x1, .int x2, .long x3, .long x4, .ref o]) ++ List.replicate (9 - (lg_sl ([.ref (ad 0), .int x1, .int x2, .long x3, .long x4, .ref o])).length) Slot.unset).toArray = ls at hl ⊢
  have hl : lv_has ls 9 [(0, .ref (ad 0)), (1, .int x1), (2, .int x2), (3, .long x3), (5, .long x4), (7, .ref o)] := hl
  unfold fL_piece at h
  obtain ⟨ro, u2, hg, h⟩ := q_s2 h
  have hP : va_P (dC, dI) vwCl ([] ++ (wX0 cI cJ cZ ad v.1 ++ [(o, .inl (cJ, 1, .inr (.inl v.2)))])) s.heap := hP
  have hD : va_D A ([] ++ (wX0 cI cJ cZ ad v.1 ++ [(o, .inl (cJ, 1, .inr (.inl v.2)))])) := hD
  obtain ⟨-, hPc, -⟩ := jn_P hP
  obtain ⟨-, hDc, -⟩ := jn_D hD
  have hF := g_free hDc hS hA
  refine lv_aload hx hb dL_piece_0 (lv_at hl 5 rfl) ?_
  refine lv_iconst (v := (0 : Int32)) hx hb dL_piece_2 (by decide) ?_
  refine lv_aload_n hx hb dL_piece_3 rfl (lv_at hl 0 rfl) ?_
  refine lv_iload_n hx hb dL_piece_4 rfl (lv_at hl 1 rfl) ?_
  refine lv_iload_n hx hb dL_piece_5 rfl (lv_at hl 2 rfl) ?_
  refine lv_lload_n hx hb dL_piece_6 rfl (lv_at hl 3 rfl) ?_
  refine lv_lload hx hb dL_piece_7 (lv_at hl 4 rfl) ?_
  refine vx_calli (vx_runV (As := [.int x1, .int x2, .long x3, .long x4]) (rest := [.int 0, .ref o]) ⟨hx, hb, hml, hown, hts⟩ (kX0_piece l hl0 dC dI cI cJ cZ ad _ v.1 x1 x2 x3 x4 (ro, u2) hg) (cwV 4 hts gL_piece_X0_piece rfl rfl rfl hdL_piece ⟨(show _ ≤ _ by decide), (show _ ≤ _ by decide)⟩) ⟨g_blindX, rvX0 hK hPc, fun U hU hW => ⟨rfl, ⟨by rw [hU], by rw [hU]; exact hPc, va_K.moved hW.alike hK, hDc.weaken (fun _ _ _ _ => trivial)⟩, xE.go hE hW hU hS hF⟩⟩ rfl rfl hl.1 rfl (lv_room (Nat.le_of_ble_eq_true rfl)) dL_piece_9 ⟨(show 1 ≤ 1 by decide), (show 6 ≤ 6 by decide)⟩) hS (fun q _ h => hF q h) hF (fun q _ h => hF q h) (fun E ce q9 u1 t H1 locs1 ht hal hpx hB hz1 hk1 hS1 hce hcv hcl => ?_) (fun r1 u1 t H1 locs1 ht hal hpx hB hz1 hk1 hS1 => ?_)
  · obtain ⟨rfl, hP1, hK1, hD1⟩ := hB
    rw [ht] at hP1
    obtain ⟨rfl, rfl⟩ := Prod.mk.inj hpx
    obtain ⟨hP2, hD2⟩ := jn3 hP hD hk1 hF hP1 hD1
    refine qx_catch (name := "java/lang/ArithmeticException") hown ⟨0, 14, 17, 13⟩ [] (by rw [htab]; rfl) (by decide) (by decide) (hts _ mcL_piece) (va_Nw.use rfl (hE.1 (.castable "java/lang/ArithmeticException" "java/lang/ArithmeticException") (by decide +kernel) rfl)) hce hcv hcl ?_
    refine lv_astore (lv' := [(8, .ref q9), (0, .ref (ad 0)), (1, .int x1), (2, .int x2), (3, .long x3), (5, .long x4), (7, .ref o)]) hx hb dL_piece_17 hl (by decide) rfl (fun ls hl => ?_)
    refine lv_iconst (v := (1 : Int32)) hx hb dL_piece_19 (by decide) ?_
    have e0 := Option.some.inj h
    obtain ⟨ea, eb⟩ := Prod.mk.inj e0
    exact W.iret hx hb hr (fun t ht hW => ⟨⟨1, (u2, v.2), rfl, ⟨ea, eb⟩, by rw [ht]; exact hP2, va_K.moved hW.alike hK, hD2⟩, hS1.F ht⟩) hS1.2.2 dL_piece_20 hlocks
  · obtain ⟨hP1, hK1, hD1⟩ := hB
    rw [ht] at hP1
    obtain ⟨rfl, rfl⟩ := Prod.mk.inj hpx
    obtain ⟨hP2, hD2⟩ := jn3 hP hD hk1 hF hP1 hD1
    refine lv_i2l (v := r1.toInt64) hx hb dL_piece_12 rfl ?_
    refine va_last hx hb hK hP2 hD2 hS1 15 1 (n := 1) (f := v.2) rfl rfl (show ¬ ((0 : Int32) < 0 ∨ 1 ≤ (0 : Int32).toNatClampNeg) by decide) dL_piece_13 (fun H locs hP3 hD3 hS => ?_)
    have hP3 : va_P (dC, dI) vwCl (wL cI cJ cZ ad o (u2, vp_updL v.2 (0 : Int32).toNatClampNeg r1.toInt64)) H := hP3
    have hD3 : va_D A (wL cI cJ cZ ad o (u2, vp_updL v.2 (0 : Int32).toNatClampNeg r1.toInt64)) := hD3
    refine lv_goto (tgt := 21) hx hb dL_piece_14 (by decide) ?_
    refine lv_iconst (v := (0 : Int32)) hx hb dL_piece_21 (by decide) ?_
    have e0 := Option.some.inj h
    obtain ⟨ea, eb⟩ := Prod.mk.inj e0
    exact W.iret hx hb hr (fun t ht hW => ⟨⟨0, (u2, vp_updL v.2 (0 : Int32).toNatClampNeg r1.toInt64), rfl, ⟨ea, eb⟩, by rw [ht]; exact hP3, va_K.moved hW.alike hK, hD3⟩, hS.F ht⟩) hS.2.2 dL_piece_22 hlocks
def fL_piece2 (v : gS × (Nat → Int64)) (x1 : Int32) : Option (Int32 × (gS × (Nat → Int64))) := q_b2 (fX0_piece2 v.1 x1) fun ro u => some (fL_out v ro u)
abbrev rmL_piece2 : Room := { frames := 8, cells := 1, slots := 6, locals := 160 }
set_option maxHeartbeats 4000000 in
set_option maxRecDepth 100000 in
theorem kL_piece2 (l : Launch) (hl0 : l.stackTraces = false) (dC : Nat → ClassId) (dI : Nat → Nat → Nat) (cI cJ cZ : ClassId) (ad : Nat → Nat) (o sz : Nat) (v : gS × (Nat → Int64)) (x1 : Int32) (r9 : Int32) (v9 : gS × (Nat → Int64)) (h : fL_piece2 v x1 = some (r9, v9)) : Met l yL_piece2 wsLP2 rmL_piece2 (va_Pc [.ref (ad 0), .int x1, .ref o] (fun U => gPre (dC, dI) vwCl (tyS cI cJ cZ) sz (wL cI cJ cZ ad o v) U ∧ xE atI 120 "there is no such piece" (va_A (wL cI cJ cZ ad o v) sz) U)) (va_Qi (fun r1 v1 => r1 = r9 ∧ v1 = v9) (gAt (dC, dI) vwCl (tyS cI cJ cZ) (va_A (wL cI cJ cZ ad o v) sz) (wL cI cJ cZ ad o)) (va_A (wL cI cJ cZ ad o v) sz)) 1 6 (va_A (wL cI cJ cZ ad o v) sz) := by
  refine va_MetW (cc := cL_piece2) (maxL := 4) (ret := (some .int)) (hh := [(0, 9, 12, 19)]) (by decide) rfl ?_
  intro p e s m args below meth c s₁ B hml hv
  obtain ⟨rfl, ⟨hsz, hP, hK, hD0⟩, hE⟩ := hv
  have hx := B.exec
  have hb := B.bytes
  have hr := B.returns
  have hts := atoms_spec (ws := wsLP2) B.pre
  have hown : s.vm.findClass RL = some m.cls := findClass_of_methodNamed B.named
  have hlocks := B.notSynchronized
  have htab : c.exceptionTable.toList = tableOf [(0, 9, 12, 19)] := vx_table (x := yL_piece2) B (hts _ List.mem_cons_self)
  subst hsz
  have hD := hD0.self (sz := s.heap.size)
  generalize hAe : va_A (wL cI cJ cZ ad o v) s.heap.size = A at hD hE ⊢
  have hA : ∀ q : Nat, s.heap.size ≤ q → A q := fun q h => by rw [← hAe]; exact Or.inr h
  have hS : va_S A s.heap s.heap [] := va_S.rf
  have hl := lv_entry ([.ref (ad 0), .int x1, .ref o]) (n := 4) (Nat.le_of_ble_eq_true rfl)
  rw [lg_entry_eq]
  generalize (lg_sl ([.ref (ad 0), .int x1, .ref o]) ++ List.replicate (4 - (lg_sl ([.ref (ad 0), .int x1, .ref o])).length) Slot.unset).toArray = ls at hl ⊢
  have hl : lv_has ls 4 [(0, .ref (ad 0)), (1, .int x1), (2, .ref o)] := hl
  unfold fL_piece2 at h
  obtain ⟨ro, u2, hg, h⟩ := q_s2 h
  have hP : va_P (dC, dI) vwCl ([] ++ (wX0 cI cJ cZ ad v.1 ++ [(o, .inl (cJ, 1, .inr (.inl v.2)))])) s.heap := hP
  have hD : va_D A ([] ++ (wX0 cI cJ cZ ad v.1 ++ [(o, .inl (cJ, 1, .inr (.inl v.2)))])) := hD
  obtain ⟨-, hPc, -⟩ := jn_P hP
  obtain ⟨-, hDc, -⟩ := jn_D hD
  have hF := g_free hDc hS hA
  refine lv_aload_n hx hb dL_piece2_0 rfl (lv_at hl 2 rfl) ?_
  refine lv_iconst (v := (0 : Int32)) hx hb dL_piece2_1 (by decide) ?_
  refine lv_aload_n hx hb dL_piece2_2 rfl (lv_at hl 0 rfl) ?_
  refine lv_iload_n hx hb dL_piece2_3 rfl (lv_at hl 1 rfl) ?_
  refine vx_calli (vx_runV (As := [.int x1]) (rest := [.int 0, .ref o]) ⟨hx, hb, hml, hown, hts⟩ (kX0_piece2 l hl0 dC dI cI cJ cZ ad _ v.1 x1 (ro, u2) hg) (cwV 1 hts gLP2 rfl rfl rfl hdL_piece2 ⟨(show _ ≤ _ by decide), (show _ ≤ _ by decide)⟩) ⟨g_blindX, rvX0 hK hPc, fun U hU hW => ⟨rfl, ⟨by rw [hU], by rw [hU]; exact hPc, va_K.moved hW.alike hK, hDc.weaken (fun _ _ _ _ => trivial)⟩, xE.go hE hW hU hS hF⟩⟩ rfl rfl hl.1 rfl (lv_room (Nat.le_of_ble_eq_true rfl)) dL_piece2_4 ⟨(show 1 ≤ 1 by decide), (show 6 ≤ 6 by decide)⟩) hS (fun q _ h => hF q h) hF (fun q _ h => hF q h) (fun E ce q9 u1 t H1 locs1 ht hal hpx hB hz1 hk1 hS1 hce hcv hcl => ?_) (fun r1 u1 t H1 locs1 ht hal hpx hB hz1 hk1 hS1 => ?_)
  · obtain ⟨rfl, hP1, hK1, hD1⟩ := hB
    rw [ht] at hP1
    obtain ⟨rfl, rfl⟩ := Prod.mk.inj hpx
    obtain ⟨hP2, hD2⟩ := jn3 hP hD hk1 hF hP1 hD1
    refine qx_catch (name := "java/lang/ArrayIndexOutOfBoundsException") hown ⟨0, 9, 12, 19⟩ [] (by rw [htab]; rfl) (by decide) (by decide) (hts _ mcL_piece2) (va_Nw.use rfl (hE.1 (.castable "java/lang/ArrayIndexOutOfBoundsException" "java/lang/ArrayIndexOutOfBoundsException") (by decide +kernel) rfl)) hce hcv hcl ?_
    refine lv_astore_n (lv' := [(3, .ref q9), (0, .ref (ad 0)), (1, .int x1), (2, .ref o)]) hx hb dL_piece2_12 rfl hl (by decide) rfl (fun ls hl => ?_)
    refine lv_iconst (v := (1 : Int32)) hx hb dL_piece2_13 (by decide) ?_
    have e0 := Option.some.inj h
    obtain ⟨ea, eb⟩ := Prod.mk.inj e0
    exact W.iret hx hb hr (fun t ht hW => ⟨⟨1, (u2, v.2), rfl, ⟨ea, eb⟩, by rw [ht]; exact hP2, va_K.moved hW.alike hK, hD2⟩, hS1.F ht⟩) hS1.2.2 dL_piece2_14 hlocks
  · obtain ⟨hP1, hK1, hD1⟩ := hB
    rw [ht] at hP1
    obtain ⟨rfl, rfl⟩ := Prod.mk.inj hpx
    obtain ⟨hP2, hD2⟩ := jn3 hP hD hk1 hF hP1 hD1
    refine lv_i2l (v := r1.toInt64) hx hb dL_piece2_7 rfl ?_
    refine va_last hx hb hK hP2 hD2 hS1 15 1 (n := 1) (f := v.2) rfl rfl (show ¬ ((0 : Int32) < 0 ∨ 1 ≤ (0 : Int32).toNatClampNeg) by decide) dL_piece2_8 (fun H locs hP3 hD3 hS => ?_)
    have hP3 : va_P (dC, dI) vwCl (wL cI cJ cZ ad o (u2, vp_updL v.2 (0 : Int32).toNatClampNeg r1.toInt64)) H := hP3
    have hD3 : va_D A (wL cI cJ cZ ad o (u2, vp_updL v.2 (0 : Int32).toNatClampNeg r1.toInt64)) := hD3
    refine lv_goto (tgt := 15) hx hb dL_piece2_9 (by decide) ?_
    refine lv_iconst (v := (0 : Int32)) hx hb dL_piece2_15 (by decide) ?_
    have e0 := Option.some.inj h
    obtain ⟨ea, eb⟩ := Prod.mk.inj e0
    exact W.iret hx hb hr (fun t ht hW => ⟨⟨0, (u2, vp_updL v.2 (0 : Int32).toNatClampNeg r1.toInt64), rfl, ⟨ea, eb⟩, by rw [ht]; exact hP3, va_K.moved hW.alike hK, hD3⟩, hS.F ht⟩) hS.2.2 dL_piece2_16 hlocks
