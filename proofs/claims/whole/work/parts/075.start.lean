section QI
variable {p : Program} {l : Launch} {e : Env} {R : Room} {s : State} {m : MethodId} {args : Array Value} {below : List Frame} {meth : Method} {c : Code} {H : Heap} {locs : List Loc} {cells slots : Nat} {Q : State → Prop} {cc : ByteArray} {pc : Nat} {ls : Array Slot} {rest : List Value}
  {wf : (Nat → Nat) → va_W} {wa wb wc : va_W} {D : va_G} {cl : List vw_C} {tys : List (ClassId × FieldType)} {A : Nat → Prop} {Ts ws : List Cond} {own : String} {nL index maxL q mc ms : Nat} {y : MethodName} {bytes : ByteArray} {rm : Room}
theorem qL_init (S : CallFix p m c cc nL s args Ts own) (hM : Met l y ws rm (va_Pc [.ref q] (gPre D cl tys H.size wc)) (va_Qv (fun ad : Nat → Nat => ad 0 = q) (fun ad t => va_P D cl (wf ad) t.heap ∧ va_K D cl tys t ∧ va_D (va_A wc H.size) (wf ad)) (va_A wc H.size)) mc ms (va_A wc H.size)) (cw : CallB R s args own index y bytes maxL none ws rm mc ms 0 ∧ y.name = "<init>" ∧ (Cond.instanceMethod y).before args s = true)
    (hK : va_K D cl tys s) (hP : va_P D cl (wa ++ (wc ++ wb)) H) (hD : va_D A (wa ++ (wc ++ wb))) (hS : va_S A s.heap H locs) (hA : ∀ q, s.heap.size ≤ q → A q) (hsz : ls.size = nL) (hroom : (rest.map fun v => v.category).sum ≤ 8) (hdg : decode cc pc = .ok (.invokespecial index, 3)) (hf : cells + mc ≤ R.cells ∧ slots + ms ≤ R.slots)
    (kk : ∀ (ad : Nat → Nat) (H1 : Heap) (locs1 : List Loc), ad 0 = q → va_P D cl (wa ++ (wf ad ++ wb)) H1 → va_D A (wa ++ (wf ad ++ wb)) → va_S A s.heap H1 locs1 → W p l e R s m args below meth c H1 locs1 (cells + mc) (slots + ms) Q (F0 m (pc + 3) ls rest)) : W p l e R s m args below meth c H locs cells slots Q (F0 m pc ls (.ref q :: rest)) := by
  obtain ⟨-, hPc, -⟩ := jn_P hP
  obtain ⟨-, hDc, -⟩ := jn_D hD
  have hF := g_free (wf := fun _ : Unit => wc) (u := ()) hDc hS hA
  refine va_callv (va_runI (As := []) (rest := rest) S hM cw ⟨g_blind, g_pre (wf := fun _ : Unit => wc) (u := ()) hK hPc hDc⟩ rfl rfl hsz rfl (lv_room hroom) hdg hf) hS (fun q _ h => hF q h) hF (fun u1 t H1 locs1 ht hvm hw hB hz1 hk1 hS1 => ?_)
  obtain ⟨hP1, hK1, hD1⟩ := hB
  rw [ht] at hP1
  obtain ⟨hP2, hD2⟩ := jn3 hP hD hk1 hF hP1 hD1
  exact kk u1 H1 locs1 hw hP2 hD2 hS1
end QI
theorem ac_int {s : State} {args : Array Value} (h : (Cond.arrayClass .int).before args s = true) : ∃ cI : ClassId, ArrOfT s cI .int ∧ va_RA s cI .int := by
  obtain ⟨c, k, comp, h1, h2, h3⟩ := Cond.arrayClass_spec h
  exact ⟨c, fun n z => ⟨fun k h => (by cases h), k, h2, comp, h3⟩, h1⟩
theorem ac_long {s : State} {args : Array Value} (h : (Cond.arrayClass .long).before args s = true) : ∃ cI : ClassId, ArrOfT s cI .long ∧ va_RA s cI .long := by
  obtain ⟨c, k, comp, h1, h2, h3⟩ := Cond.arrayClass_spec h
  exact ⟨c, fun n z => ⟨fun k h => (by cases h), k, h2, comp, h3⟩, h1⟩
theorem ac_bool {s : State} {args : Array Value} (h : (Cond.arrayClass .boolean).before args s = true) : ∃ cI : ClassId, ArrOfT s cI .boolean ∧ va_RA s cI .boolean := by
  obtain ⟨c, k, comp, h1, h2, h3⟩ := Cond.arrayClass_spec h
  exact ⟨c, fun n z => ⟨fun k h => (by cases h), k, h2, comp, h3⟩, h1⟩
theorem xs_str {s : State} {args : Array Value} {own tx : String} {k : Nat} (h1 : (Cond.stringRef own k tx).before args s = true) (h2 : (Cond.exactly (.string own k) "java/lang/String").before args s = true) : ∃ sa : Nat, vk_R own k tx sa s := by
  obtain ⟨a, c, cell, k9, hev, -⟩ := Cond.exactly_spec h2
  exact ⟨a, vk_R.of h1 hev⟩
theorem atA_tbl : ∀ w ∈ atA, w ∈ lw_tbl := by decide +kernel
theorem atI_tbl2 : ∀ w ∈ atI, w ∈ lw_tbl := by decide +kernel
theorem xs_E {at9 : List Cond} {is : Nat} {tx : String} {s : State} {args : Array Value} {A : Nat → Prop} (hA : ∀ a : Nat, a < s.heap.size → ¬ A a) (hat : ∀ w ∈ at9, w ∈ lw_tbl) (hs : Cond.stringRef RX0 is tx ∈ lw_tbl) (hx : Cond.exactly (.string RX0 is) "java/lang/String" ∈ flatC (Jvm.Cond.and given_1 narrow_1)) (hts : ∀ w ∈ lw_tbl, w.before args s = true) (hgv : (Jvm.Cond.and given_1 narrow_1).before args s = true) : xE at9 is tx A s := by
  have hq := flat_of_before _ hgv
  refine ⟨fun w hw hk => va_Nw.of (xk_tab hk) (hts w (hat w hw)), xs_str (hts _ hs) (hq _ hx), ?_, ?_⟩
  · exact vx_Zqof (hts (.laysStatic "java/lang/Throwable" "UNASSIGNED_STACK" "[Ljava/lang/StackTraceElement;") (by decide +kernel)) (hts (.initialized "java/lang/Throwable") (by decide +kernel)) (hq (.isRef (.static "java/lang/Throwable" "UNASSIGNED_STACK" "[Ljava/lang/StackTraceElement;")) (by decide +kernel)) hA
  · exact vx_Zqof (hts (.laysStatic "java/lang/Throwable" "SUPPRESSED_SENTINEL" "Ljava/util/List;") (by decide +kernel)) (hts (.initialized "java/lang/Throwable") (by decide +kernel)) (hq (.isRef (.static "java/lang/Throwable" "SUPPRESSED_SENTINEL" "Ljava/util/List;")) (by decide +kernel)) hA
set_option maxHeartbeats 4000000 in
set_option maxRecDepth 100000 in
theorem whole_start9 {p : Program} {e : Env} {s : State} {m : MethodId} {below : List Frame} {meth : Method} {c : Code} (l : Launch) (hl0 : l.stackTraces = false) {b L : Nat} {xs : Nat → Int32} (hpure : ∃ k9 : Nat, fL_L k9 xs L 513 g0 g0 (fun _ => 0) 0 = some ()) (C0 : lw_At p s m meth c b L xs) : W p l e room_1 s m #[Value.ref b] below meth c s.heap [] 0 0 (lw_Z below #[Value.ref b] s) (entryFrame m ([Value.ref b] : List Value).toArray 7) := by
  obtain ⟨hx, hb, hr, hml, hown, htT, hX, hbl, hlocks, hgv⟩ := id C0
  have hts : ∀ w ∈ wsL_law, w.before #[Value.ref b] s = true := fun w h => htT w (wsL_law_in w h)
  have hown : s.vm.findClass RL = some m.cls := hown
  have hb : c.code = cL_law := hb
  obtain ⟨A, hAd⟩ : ∃ A : Nat → Prop, A = fun q : Nat => s.heap.size ≤ q := ⟨_, rfl⟩
  have hA : ∀ q : Nat, s.heap.size ≤ q → A q := fun q h => by rw [hAd]; exact h
  have hA0 : ∀ a : Nat, a < s.heap.size → ¬ A a := fun a h => by rw [hAd]; exact Nat.not_le.mpr h
  have hEA : xE atA 68 "a piece's speed is 0" A s := xs_E hA0 atA_tbl (by decide +kernel) (by decide +kernel) htT hgv
  have hEI : xE atI 120 "there is no such piece" A s := xs_E hA0 atI_tbl2 (by decide +kernel) (by decide +kernel) htT hgv
  obtain ⟨c0, iS0, hKn0⟩ := u_known (C := RJx00060) (T := TJx00060) (N := 6) (n := 6) htT inJx00060 (htT (.instantiable RJx00060 6) (by decide +kernel))
  obtain ⟨c1, iS1, hKn1⟩ := u_known (C := RX0) (T := TX0) (N := 18) (n := 18) htT inX0 (htT (.instantiable RX0 18) (by decide +kernel))
  obtain ⟨c2, iS2, hKn2⟩ := u_known (C := RX1) (T := TX1) (N := 17) (n := 17) htT inX1 (htT (.instantiable RX1 17) (by decide +kernel))
  obtain ⟨dC, dI, hKc⟩ : ∃ (dC : Nat → ClassId) (dI : Nat → Nat → Nat), ∀ (k : Nat) (q : vw_C), vwCl[k]? = some q → u_Kn s q.1 q.2.1 q.2.2 (dC k) (dI k) := by
    refine ⟨fun k => if k = 0 then c0 else if k = 1 then c1 else c2, fun k => if k = 0 then iS0 else if k = 1 then iS1 else iS2, ?_⟩
    intro k q hq
    match k, hq with
    | 0, hq => cases hq; exact hKn0
    | 1, hq => cases hq; exact hKn1
    | 2, hq => cases hq; exact hKn2
    | k + 3, hq => simp [vwCl] at hq
  obtain ⟨cI, hI1, hI2⟩ := ac_int (htT (.arrayClass .int) (by decide +kernel))
  obtain ⟨cJ, hJ1, hJ2⟩ := ac_long (htT (.arrayClass .long) (by decide +kernel))
  obtain ⟨cZ, hZ1, hZ2⟩ := ac_bool (htT (.arrayClass .boolean) (by decide +kernel))
  have hK : va_K (dC, dI) vwCl (tyS cI cJ cZ) s := ⟨hKc, fun k q h => by
    match k, h with
    | 0, h => cases h; exact ⟨hI1, hI2⟩
    | 1, h => cases h; exact ⟨hJ1, hJ2⟩
    | 2, h => cases h; exact ⟨hZ1, hZ2⟩
    | k + 3, h => simp [tyS] at h⟩
  have hS : va_S A s.heap s.heap [] := va_S.rf
  have hP : va_P (dC, dI) vwCl [] s.heap := fun k q h => by simp at h
  have hD : va_D A [] := ⟨fun i j p q h => by simp at h, fun k q h => by simp at h⟩
  have hl := lv_entry ([.ref b]) (n := 7) (Nat.le_of_ble_eq_true rfl)
  rw [lg_entry_eq]
  generalize (lg_sl ([.ref b]) ++ List.replicate (7 - (lg_sl ([.ref b])).length) Slot.unset).toArray = ls at hl ⊢
  have hl : lv_has ls 7 [(0, .ref b)] := hl
  refine va_new (ci := 1) (fs := [.null, .null, .null, .null, .null, .null, .int 0, .null, .int 0, .null, .null, .null, .int 0, .null, .null, .null, .null, .int 0]) (C := RX0) (T := TX0) (N := 18) hx hb hts inlX0 tyX0 tyX0_ok hown (hts (.classLink RL 8 RX0) (by decide +kernel)) (hts (.instantiable RX0 18) (by decide +kernel)) (hts (.initialized RX0) (by decide +kernel)) hK hP hD hS hA rfl (fun j hj => by rcases (show j = 0 ∨ j = 1 ∨ j = 2 ∨ j = 3 ∨ j = 4 ∨ j = 5 ∨ j = 6 ∨ j = 7 ∨ j = 8 ∨ j = 9 ∨ j = 10 ∨ j = 11 ∨ j = 12 ∨ j = 13 ∨ j = 14 ∨ j = 15 ∨ j = 16 ∨ j = 17 by omega) with rfl | rfl | rfl | rfl | rfl | rfl | rfl | rfl | rfl | rfl | rfl | rfl | rfl | rfl | rfl | rfl | rfl | rfl <;> rfl) (show 1 ≤ 1056 by decide) (show 18 ≤ 25841 by decide) dL_law_0 (fun q0v H hP hD hS => ?_)
  have hP : va_P (dC, dI) vwCl ([] ++ ([(q0v, .inr (1, [.null, .null, .null, .null, .null, .null, .int 0, .null, .int 0, .null, .null, .null, .int 0, .null, .null, .null, .null, .int 0]))] ++ [])) H := hP
  have hD : va_D A ([] ++ ([(q0v, .inr (1, [.null, .null, .null, .null, .null, .null, .int 0, .null, .int 0, .null, .null, .null, .int 0, .null, .null, .null, .null, .int 0]))] ++ [])) := hD
  refine lv_dup hx hb dL_law_3 rfl ?_
  refine qL_init (q := q0v) (wa := []) (wc := [(q0v, .inr (1, [.null, .null, .null, .null, .null, .null, .int 0, .null, .int 0, .null, .null, .null, .int 0, .null, .null, .null, .null, .int 0]))]) (wb := []) (wf := fun ad => wX0 cI cJ cZ ad g0) (rest := [.ref q0v]) ⟨hx, hb, hml, hown, hts⟩ (kX0_init l dC dI cI cJ cZ q0v _) (cwI 0 hts gL_law_X0_init rfl rfl rfl (hts (.initialized RX0) (by decide +kernel)) (hts (.methodLink RL 21 yX0_init) (by decide +kernel)) (hts (.instanceMethod yX0_init) (by decide +kernel)) rfl (by decide +kernel) ⟨(show _ ≤ _ by decide), (show _ ≤ _ by decide)⟩) hK hP hD hS hA hl.1 (Nat.le_of_ble_eq_true rfl) dL_law_4 ⟨(show 15 ≤ 1056 by decide), (show 1759 ≤ 25841 by decide)⟩ (fun ad H locs had hP hD hS => ?_)
  have hP : va_P (dC, dI) vwCl (wX0 cI cJ cZ ad g0) H := hP
  have hD : va_D A (wX0 cI cJ cZ ad g0) := hD
  refine W.eq (g2 := F0 m 7 ls [.ref (ad 0)]) (by rw [had]) ?_
  refine lv_astore_n (lv' := [(1, .ref (ad 0)), (0, .ref b)]) hx hb dL_law_7 rfl hl (by decide) rfl (fun ls hl => ?_)
  refine va_new (ci := 2) (fs := [.int 0, .int 0, .null, .null, .null, .null, .null, .null, .null, .int 0, .null, .null, .null, .null, .null, .int 0, .null]) (C := RX1) (T := TX1) (N := 17) hx hb hts inlX1 tyX1 tyX1_ok hown (hts (.classLink RL 22 RX1) (by decide +kernel)) (hts (.instantiable RX1 17) (by decide +kernel)) (hts (.initialized RX1) (by decide +kernel)) hK hP hD hS hA rfl (fun j hj => by rcases (show j = 0 ∨ j = 1 ∨ j = 2 ∨ j = 3 ∨ j = 4 ∨ j = 5 ∨ j = 6 ∨ j = 7 ∨ j = 8 ∨ j = 9 ∨ j = 10 ∨ j = 11 ∨ j = 12 ∨ j = 13 ∨ j = 14 ∨ j = 15 ∨ j = 16 by omega) with rfl | rfl | rfl | rfl | rfl | rfl | rfl | rfl | rfl | rfl | rfl | rfl | rfl | rfl | rfl | rfl | rfl <;> rfl) (show 16 ≤ 1056 by decide) (show 1776 ≤ 25841 by decide) dL_law_8 (fun q1v H hP hD hS => ?_)
  have hP : va_P (dC, dI) vwCl (wX0 cI cJ cZ ad g0 ++ ([(q1v, .inr (2, [.int 0, .int 0, .null, .null, .null, .null, .null, .null, .null, .int 0, .null, .null, .null, .null, .null, .int 0, .null]))] ++ [])) H := hP
  have hD : va_D A (wX0 cI cJ cZ ad g0 ++ ([(q1v, .inr (2, [.int 0, .int 0, .null, .null, .null, .null, .null, .null, .null, .int 0, .null, .null, .null, .null, .null, .int 0, .null]))] ++ [])) := hD
  refine lv_dup hx hb dL_law_11 rfl ?_
  refine qL_init (q := q1v) (wa := wX0 cI cJ cZ ad g0) (wc := [(q1v, .inr (2, [.int 0, .int 0, .null, .null, .null, .null, .null, .null, .null, .int 0, .null, .null, .null, .null, .null, .int 0, .null]))]) (wb := []) (wf := fun bd => wX1 cI cJ cZ bd g0) (rest := [.ref q1v]) ⟨hx, hb, hml, hown, hts⟩ (kX1_init l dC dI cI cJ cZ q1v _) (cwI 0 hts gL_law_X1_init rfl rfl rfl (hts (.initialized RX1) (by decide +kernel)) (hts (.methodLink RL 24 yX1_init) (by decide +kernel)) (hts (.instanceMethod yX1_init) (by decide +kernel)) rfl (by decide +kernel) ⟨(show _ ≤ _ by decide), (show _ ≤ _ by decide)⟩) hK hP hD hS hA hl.1 (Nat.le_of_ble_eq_true rfl) dL_law_12 ⟨(show 29 ≤ 1056 by decide), (show 17636 ≤ 25841 by decide)⟩ (fun bd H locs hbd hP hD hS => ?_)
  have hP : va_P (dC, dI) vwCl (wX0 cI cJ cZ ad g0 ++ wX1 cI cJ cZ bd g0) H := hP
  have hD : va_D A (wX0 cI cJ cZ ad g0 ++ wX1 cI cJ cZ bd g0) := hD
  refine W.eq (g2 := F0 m 15 ls [.ref (bd 0)]) (by rw [hbd]) ?_
  refine lv_astore_n (lv' := [(2, .ref (bd 0)), (1, .ref (ad 0)), (0, .ref b)]) hx hb dL_law_15 rfl hl (by decide) rfl (fun ls hl => ?_)
  refine lv_iconst (v := (1 : Int32)) hx hb dL_law_16 (by decide) ?_
  refine va_newa (atype := .long) (ty := .long) (N' := 1) (a0 := (1, .inr (.inl (fun _ => 0)))) hx hb (hts (.arrayClass .long) (by decide +kernel)) rfl hK hP hD hS hA (fun cA => rfl) (by decide) (by decide) (by decide) (show 30 ≤ 1056 by decide) (show 17637 ≤ 25841 by decide) dL_law_17 (fun oo cA9 H hK9 hP hD hS => ?_)
  have ec9 : cA9 = cJ := q_racJ hK hK9
  rw [ec9] at hP hD
  have hP := hP.sub (ws' := wX1 cI cJ cZ bd g0 ++ (wX0 cI cJ cZ ad g0 ++ [(oo, .inl (cJ, 1, .inr (.inl (fun _ => 0))))])) [15, 16, 17, 18, 19, 20, 21, 22, 23, 24, 25, 26, 27, 28, 0, 1, 2, 3, 4, 5, 6, 7, 8, 9, 10, 11, 12, 13, 14, 29] rfl
  have hD := hD.sub (ws' := wX1 cI cJ cZ bd g0 ++ (wX0 cI cJ cZ ad g0 ++ [(oo, .inl (cJ, 1, .inr (.inl (fun _ => 0))))])) [15, 16, 17, 18, 19, 20, 21, 22, 23, 24, 25, 26, 27, 28, 0, 1, 2, 3, 4, 5, 6, 7, 8, 9, 10, 11, 12, 13, 14, 29] (by decide) rfl
  refine lv_astore_n (lv' := [(3, .ref oo), (2, .ref (bd 0)), (1, .ref (ad 0)), (0, .ref b)]) hx hb dL_law_19 rfl hl (by decide) rfl (fun ls hl => ?_)
  refine lv_iconst (v := (0 : Int32)) hx hb dL_law_20 (by decide) ?_
  refine lv_istore (lv' := [(4, .int 0), (3, .ref oo), (2, .ref (bd 0)), (1, .ref (ad 0)), (0, .ref b)]) hx hb dL_law_21 hl (by decide) rfl (fun ls hl => ?_)
  obtain ⟨k9, hk9⟩ := hpure
  refine W.widen (k := 30 + 0) (n := 17637 + 6 * 0) (show 30 ≤ 30 by decide) (show 17637 ≤ 17637 by decide) ?_
  exact law_L hAd hl0 C0 hK hEA hEI 513 0 g0 g0 (fun _ => 0) 0 _ _ _ hk9 (by decide) hP hD hS (lv_sub hl [4, 3, 2, 1, 0] rfl)
