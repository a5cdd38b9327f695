/-! Own rows: calls out of the law, over worlds side by side. -/
section QL
variable {p : Program} {l : Launch} {e : Env} {R : Room} {s : State} {m : MethodId} {args : Array Value} {below : List Frame} {meth : Method} {c : Code} {H : Heap} {locs : List Loc} {cells slots : Nat} {Q : State → Prop} {cc : ByteArray} {pc : Nat} {ls : Array Slot} {rest : List Value}
  {σ : Type} {wf : σ → va_W} {u u' : σ} {wa wb : va_W} {D : va_G} {cl : List vw_C} {tys : List (ClassId × FieldType)} {A : Nat → Prop} {Ts ws : List Cond} {own C : String} {nL n index maxL b : Nat} {y : MethodName} {bytes : ByteArray} {ret : Option FieldType} {rm : Room} {As st : List Value}
theorem qL_Vi {r : Int32} (S : CallFix p m c cc nL s args Ts own) (hM : Ki l y ws rm D cl tys wf H.size u (.ref b :: As) r u') (cw : CallW R s args own C index y bytes maxL ret ws rm 0 0 n) (hC : va_P D cl (wf u) H → ∃ cell : Cell, H[b]? = some cell ∧ cell.vm.isStatics = false ∧ s.vm.findClass C = some cell.cls)
    (hK : va_K D cl tys s) (hP : va_P D cl (wa ++ (wf u ++ wb)) H) (hD : va_D A (wa ++ (wf u ++ wb))) (hS : va_S A s.heap H locs) (hA : ∀ q, s.heap.size ≤ q → A q) (hn : As.length = n) (hsz : ls.size = nL) (hroom : (rest.map fun v => v.category).sum ≤ 8) (hst : st = As.reverse ++ .ref b :: rest) (hdg : decode cc pc = .ok (.invokevirtual index, 3)) (hf : cells ≤ R.cells ∧ slots ≤ R.slots)
    (kk : ∀ (H1 : Heap) (locs1 : List Loc), va_P D cl (wa ++ (wf u' ++ wb)) H1 → va_D A (wa ++ (wf u' ++ wb)) → va_S A s.heap H1 locs1 → W p l e R s m args below meth c H1 locs1 cells slots Q (F0 m (pc + 3) ls (.int r :: rest))) : W p l e R s m args below meth c H locs cells slots Q (F0 m pc ls st) := by
  obtain ⟨-, hPc, -⟩ := jn_P hP
  obtain ⟨-, hDc, -⟩ := jn_D hD
  have hF := g_free hDc hS hA
  refine va_calli (va_runV (As := As) (rest := rest) S hM cw ⟨g_blind, hC hPc, g_pre hK hPc hDc⟩ rfl hn hsz hst (lv_room hroom) hdg hf) hS (fun q _ h => hF q h) hF (fun r1 u1 t H1 locs1 ht hvm hw hB hz1 hk1 hS1 => ?_)
  obtain ⟨rfl, rfl⟩ := hw
  obtain ⟨hP1, hK1, hD1⟩ := hB
  rw [ht] at hP1
  obtain ⟨hP2, hD2⟩ := jn3 hP hD hk1 hF hP1 hD1
  exact kk H1 locs1 hP2 hD2 hS1
theorem qL_Vl {r : Int64} (S : CallFix p m c cc nL s args Ts own) (hM : Kl l y ws rm D cl tys wf H.size u (.ref b :: As) r u') (cw : CallW R s args own C index y bytes maxL ret ws rm 0 0 n) (hC : va_P D cl (wf u) H → ∃ cell : Cell, H[b]? = some cell ∧ cell.vm.isStatics = false ∧ s.vm.findClass C = some cell.cls)
    (hK : va_K D cl tys s) (hP : va_P D cl (wa ++ (wf u ++ wb)) H) (hD : va_D A (wa ++ (wf u ++ wb))) (hS : va_S A s.heap H locs) (hA : ∀ q, s.heap.size ≤ q → A q) (hn : As.length = n) (hsz : ls.size = nL) (hroom : (rest.map fun v => v.category).sum ≤ 8) (hst : st = As.reverse ++ .ref b :: rest) (hdg : decode cc pc = .ok (.invokevirtual index, 3)) (hf : cells ≤ R.cells ∧ slots ≤ R.slots)
    (kk : ∀ (H1 : Heap) (locs1 : List Loc), va_P D cl (wa ++ (wf u' ++ wb)) H1 → va_D A (wa ++ (wf u' ++ wb)) → va_S A s.heap H1 locs1 → W p l e R s m args below meth c H1 locs1 cells slots Q (F0 m (pc + 3) ls (.long r :: rest))) : W p l e R s m args below meth c H locs cells slots Q (F0 m pc ls st) := by
  obtain ⟨-, hPc, -⟩ := jn_P hP
  obtain ⟨-, hDc, -⟩ := jn_D hD
  have hF := g_free hDc hS hA
  refine va_calll (va_runV (As := As) (rest := rest) S hM cw ⟨g_blind, hC hPc, g_pre hK hPc hDc⟩ rfl hn hsz hst (lv_room hroom) hdg hf) hS (fun q _ h => hF q h) hF (fun r1 u1 t H1 locs1 ht hvm hw hB hz1 hk1 hS1 => ?_)
  obtain ⟨rfl, rfl⟩ := hw
  obtain ⟨hP1, hK1, hD1⟩ := hB
  rw [ht] at hP1
  obtain ⟨hP2, hD2⟩ := jn3 hP hD hk1 hF hP1 hD1
  exact kk H1 locs1 hP2 hD2 hS1
theorem qL_P {r : Int32} {hh : List (Nat × Nat × Nat × Nat)} {at9 : List Cond} {is : Nat} {text : String} (S : CallFix p m c cc nL s args Ts own) (hM : Met l y ws rm (va_Pc As (fun U => gPre D cl tys H.size (wf u) U ∧ xE at9 is text (va_A (wf u) H.size) U)) (va_Qi (fun r1 v1 => r1 = r ∧ v1 = u') (gAt D cl tys (va_A (wf u) H.size) wf) (va_A (wf u) H.size)) 1 6 (va_A (wf u) H.size)) (cw : vx_CSW R s args own index y bytes maxL ret hh ws rm 1 6 n)
    (hK : va_K D cl tys s) (hP : va_P D cl (wa ++ wf u) H) (hD : va_D A (wa ++ wf u)) (hS : va_S A s.heap H locs) (hA : ∀ q, s.heap.size ≤ q → A q) (hE : xE at9 is text A s) (hn : As.length = n) (hsz : ls.size = nL) (hroom : (rest.map fun v => v.category).sum ≤ 8) (hst : st = As.reverse ++ rest) (hdg : decode cc pc = .ok (.invokestatic index, 3)) (hf : cells + 1 ≤ R.cells ∧ slots + 6 ≤ R.slots)
    (kk : ∀ (H1 : Heap) (locs1 : List Loc), va_P D cl (wa ++ wf u') H1 → va_D A (wa ++ wf u') → va_S A s.heap H1 locs1 → W p l e R s m args below meth c H1 locs1 (cells + 1) (slots + 6) Q (F0 m (pc + 3) ls (.int r :: rest))) : W p l e R s m args below meth c H locs cells slots Q (F0 m pc ls st) := by
  have hP : va_P D cl (wa ++ (wf u ++ [])) H := by rw [List.append_nil]; exact hP
  have hD : va_D A (wa ++ (wf u ++ [])) := by rw [List.append_nil]; exact hD
  obtain ⟨-, hPc, -⟩ := jn_P hP
  obtain ⟨-, hDc, -⟩ := jn_D hD
  have hF := g_free hDc hS hA
  refine va_calli (vx_runSW (As := As) (rest := rest) S hM cw ⟨g_blindX, fun U hU hW => ⟨rfl, ⟨by rw [hU], by rw [hU]; exact hPc, va_K.moved hW.alike hK, hDc.weaken (fun _ _ _ _ => trivial)⟩, xE.go hE hW hU hS hF⟩⟩ rfl hn hsz hst (lv_room hroom) hdg hf) hS (fun q _ h => hF q h) hF (fun r1 u1 t H1 locs1 ht hvm hw hB hz1 hk1 hS1 => ?_)
  obtain ⟨rfl, rfl⟩ := hw
  obtain ⟨hP1, hK1, hD1⟩ := hB
  rw [ht] at hP1
  obtain ⟨hP2, hD2⟩ := jn3 hP hD hk1 hF hP1 hD1
  rw [List.append_nil] at hP2 hD2
  exact kk H1 locs1 hP2 hD2 hS1
end QL
theorem q_sw0_9 {x : Int32} (h0 : ¬ x = 0) (h1 : ¬ x = 1) (h2 : ¬ x = 2) (h3 : ¬ x = 3) (h4 : ¬ x = 4) (h5 : ¬ x = 5) (h6 : ¬ x = 6) (h7 : ¬ x = 7) (h8 : ¬ x = 8) (h9 : ¬ x = 9) : x.toInt < 0 ∨ 9 < x.toInt := by
  have e : ∀ n : Int32, x.toInt = n.toInt → x = n := fun n hn => Int32.toInt_inj.mp hn
  have a0 : ¬ x.toInt = 0 := mt (e 0) h0
  have a1 : ¬ x.toInt = 1 := mt (e 1) h1
  have a2 : ¬ x.toInt = 2 := mt (e 2) h2
  have a3 : ¬ x.toInt = 3 := mt (e 3) h3
  have a4 : ¬ x.toInt = 4 := mt (e 4) h4
  have a5 : ¬ x.toInt = 5 := mt (e 5) h5
  have a6 : ¬ x.toInt = 6 := mt (e 6) h6
  have a7 : ¬ x.toInt = 7 := mt (e 7) h7
  have a8 : ¬ x.toInt = 8 := mt (e 8) h8
  have a9 : ¬ x.toInt = 9 := mt (e 9) h9
  omega
theorem hdS_L_piece : yL_piece.cls ≠ "java/lang/invoke/MethodHandle" ∧ yL_piece.cls ≠ "java/lang/invoke/VarHandle" ∧ (parseMethodDescriptor yL_piece.desc).map (fun d => d.parameters.length) = some 6 := by decide +kernel
theorem hdS_L_piece2 : yL_piece2.cls ≠ "java/lang/invoke/MethodHandle" ∧ yL_piece2.cls ≠ "java/lang/invoke/VarHandle" ∧ (parseMethodDescriptor yL_piece2.desc).map (fun d => d.parameters.length) = some 3 := by decide +kernel
theorem atI_tbl : ∀ w ∈ Cond.classLink RL 19 "java/lang/ArrayIndexOutOfBoundsException" :: atI.filter goodWord, w ∈ lw_tbl ∧ goodWord w = true := by decide +kernel
theorem gT_L_piece2 : GoodIn lw_tbl (va_wsS RL 71 yL_piece2 wsLP2) := fun w h => (List.mem_append.mp h).elim (fun h => ⟨wsL_law_in w (gL_law_L_piece2 w (List.mem_append_left _ h)).1, (gL_law_L_piece2 w (List.mem_append_left _ h)).2⟩) (fun h => (List.mem_append.mp h).elim (fun h => ⟨wsL_law_in w (gL_law_L_piece2 w (List.mem_append_right _ h)).1, (gL_law_L_piece2 w (List.mem_append_right _ h)).2⟩) (fun h => ⟨(atI_tbl w h).1, good_of_word (atI_tbl w h).2⟩))
/-! The law's body, as a picture: none where it would answer false. -/
def fL_b (k9 : Nat) (xs : Nat → Int32) (L : Nat) (rc : gS → gS → (Nat → Int64) → Int32 → Option Unit) (u v : gS) (f : Nat → Int64) (y4 : Int32) : Option Unit :=
    if ((Int32.ofNat L) - (7 : Int32)) < y4 then
      some ()
    else
      if y4 < 0 ∨ L ≤ y4.toNatClampNeg then none else
      if ((xs y4.toNatClampNeg) &&& (15 : Int32)) = (0 : Int32) then
        if (y4 + (1 : Int32)) < 0 ∨ L ≤ (y4 + (1 : Int32)).toNatClampNeg then none else
        if (y4 + (2 : Int32)) < 0 ∨ L ≤ (y4 + (2 : Int32)).toNatClampNeg then none else
        if (y4 + (3 : Int32)) < 0 ∨ L ≤ (y4 + (3 : Int32)).toNatClampNeg then none else
        if (y4 + (4 : Int32)) < 0 ∨ L ≤ (y4 + (4 : Int32)).toNatClampNeg then none else
        if (y4 + (5 : Int32)) < 0 ∨ L ≤ (y4 + (5 : Int32)).toNatClampNeg then none else
        if (y4 + (6 : Int32)) < 0 ∨ L ≤ (y4 + (6 : Int32)).toNatClampNeg then none else
        q_b2 (fL_piece (u, f) (xs (y4 + (1 : Int32)).toNatClampNeg) (xs (y4 + (2 : Int32)).toNatClampNeg) ((((xs (y4 + (3 : Int32)).toNatClampNeg).toInt64) <<< ((32 : Int32).toInt64 &&& 63)) ||| (((xs (y4 + (4 : Int32)).toNatClampNeg).toInt64) &&& (4294967295 : Int64))) ((((xs (y4 + (5 : Int32)).toNatClampNeg).toInt64) <<< ((32 : Int32).toInt64 &&& 63)) ||| (((xs (y4 + (6 : Int32)).toNatClampNeg).toInt64) &&& (4294967295 : Int64)))) fun r3 w5 =>
        if (y4 + (1 : Int32)) < 0 ∨ L ≤ (y4 + (1 : Int32)).toNatClampNeg then none else
        if (y4 + (2 : Int32)) < 0 ∨ L ≤ (y4 + (2 : Int32)).toNatClampNeg then none else
        if (y4 + (3 : Int32)) < 0 ∨ L ≤ (y4 + (3 : Int32)).toNatClampNeg then none else
        if (y4 + (4 : Int32)) < 0 ∨ L ≤ (y4 + (4 : Int32)).toNatClampNeg then none else
        if (y4 + (5 : Int32)) < 0 ∨ L ≤ (y4 + (5 : Int32)).toNatClampNeg then none else
        if (y4 + (6 : Int32)) < 0 ∨ L ≤ (y4 + (6 : Int32)).toNatClampNeg then none else
        q_b2 (fX1_piece v (xs (y4 + (1 : Int32)).toNatClampNeg) (xs (y4 + (2 : Int32)).toNatClampNeg) ((((xs (y4 + (3 : Int32)).toNatClampNeg).toInt64) <<< ((32 : Int32).toInt64 &&& 63)) ||| (((xs (y4 + (4 : Int32)).toNatClampNeg).toInt64) &&& (4294967295 : Int64))) ((((xs (y4 + (5 : Int32)).toNatClampNeg).toInt64) <<< ((32 : Int32).toInt64 &&& 63)) ||| (((xs (y4 + (6 : Int32)).toNatClampNeg).toInt64) &&& (4294967295 : Int64)))) fun r6 u8 =>
        q_b (fX1_thrown u8) fun r9 =>
        if r9 = r3 then
          if r3 = 0 then
            if (0 : Int32) < 0 ∨ 1 ≤ (0 : Int32).toNatClampNeg then none else
            if (w5.2 (0 : Int32).toNatClampNeg) = r6.toInt64 then
              q_let (y4 + (7 : Int32)) fun v16 =>
              rc w5.1 u8 w5.2 v16
            else
              none
          else
            q_let (y4 + (7 : Int32)) fun v14 =>
            rc w5.1 u8 w5.2 v14
        else
          none
      else
      if ((xs y4.toNatClampNeg) &&& (15 : Int32)) = (1 : Int32) then
        if (y4 + (1 : Int32)) < 0 ∨ L ≤ (y4 + (1 : Int32)).toNatClampNeg then none else
        if (y4 + (2 : Int32)) < 0 ∨ L ≤ (y4 + (2 : Int32)).toNatClampNeg then none else
        if (y4 + (3 : Int32)) < 0 ∨ L ≤ (y4 + (3 : Int32)).toNatClampNeg then none else
        if (xs (y4 + (3 : Int32)).toNatClampNeg) = 0 then
          q_b2 (fX0_turn u (xs (y4 + (1 : Int32)).toNatClampNeg) (xs (y4 + (2 : Int32)).toNatClampNeg) (0 : Int32)) fun r19 u21 =>
          if (y4 + (1 : Int32)) < 0 ∨ L ≤ (y4 + (1 : Int32)).toNatClampNeg then none else
          if (y4 + (2 : Int32)) < 0 ∨ L ≤ (y4 + (2 : Int32)).toNatClampNeg then none else
          if (y4 + (3 : Int32)) < 0 ∨ L ≤ (y4 + (3 : Int32)).toNatClampNeg then none else
          if (xs (y4 + (3 : Int32)).toNatClampNeg) = 0 then
            q_b2 (fX1_turn v (xs (y4 + (1 : Int32)).toNatClampNeg) (xs (y4 + (2 : Int32)).toNatClampNeg) (0 : Int32)) fun r23 u25 =>
            if r19 = r23 then
              q_let (y4 + (7 : Int32)) fun v27 =>
              rc u21 u25 f v27
            else
              none
          else
            q_b2 (fX1_turn v (xs (y4 + (1 : Int32)).toNatClampNeg) (xs (y4 + (2 : Int32)).toNatClampNeg) (1 : Int32)) fun r28 u30 =>
            if r19 = r28 then
              q_let (y4 + (7 : Int32)) fun v32 =>
              rc u21 u30 f v32
            else
              none
        else
          q_b2 (fX0_turn u (xs (y4 + (1 : Int32)).toNatClampNeg) (xs (y4 + (2 : Int32)).toNatClampNeg) (1 : Int32)) fun r33 u35 =>
          if (y4 + (1 : Int32)) < 0 ∨ L ≤ (y4 + (1 : Int32)).toNatClampNeg then none else
          if (y4 + (2 : Int32)) < 0 ∨ L ≤ (y4 + (2 : Int32)).toNatClampNeg then none else
          if (y4 + (3 : Int32)) < 0 ∨ L ≤ (y4 + (3 : Int32)).toNatClampNeg then none else
          if (xs (y4 + (3 : Int32)).toNatClampNeg) = 0 then
            q_b2 (fX1_turn v (xs (y4 + (1 : Int32)).toNatClampNeg) (xs (y4 + (2 : Int32)).toNatClampNeg) (0 : Int32)) fun r37 u39 =>
            if r33 = r37 then
              q_let (y4 + (7 : Int32)) fun v41 =>
              rc u35 u39 f v41
            else
              none
          else
            q_b2 (fX1_turn v (xs (y4 + (1 : Int32)).toNatClampNeg) (xs (y4 + (2 : Int32)).toNatClampNeg) (1 : Int32)) fun r42 u44 =>
            if r33 = r42 then
              q_let (y4 + (7 : Int32)) fun v46 =>
              rc u35 u44 f v46
            else
              none
      else
      if ((xs y4.toNatClampNeg) &&& (15 : Int32)) = (2 : Int32) then
        if (y4 + (1 : Int32)) < 0 ∨ L ≤ (y4 + (1 : Int32)).toNatClampNeg then none else
        if (y4 + (2 : Int32)) < 0 ∨ L ≤ (y4 + (2 : Int32)).toNatClampNeg then none else
        if (y4 + (3 : Int32)) < 0 ∨ L ≤ (y4 + (3 : Int32)).toNatClampNeg then none else
        if (y4 + (4 : Int32)) < 0 ∨ L ≤ (y4 + (4 : Int32)).toNatClampNeg then none else
        q_b2 (fX0_stop u (xs (y4 + (1 : Int32)).toNatClampNeg) (xs (y4 + (2 : Int32)).toNatClampNeg) ((((xs (y4 + (3 : Int32)).toNatClampNeg).toInt64) <<< ((32 : Int32).toInt64 &&& 63)) ||| (((xs (y4 + (4 : Int32)).toNatClampNeg).toInt64) &&& (4294967295 : Int64)))) fun r48 u50 =>
        if (y4 + (1 : Int32)) < 0 ∨ L ≤ (y4 + (1 : Int32)).toNatClampNeg then none else
        if (y4 + (2 : Int32)) < 0 ∨ L ≤ (y4 + (2 : Int32)).toNatClampNeg then none else
        if (y4 + (3 : Int32)) < 0 ∨ L ≤ (y4 + (3 : Int32)).toNatClampNeg then none else
        if (y4 + (4 : Int32)) < 0 ∨ L ≤ (y4 + (4 : Int32)).toNatClampNeg then none else
        q_b2 (fX1_stop v (xs (y4 + (1 : Int32)).toNatClampNeg) (xs (y4 + (2 : Int32)).toNatClampNeg) ((((xs (y4 + (3 : Int32)).toNatClampNeg).toInt64) <<< ((32 : Int32).toInt64 &&& 63)) ||| (((xs (y4 + (4 : Int32)).toNatClampNeg).toInt64) &&& (4294967295 : Int64)))) fun r51 u53 =>
        if r48 = r51 then
          q_let (y4 + (7 : Int32)) fun v55 =>
          rc u50 u53 f v55
        else
          none
      else
      if ((xs y4.toNatClampNeg) &&& (15 : Int32)) = (3 : Int32) then
        if (y4 + (1 : Int32)) < 0 ∨ L ≤ (y4 + (1 : Int32)).toNatClampNeg then none else
        if (y4 + (2 : Int32)) < 0 ∨ L ≤ (y4 + (2 : Int32)).toNatClampNeg then none else
        if (y4 + (3 : Int32)) < 0 ∨ L ≤ (y4 + (3 : Int32)).toNatClampNeg then none else
        if (y4 + (4 : Int32)) < 0 ∨ L ≤ (y4 + (4 : Int32)).toNatClampNeg then none else
        q_b2 (fX0_way u (xs (y4 + (1 : Int32)).toNatClampNeg) (xs (y4 + (2 : Int32)).toNatClampNeg) ((((xs (y4 + (3 : Int32)).toNatClampNeg).toInt64) <<< ((32 : Int32).toInt64 &&& 63)) ||| (((xs (y4 + (4 : Int32)).toNatClampNeg).toInt64) &&& (4294967295 : Int64)))) fun r57 u59 =>
        if (y4 + (1 : Int32)) < 0 ∨ L ≤ (y4 + (1 : Int32)).toNatClampNeg then none else
        if (y4 + (2 : Int32)) < 0 ∨ L ≤ (y4 + (2 : Int32)).toNatClampNeg then none else
        if (y4 + (3 : Int32)) < 0 ∨ L ≤ (y4 + (3 : Int32)).toNatClampNeg then none else
        if (y4 + (4 : Int32)) < 0 ∨ L ≤ (y4 + (4 : Int32)).toNatClampNeg then none else
        q_b2 (fX1_way k9 v (xs (y4 + (1 : Int32)).toNatClampNeg) (xs (y4 + (2 : Int32)).toNatClampNeg) ((((xs (y4 + (3 : Int32)).toNatClampNeg).toInt64) <<< ((32 : Int32).toInt64 &&& 63)) ||| (((xs (y4 + (4 : Int32)).toNatClampNeg).toInt64) &&& (4294967295 : Int64)))) fun r60 u62 =>
        if r57 = r60 then
          q_let (y4 + (7 : Int32)) fun v64 =>
          rc u59 u62 f v64
        else
          none
      else
      if ((xs y4.toNatClampNeg) &&& (15 : Int32)) = (4 : Int32) then
        if (y4 + (1 : Int32)) < 0 ∨ L ≤ (y4 + (1 : Int32)).toNatClampNeg then none else
        q_b (fX0_step u (xs (y4 + (1 : Int32)).toNatClampNeg)) fun r66 =>
        if (y4 + (1 : Int32)) < 0 ∨ L ≤ (y4 + (1 : Int32)).toNatClampNeg then none else
        q_b2 (fX1_step v (xs (y4 + (1 : Int32)).toNatClampNeg)) fun r69 u71 =>
        if r66 = r69 then
          q_let (y4 + (7 : Int32)) fun v73 =>
          rc u u71 f v73
        else
          none
      else
      if ((xs y4.toNatClampNeg) &&& (15 : Int32)) = (5 : Int32) then
        if (y4 + (1 : Int32)) < 0 ∨ L ≤ (y4 + (1 : Int32)).toNatClampNeg then none else
        if (y4 + (2 : Int32)) < 0 ∨ L ≤ (y4 + (2 : Int32)).toNatClampNeg then none else
        if (y4 + (3 : Int32)) < 0 ∨ L ≤ (y4 + (3 : Int32)).toNatClampNeg then none else
        if (y4 + (4 : Int32)) < 0 ∨ L ≤ (y4 + (4 : Int32)).toNatClampNeg then none else
        if (y4 + (5 : Int32)) < 0 ∨ L ≤ (y4 + (5 : Int32)).toNatClampNeg then none else
        q_b2 (fX0_gate u (xs (y4 + (1 : Int32)).toNatClampNeg) ((((xs (y4 + (2 : Int32)).toNatClampNeg).toInt64) <<< ((32 : Int32).toInt64 &&& 63)) ||| (((xs (y4 + (3 : Int32)).toNatClampNeg).toInt64) &&& (4294967295 : Int64))) ((((xs (y4 + (4 : Int32)).toNatClampNeg).toInt64) <<< ((32 : Int32).toInt64 &&& 63)) ||| (((xs (y4 + (5 : Int32)).toNatClampNeg).toInt64) &&& (4294967295 : Int64)))) fun r75 u77 =>
        if (y4 + (1 : Int32)) < 0 ∨ L ≤ (y4 + (1 : Int32)).toNatClampNeg then none else
        if (y4 + (2 : Int32)) < 0 ∨ L ≤ (y4 + (2 : Int32)).toNatClampNeg then none else
        if (y4 + (3 : Int32)) < 0 ∨ L ≤ (y4 + (3 : Int32)).toNatClampNeg then none else
        if (y4 + (4 : Int32)) < 0 ∨ L ≤ (y4 + (4 : Int32)).toNatClampNeg then none else
        if (y4 + (5 : Int32)) < 0 ∨ L ≤ (y4 + (5 : Int32)).toNatClampNeg then none else
        q_b2 (fX1_gate v (xs (y4 + (1 : Int32)).toNatClampNeg) ((((xs (y4 + (2 : Int32)).toNatClampNeg).toInt64) <<< ((32 : Int32).toInt64 &&& 63)) ||| (((xs (y4 + (3 : Int32)).toNatClampNeg).toInt64) &&& (4294967295 : Int64))) ((((xs (y4 + (4 : Int32)).toNatClampNeg).toInt64) <<< ((32 : Int32).toInt64 &&& 63)) ||| (((xs (y4 + (5 : Int32)).toNatClampNeg).toInt64) &&& (4294967295 : Int64)))) fun r78 u80 =>
        if r75 = r78 then
          q_let (y4 + (7 : Int32)) fun v82 =>
          rc u77 u80 f v82
        else
          none
      else
      if ((xs y4.toNatClampNeg) &&& (15 : Int32)) = (6 : Int32) then
        if (y4 + (1 : Int32)) < 0 ∨ L ≤ (y4 + (1 : Int32)).toNatClampNeg then none else
        if (y4 + (2 : Int32)) < 0 ∨ L ≤ (y4 + (2 : Int32)).toNatClampNeg then none else
        if (y4 + (3 : Int32)) < 0 ∨ L ≤ (y4 + (3 : Int32)).toNatClampNeg then none else
        q_b2 (fX0_change u (xs (y4 + (1 : Int32)).toNatClampNeg) ((((xs (y4 + (2 : Int32)).toNatClampNeg).toInt64) <<< ((32 : Int32).toInt64 &&& 63)) ||| (((xs (y4 + (3 : Int32)).toNatClampNeg).toInt64) &&& (4294967295 : Int64)))) fun r84 u86 =>
        if (y4 + (1 : Int32)) < 0 ∨ L ≤ (y4 + (1 : Int32)).toNatClampNeg then none else
        if (y4 + (2 : Int32)) < 0 ∨ L ≤ (y4 + (2 : Int32)).toNatClampNeg then none else
        if (y4 + (3 : Int32)) < 0 ∨ L ≤ (y4 + (3 : Int32)).toNatClampNeg then none else
        q_b2 (fX1_change v (xs (y4 + (1 : Int32)).toNatClampNeg) ((((xs (y4 + (2 : Int32)).toNatClampNeg).toInt64) <<< ((32 : Int32).toInt64 &&& 63)) ||| (((xs (y4 + (3 : Int32)).toNatClampNeg).toInt64) &&& (4294967295 : Int64)))) fun r87 u89 =>
        if r84 = r87 then
          q_let (y4 + (7 : Int32)) fun v91 =>
          rc u86 u89 f v91
        else
          none
      else
      if ((xs y4.toNatClampNeg) &&& (15 : Int32)) = (7 : Int32) then
        if (y4 + (1 : Int32)) < 0 ∨ L ≤ (y4 + (1 : Int32)).toNatClampNeg then none else
        if (y4 + (2 : Int32)) < 0 ∨ L ≤ (y4 + (2 : Int32)).toNatClampNeg then none else
        q_b2 (fX0_table u (xs (y4 + (1 : Int32)).toNatClampNeg) (xs (y4 + (2 : Int32)).toNatClampNeg)) fun r93 u95 =>
        if (y4 + (1 : Int32)) < 0 ∨ L ≤ (y4 + (1 : Int32)).toNatClampNeg then none else
        if (y4 + (2 : Int32)) < 0 ∨ L ≤ (y4 + (2 : Int32)).toNatClampNeg then none else
        q_b2 (fX1_table k9 v (xs (y4 + (1 : Int32)).toNatClampNeg) (xs (y4 + (2 : Int32)).toNatClampNeg)) fun r96 u98 =>
        if r93 = r96 then
          q_let (y4 + (7 : Int32)) fun v100 =>
          rc u95 u98 f v100
        else
          none
      else
      if ((xs y4.toNatClampNeg) &&& (15 : Int32)) = (8 : Int32) then
        if (y4 + (1 : Int32)) < 0 ∨ L ≤ (y4 + (1 : Int32)).toNatClampNeg then none else
        q_b2 (fL_piece2 (u, f) (xs (y4 + (1 : Int32)).toNatClampNeg)) fun r102 w104 =>
        if (y4 + (1 : Int32)) < 0 ∨ L ≤ (y4 + (1 : Int32)).toNatClampNeg then none else
        q_b2 (fX1_piece2 v (xs (y4 + (1 : Int32)).toNatClampNeg)) fun r105 u107 =>
        q_b (fX1_thrown u107) fun r108 =>
        if r108 = r102 then
          if r102 = 0 then
            if (0 : Int32) < 0 ∨ 1 ≤ (0 : Int32).toNatClampNeg then none else
            if (w104.2 (0 : Int32).toNatClampNeg) = r105.toInt64 then
              q_let (y4 + (7 : Int32)) fun v115 =>
              rc w104.1 u107 w104.2 v115
            else
              none
          else
            q_let (y4 + (7 : Int32)) fun v113 =>
            rc w104.1 u107 w104.2 v113
        else
          none
      else
      if ((xs y4.toNatClampNeg) &&& (15 : Int32)) = (9 : Int32) then
        if (y4 + (1 : Int32)) < 0 ∨ L ≤ (y4 + (1 : Int32)).toNatClampNeg then none else
        if (y4 + (2 : Int32)) < 0 ∨ L ≤ (y4 + (2 : Int32)).toNatClampNeg then none else
        q_b (fX0_service u (xs (y4 + (1 : Int32)).toNatClampNeg) (xs (y4 + (2 : Int32)).toNatClampNeg)) fun r117 =>
        if (y4 + (1 : Int32)) < 0 ∨ L ≤ (y4 + (1 : Int32)).toNatClampNeg then none else
        if (y4 + (2 : Int32)) < 0 ∨ L ≤ (y4 + (2 : Int32)).toNatClampNeg then none else
        q_b2 (fX1_service v (xs (y4 + (1 : Int32)).toNatClampNeg) (xs (y4 + (2 : Int32)).toNatClampNeg)) fun r120 u122 =>
        if r117 = r120 then
          q_let (y4 + (7 : Int32)) fun v124 =>
          rc u u122 f v124
        else
          none
      else
      q_let (y4 + (7 : Int32)) fun v125 =>
      rc u v f v125
def fL_L (k9 : Nat) (xs : Nat → Int32) (L : Nat) : Nat → gS → gS → (Nat → Int64) → Int32 → Option Unit
  | 0 => fun _ _ _ _ => none
  | n + 1 => fL_b k9 xs L (fL_L k9 xs L n)
theorem mL_law_25 : Cond.constantLong RL 25 (4294967295 : Int64) ∈ wsL_law := by decide +kernel
theorem hdV_X1_piece : yX1_piece.cls = RX1 ∧ yX1_piece.cls ≠ "java/lang/invoke/MethodHandle" ∧ yX1_piece.cls ≠ "java/lang/invoke/VarHandle" ∧ (parseMethodDescriptor yX1_piece.desc).map (fun d => d.parameters.length) = some 4 := by decide +kernel
theorem hdV_X1_thrown : yX1_thrown.cls = RX1 ∧ yX1_thrown.cls ≠ "java/lang/invoke/MethodHandle" ∧ yX1_thrown.cls ≠ "java/lang/invoke/VarHandle" ∧ (parseMethodDescriptor yX1_thrown.desc).map (fun d => d.parameters.length) = some 0 := by decide +kernel
theorem hdV_X0_turn : yX0_turn.cls = RX0 ∧ yX0_turn.cls ≠ "java/lang/invoke/MethodHandle" ∧ yX0_turn.cls ≠ "java/lang/invoke/VarHandle" ∧ (parseMethodDescriptor yX0_turn.desc).map (fun d => d.parameters.length) = some 3 := by decide +kernel
theorem hdV_X1_turn : yX1_turn.cls = RX1 ∧ yX1_turn.cls ≠ "java/lang/invoke/MethodHandle" ∧ yX1_turn.cls ≠ "java/lang/invoke/VarHandle" ∧ (parseMethodDescriptor yX1_turn.desc).map (fun d => d.parameters.length) = some 3 := by decide +kernel
theorem hdV_X0_stop : yX0_stop.cls = RX0 ∧ yX0_stop.cls ≠ "java/lang/invoke/MethodHandle" ∧ yX0_stop.cls ≠ "java/lang/invoke/VarHandle" ∧ (parseMethodDescriptor yX0_stop.desc).map (fun d => d.parameters.length) = some 3 := by decide +kernel
theorem hdV_X1_stop : yX1_stop.cls = RX1 ∧ yX1_stop.cls ≠ "java/lang/invoke/MethodHandle" ∧ yX1_stop.cls ≠ "java/lang/invoke/VarHandle" ∧ (parseMethodDescriptor yX1_stop.desc).map (fun d => d.parameters.length) = some 3 := by decide +kernel
theorem hdV_X0_way : yX0_way.cls = RX0 ∧ yX0_way.cls ≠ "java/lang/invoke/MethodHandle" ∧ yX0_way.cls ≠ "java/lang/invoke/VarHandle" ∧ (parseMethodDescriptor yX0_way.desc).map (fun d => d.parameters.length) = some 3 := by decide +kernel
theorem hdV_X1_way : yX1_way.cls = RX1 ∧ yX1_way.cls ≠ "java/lang/invoke/MethodHandle" ∧ yX1_way.cls ≠ "java/lang/invoke/VarHandle" ∧ (parseMethodDescriptor yX1_way.desc).map (fun d => d.parameters.length) = some 3 := by decide +kernel
theorem hdV_X0_step : yX0_step.cls = RX0 ∧ yX0_step.cls ≠ "java/lang/invoke/MethodHandle" ∧ yX0_step.cls ≠ "java/lang/invoke/VarHandle" ∧ (parseMethodDescriptor yX0_step.desc).map (fun d => d.parameters.length) = some 1 := by decide +kernel
theorem hdV_X1_step : yX1_step.cls = RX1 ∧ yX1_step.cls ≠ "java/lang/invoke/MethodHandle" ∧ yX1_step.cls ≠ "java/lang/invoke/VarHandle" ∧ (parseMethodDescriptor yX1_step.desc).map (fun d => d.parameters.length) = some 1 := by decide +kernel
theorem hdV_X0_gate : yX0_gate.cls = RX0 ∧ yX0_gate.cls ≠ "java/lang/invoke/MethodHandle" ∧ yX0_gate.cls ≠ "java/lang/invoke/VarHandle" ∧ (parseMethodDescriptor yX0_gate.desc).map (fun d => d.parameters.length) = some 3 := by decide +kernel
theorem hdV_X1_gate : yX1_gate.cls = RX1 ∧ yX1_gate.cls ≠ "java/lang/invoke/MethodHandle" ∧ yX1_gate.cls ≠ "java/lang/invoke/VarHandle" ∧ (parseMethodDescriptor yX1_gate.desc).map (fun d => d.parameters.length) = some 3 := by decide +kernel
theorem hdV_X0_change : yX0_change.cls = RX0 ∧ yX0_change.cls ≠ "java/lang/invoke/MethodHandle" ∧ yX0_change.cls ≠ "java/lang/invoke/VarHandle" ∧ (parseMethodDescriptor yX0_change.desc).map (fun d => d.parameters.length) = some 2 := by decide +kernel
theorem hdV_X1_change : yX1_change.cls = RX1 ∧ yX1_change.cls ≠ "java/lang/invoke/MethodHandle" ∧ yX1_change.cls ≠ "java/lang/invoke/VarHandle" ∧ (parseMethodDescriptor yX1_change.desc).map (fun d => d.parameters.length) = some 2 := by decide +kernel
theorem hdV_X0_table : yX0_table.cls = RX0 ∧ yX0_table.cls ≠ "java/lang/invoke/MethodHandle" ∧ yX0_table.cls ≠ "java/lang/invoke/VarHandle" ∧ (parseMethodDescriptor yX0_table.desc).map (fun d => d.parameters.length) = some 2 := by decide +kernel
theorem hdV_X1_table : yX1_table.cls = RX1 ∧ yX1_table.cls ≠ "java/lang/invoke/MethodHandle" ∧ yX1_table.cls ≠ "java/lang/invoke/VarHandle" ∧ (parseMethodDescriptor yX1_table.desc).map (fun d => d.parameters.length) = some 2 := by decide +kernel
theorem hdV_X1_piece2 : yX1_piece2.cls = RX1 ∧ yX1_piece2.cls ≠ "java/lang/invoke/MethodHandle" ∧ yX1_piece2.cls ≠ "java/lang/invoke/VarHandle" ∧ (parseMethodDescriptor yX1_piece2.desc).map (fun d => d.parameters.length) = some 1 := by decide +kernel
theorem hdV_X0_service : yX0_service.cls = RX0 ∧ yX0_service.cls ≠ "java/lang/invoke/MethodHandle" ∧ yX0_service.cls ≠ "java/lang/invoke/VarHandle" ∧ (parseMethodDescriptor yX0_service.desc).map (fun d => d.parameters.length) = some 2 := by decide +kernel
theorem hdV_X1_service : yX1_service.cls = RX1 ∧ yX1_service.cls ≠ "java/lang/invoke/MethodHandle" ∧ yX1_service.cls ≠ "java/lang/invoke/VarHandle" ∧ (parseMethodDescriptor yX1_service.desc).map (fun d => d.parameters.length) = some 2 := by decide +kernel
