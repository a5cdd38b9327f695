/-! Own rows: methods that return or throw. -/
abbrev atA : List Cond := vx_atS RX0 70 "java/lang/ArithmeticException" ["java/lang/RuntimeException", "java/lang/Exception"]
abbrev atI : List Cond := vx_atS RX0 122 "java/lang/ArrayIndexOutOfBoundsException" ["java/lang/IndexOutOfBoundsException", "java/lang/RuntimeException", "java/lang/Exception"]
def xk : Cond → Bool
  | .castable .. => true
  | .declares _ => true
  | _ => false
theorem xk_warm {w : Cond} (h : xk w = true) {s U : State} (hW : s.WarmedH U.vm) (hn : va_Nw w s) : va_Nw w U := by
  cases w <;> first | exact va_Nw.warmC hW hn | exact va_Nw.warmD hW hn | (exact absurd h (by decide)) | (simp [xk] at h)
theorem xk_tab {w : Cond} (h : xk w = true) : w.onTables = true := by
  cases w <;> first | rfl | (simp [xk] at h)
/-- what the start gives for a throw: words that aren't kept by name, the text, the two statics of Throwable that no cell of A is -/
def xE (at9 : List Cond) (is : Nat) (text : String) (A : Nat → Prop) (U : State) : Prop :=
  (∀ w ∈ at9, xk w = true → va_Nw w U) ∧ (∃ sa : Nat, vk_R RX0 is text sa U) ∧ vx_Zq Bundle.tN "UNASSIGNED_STACK" Bundle.steD A U U.heap ∧ vx_Zq Bundle.tN "SUPPRESSED_SENTINEL" Bundle.listD A U U.heap
theorem xE.go {at9 : List Cond} {is : Nat} {text : String} {A B : Nat → Prop} {s U : State} {H : Heap} {locs : List Loc} (h : xE at9 is text A s) (hW : s.WarmedH U.vm) (hU : U.heap = H) (hS : va_S A s.heap H locs) (hB : ∀ q, B q → A q) : xE at9 is text B U := by
  obtain ⟨h1, ⟨sa, h2⟩, h3, h4⟩ := h
  have hq : ∀ a : Nat, a < s.heap.size → ¬ A a → U.heap[a]? = s.heap[a]? := fun a h5 h6 => by rw [hU]; exact hS.2.1 a h5 h6
  exact ⟨fun w hw hk => xk_warm hk hW (h1 w hw hk), ⟨sa, vk_R.warm hW h2⟩, vx_Zq.narrow (vx_Zq.kept (vx_Zq.moved hW.alike h3) hq) hB, vx_Zq.narrow (vx_Zq.kept (vx_Zq.moved hW.alike h4) hq) hB⟩
theorem xE.call {at9 : List Cond} {is : Nat} {text : String} {A : Nat → Prop} {U : State} (g : JFrame) (mk : MethodId) (a : Array Value) (h : xE at9 is text A U) : xE at9 is text A (U.calling g mk a) := by
  obtain ⟨h1, ⟨sa, h2⟩, h3, h4⟩ := h
  exact ⟨fun w hw hk => va_Nw.same (xk_tab hk) (show U.vm = (U.calling g mk a).vm from rfl) (h1 w hw hk), ⟨sa, vk_R.same (show (U.calling g mk a).vm = U.vm from rfl) h2⟩, vx_Zq.moved (u := U) (U := U.calling g mk a) (Vm.Alike.refl U.vm) h3, vx_Zq.moved (u := U) (U := U.calling g mk a) (Vm.Alike.refl U.vm) h4⟩
theorem xE.hat {at9 : List Cond} {is : Nat} {text : String} {A : Nat → Prop} {s : State} {args : Array Value} {Ts : List Cond} (h : xE at9 is text A s) (hk : ∀ w ∈ at9, goodWord w = true ∨ xk w = true) (hin : ∀ w ∈ at9, goodWord w = true → w ∈ Ts) (hts : ∀ w ∈ Ts, w.before args s = true) : ∀ w ∈ at9, w.before args s = true := fun w hw => by
  rcases hk w hw with hg | hg
  · exact hts w (hin w hw hg)
  · exact va_Nw.use (xk_tab hg) (h.1 w hw hg)
theorem atA_k : ∀ w ∈ atA, goodWord w = true ∨ xk w = true := by decide +kernel
theorem atI_k : ∀ w ∈ atI, goodWord w = true ∨ xk w = true := by decide +kernel
theorem atA_g : ∀ w ∈ Cond.classLink RX0 66 "java/lang/ArithmeticException" :: Cond.initialized "java/lang/ArithmeticException" :: atA, vx_ot w = true := by decide +kernel
theorem atI_g : ∀ w ∈ Cond.classLink RX0 118 "java/lang/ArrayIndexOutOfBoundsException" :: Cond.initialized "java/lang/ArrayIndexOutOfBoundsException" :: atI, vx_ot w = true := by decide +kernel
theorem g_ofX {σ : Type} {l : Launch} {y : MethodName} {ws ws' : List Cond} {rm : Room} {D : va_G} {cl : List vw_C} {tys : List (ClassId × FieldType)} {wf : σ → va_W} {sz : Nat} {u : σ} {As : List Value} {cc : ByteArray} {maxL mc ms : Nat} {ret : Option FieldType} {Ex : (Nat → Prop) → State → Prop} {Qf : (Nat → Prop) → Array Value → State → Outcome → State → Prop} {Xf : (Nat → Prop) → String → State → State → Prop}
    (hy : plainName y.cls = true) (hw : ws = Cond.code y cc maxL ret :: ws') (hlen : (lg_sl As).length ≤ maxL)
    (body : ∀ (p : Program) (e : Env) (s : State) (m : MethodId) (below : List Frame) (meth : Method) (c : Code) (A : Nat → Prop) (ls : Array Slot), gCtx p s m meth c As.toArray cc maxL ret ws y.cls → (∀ x ∈ c.exceptionTable.toList, False) → va_K D cl tys s → va_P D cl (wf u) s.heap → va_D A (wf u) → (∀ q, s.heap.size ≤ q → A q) → Ex A s → lv_has ls maxL (lv_args 0 As) → W p l e rm s m As.toArray below meth c s.heap [] 0 0 (vx_MQ below (Qf A) (Xf A) As.toArray s mc ms A) (F0 m 0 ls [])) :
    vx_Met l y ws rm (va_Pc As (fun U => gPre D cl tys sz (wf u) U ∧ Ex (va_A (wf u) sz) U)) (Qf (va_A (wf u) sz)) (Xf (va_A (wf u) sz)) mc ms (va_A (wf u) sz) := by
  refine vx_ofW (cc := cc) (maxL := maxL) (ret := ret) hy hw ?_
  intro p e s m args below meth c s₁ B hml hne hv
  obtain ⟨rfl, ⟨hsz, hP, hK, hD0⟩, hE⟩ := hv
  subst hsz
  have hD := hD0.self (sz := s.heap.size)
  have hA : ∀ q : Nat, s.heap.size ≤ q → va_A (wf u) s.heap.size q := fun q h => Or.inr h
  have hl := lv_entry As (n := maxL) hlen
  rw [lg_entry_eq]
  exact body p e s m below meth c (va_A (wf u) s.heap.size) _ ⟨B.exec, B.bytes, hml, findClass_of_methodNamed B.named, atoms_spec (ws := ws) B.pre, B.returns, B.notSynchronized⟩ hne hK hP hD hA hE hl
section QT
variable {p : Program} {l : Launch} {e : Env} {R : Room} {s : State} {m : MethodId} {args : Array Value} {below : List Frame} {meth : Method} {c : Code} {H : Heap} {locs : List Loc} {cells slots mc ms : Nat} {cc : ByteArray} {pc : Nat} {ls : Array Slot} {rest : List Value}
  {σ : Type} {wf : σ → va_W} {u : σ} {D : va_G} {cl : List vw_C} {tys : List (ClassId × FieldType)} {A : Nat → Prop} {res : Option Int32 × σ} {XC : String → State → State → Prop}
theorem q_iretX {v : Int32} (hx : p.tables.exec = Jvm.exec) (hb : c.code = cc) (hr : meth.sig.returnType = some .int) (hlocks : meth.locks = false) (hK : va_K D cl tys s) (hP : va_P D cl (wf u) H) (hD : va_D A (wf u)) (hS : va_S A s.heap H locs) (hc : cells ≤ mc) (hs : slots ≤ ms) (h : some (some v, u) = some res) (hdg : decode cc pc = .ok (.ireturn, 1)) :
    W p l e R s m args below meth c H locs cells slots (vx_MQ below (va_Qi (fun r1 u1 => res = (some r1, u1)) (gAt D cl tys A wf) A) XC args s mc ms A) (F0 m pc ls [.int v]) := by
  refine W.widen hc hs ?_
  refine vx_ret ?_
  exact W.iret hx hb hr (fun t ht hW => ⟨⟨v, u, rfl, (Option.some.inj h).symm, by rw [ht]; exact hP, va_K.moved hW.alike hK, hD⟩, hS.F ht⟩) hS.2.2 hdg hlocks
theorem q_thr {E : String} (hK : va_K D cl tys s) (hP : va_P D cl (wf u) H) (hD : va_D A (wf u)) (hS : va_S A s.heap H locs) (h : some ((none : Option Int32), u) = some res) : ∀ t : State, s.vm.Alike t.vm → H.size ≤ t.heap.size → (∀ q : Nat, q < H.size → t.heap[q]? = H[q]?) → vx_X (fun u1 => res = ((none : Option Int32), u1)) (fun E1 u1 t => E1 = E ∧ gAt D cl tys A wf u1 t) A E s t := fun t hal hsz hk =>
  ⟨u, (Option.some.inj h).symm, ⟨rfl, hP.kept (fun k q hq => hk q.1 (hP k q hq).lt), va_K.moved hal hK, hD⟩, Nat.le_trans hS.1 hsz, fun q h1 h2 => (hk q (Nat.lt_of_lt_of_le h1 hS.1)).trans (hS.2.1 q h1 h2)⟩
end QT

def wsP2 : List Cond := wsX0_piece2 ++ atI.filter goodWord
def fX0_piece (u : gS) (x1 : Int32) (x2 : Int32) (x3 : Int64) (x4 : Int64) : Option (Option Int32 × gS) :=
  q_b (fX0_isCrossing u x1) fun r1 =>
  if r1 = 0 then
    some (some (-11 : Int32), u)
  else
    q_b (fX0_isCrossing u x2) fun r5 =>
    if r5 = 0 then
      some (some (-11 : Int32), u)
    else
      if x3 < (1 : Int64) then
        some (some (-12 : Int32), u)
      else
        if (10000 : Int64) < x3 then
          some (some (-12 : Int32), u)
        else
          if x4 < (0 : Int64) then
            some (some (-12 : Int32), u)
          else
            if x4 ≤ (1000 : Int64) then
              if (gf u 0) < (120 : Int32) then
                if x4 = (0 : Int64) then
                  some (none, u)
                else
                  if (gf u 0) < 0 ∨ 120 ≤ (gf u 0).toNatClampNeg then none else
                  q_let (si u 0 (upd (gi u 0) (gf u 0).toNatClampNeg x1)) fun u15 =>
                  if (gf u15 0) < 0 ∨ 120 ≤ (gf u15 0).toNatClampNeg then none else
                  q_let (si u15 1 (upd (gi u15 1) (gf u15 0).toNatClampNeg x2)) fun u16 =>
                  if (gf u16 0) < 0 ∨ 120 ≤ (gf u16 0).toNatClampNeg then none else
                  q_let (sl u16 0 (vp_updL (gl u16 0) (gf u16 0).toNatClampNeg x3)) fun u17 =>
                  if (gf u17 0) < 0 ∨ 120 ≤ (gf u17 0).toNatClampNeg then none else
                  q_let (sl u17 1 (vp_updL (gl u17 1) (gf u17 0).toNatClampNeg x4)) fun u18 =>
                  q_let (sf u18 0 ((gf u18 0) + (1 : Int32))) fun u19 =>
                  some (some ((gf u19 0) - (1 : Int32)), u19)
              else
                some (some (-14 : Int32), u)
            else
              some (some (-12 : Int32), u)
theorem hdX0_isCrossing : yX0_isCrossing.cls ≠ "java/lang/invoke/MethodHandle" ∧ yX0_isCrossing.cls ≠ "java/lang/invoke/VarHandle" ∧ (parseMethodDescriptor yX0_isCrossing.desc).map (fun d => d.parameters.length) = some 1 := by decide +kernel
theorem mX0_piece_58 : Cond.constantLong RX0 58 (10000 : Int64) ∈ wsX0_piece := by decide +kernel
theorem mX0_piece_60 : Cond.constantLong RX0 60 (1000 : Int64) ∈ wsX0_piece := by decide +kernel
theorem mX0_piece_62 : Cond.fieldLink RX0 62 "StreetGraph" "pieceCount" "I" ∈ wsX0_piece := by decide +kernel
theorem inX0_piece : ∀ w ∈ wsX00, w ∈ wsX0_piece := by decide +kernel
theorem mX0_piece_9 : Cond.fieldLink RX0 9 "StreetGraph" "begins" "[I" ∈ wsX0_piece := by decide +kernel
theorem mX0_piece_13 : Cond.fieldLink RX0 13 "StreetGraph" "ends" "[I" ∈ wsX0_piece := by decide +kernel
theorem mX0_piece_16 : Cond.fieldLink RX0 16 "StreetGraph" "lengths" "[J" ∈ wsX0_piece := by decide +kernel
theorem mX0_piece_20 : Cond.fieldLink RX0 20 "StreetGraph" "speeds" "[J" ∈ wsX0_piece := by decide +kernel
theorem mk9_piece : Cond.classLink RX0 66 "java/lang/ArithmeticException" ∈ wsX0_piece := by decide +kernel
theorem mi9_piece : Cond.initialized "java/lang/ArithmeticException" ∈ wsX0_piece := by decide +kernel
theorem in9_piece : ∀ w ∈ atA, goodWord w = true → w ∈ wsX0_piece := by decide +kernel
abbrev rmX0_piece : Room := { frames := 6, cells := 1, slots := 6, locals := 120 }
set_option maxHeartbeats 4000000 in
set_option maxRecDepth 100000 in
theorem kX0_piece (l : Launch) (hl0 : l.stackTraces = false) (dC : Nat → ClassId) (dI : Nat → Nat → Nat) (cI cJ cZ : ClassId) (ad : Nat → Nat) (sz : Nat) (u : gS) (x1 : Int32) (x2 : Int32) (x3 : Int64) (x4 : Int64) (res : Option Int32 × gS) (h : fX0_piece u x1 x2 x3 x4 = some res) : vx_Met l yX0_piece wsX0_piece rmX0_piece (va_Pc [.ref (ad 0), .int x1, .int x2, .long x3, .long x4] (fun U => gPre (dC, dI) vwCl (tyS cI cJ cZ) sz (wX0 cI cJ cZ ad u) U ∧ (fun A U => xE atA 68 "a piece's speed is 0" A U) (va_A (wX0 cI cJ cZ ad u) sz) U)) ((fun A => va_Qi (fun r1 u1 => res = (some r1, u1)) (gAt (dC, dI) vwCl (tyS cI cJ cZ) A (wX0 cI cJ cZ ad)) A) (va_A (wX0 cI cJ cZ ad u) sz)) ((fun A => vx_X (fun u1 => res = ((none : Option Int32), u1)) (fun E1 u1 t => E1 = "java/lang/ArithmeticException" ∧ gAt (dC, dI) vwCl (tyS cI cJ cZ) A (wX0 cI cJ cZ ad) u1 t) A) (va_A (wX0 cI cJ cZ ad u) sz)) 1 6 (va_A (wX0 cI cJ cZ ad u) sz) := by
  refine g_ofX (cc := cX0_piece) (maxL := 7) (ret := (some .int)) (wf := wX0 cI cJ cZ ad) (u := u) (Ex := (fun A U => xE atA 68 "a piece's speed is 0" A U)) (Qf := (fun A => va_Qi (fun r1 u1 => res = (some r1, u1)) (gAt (dC, dI) vwCl (tyS cI cJ cZ) A (wX0 cI cJ cZ ad)) A)) (Xf := (fun A => vx_X (fun u1 => res = ((none : Option Int32), u1)) (fun E1 u1 t => E1 = "java/lang/ArithmeticException" ∧ gAt (dC, dI) vwCl (tyS cI cJ cZ) A (wX0 cI cJ cZ ad) u1 t) A)) (by decide) rfl (Nat.le_of_ble_eq_true rfl) ?_
  intro p e s m below meth c A ls C0 hne hK hP hD hA hE hl
  have hS : va_S A s.heap s.heap [] := va_S.rf
  obtain ⟨hx, hb, hml, hown, hts, hr, hlocks⟩ := id C0
  have hl : lv_has ls 7 [(0, .ref ((ad 0))), (1, .int x1), (2, .int x2), (3, .long x3), (5, .long x4)] := hl
  unfold fX0_piece at h
  refine lv_iload_n hx hb dX0_piece_0 rfl (lv_at hl 1 rfl) ?_
  obtain ⟨r1, g3, h⟩ := q_s h
  refine q_Si (rest := []) (As := [.int x1]) ⟨hx, hb, hml, hown, hts⟩ (kX0_isCrossing l dC dI cI cJ cZ ad _ u x1 r1 g3) (va_cwS 1 hts gX0_piece_X0_isCrossing rfl rfl rfl hdX0_isCrossing ⟨Nat.le_of_ble_eq_true rfl, Nat.le_of_ble_eq_true rfl⟩) hK hP hD hS hA rfl hl.1 (Nat.le_of_ble_eq_true rfl) rfl dX0_piece_1 ⟨Nat.zero_le _, Nat.zero_le _⟩ (fun H locs hP hD hS => ?_)
  refine lv_if_eq (tgt := 14) hx hb dX0_piece_4 (by decide) (fun c4 => ?_) (fun c4 => ?_)
  · have h := q_t h c4
    refine lv_bipush (v := (-11 : Int32)) hx hb dX0_piece_14 (by decide) ?_
    exact q_iretX hx hb hr hlocks hK hP hD hS (show 0 ≤ 1 by decide) (show 0 ≤ 6 by decide) h dX0_piece_16
  · have h := q_f h c4
    refine lv_iload_n hx hb dX0_piece_7 rfl (lv_at hl 2 rfl) ?_
    obtain ⟨r5, g7, h⟩ := q_s h
    refine q_Si (rest := []) (As := [.int x2]) ⟨hx, hb, hml, hown, hts⟩ (kX0_isCrossing l dC dI cI cJ cZ ad _ u x2 r5 g7) (va_cwS 1 hts gX0_piece_X0_isCrossing rfl rfl rfl hdX0_isCrossing ⟨Nat.le_of_ble_eq_true rfl, Nat.le_of_ble_eq_true rfl⟩) hK hP hD hS hA rfl hl.1 (Nat.le_of_ble_eq_true rfl) rfl dX0_piece_8 ⟨Nat.zero_le _, Nat.zero_le _⟩ (fun H locs hP hD hS => ?_)
    refine lv_if_ne (tgt := 17) hx hb dX0_piece_11 (by decide) (fun c8 => ?_) (fun c8 => ?_)
    · have h := q_f h c8
      refine lv_lload_n hx hb dX0_piece_17 rfl (lv_at hl 3 rfl) ?_
      refine lv_lconst (v := (1 : Int64)) hx hb dX0_piece_18 (by decide) ?_
      refine q_lc_lt (tgt := 47) hx hb dX0_piece_19 dX0_piece_20 (by decide) (fun c9 => ?_) (fun c9 => ?_)
      · have h := q_t h c9
        refine lv_bipush (v := (-12 : Int32)) hx hb dX0_piece_47 (by decide) ?_
        exact q_iretX hx hb hr hlocks hK hP hD hS (show 0 ≤ 1 by decide) (show 0 ≤ 6 by decide) h dX0_piece_49
      · have h := q_f h c9
        refine lv_lload_n hx hb dX0_piece_23 rfl (lv_at hl 3 rfl) ?_
        refine lv_ldc2 hx hb hown (hts _ mX0_piece_58) dX0_piece_24 ?_
        refine q_lc_gt (tgt := 47) hx hb dX0_piece_27 dX0_piece_28 (by decide) (fun c10 => ?_) (fun c10 => ?_)
        · have h := q_t h c10
          refine lv_bipush (v := (-12 : Int32)) hx hb dX0_piece_47 (by decide) ?_
          exact q_iretX hx hb hr hlocks hK hP hD hS (show 0 ≤ 1 by decide) (show 0 ≤ 6 by decide) h dX0_piece_49
        · have h := q_f h c10
          refine lv_lload hx hb dX0_piece_31 (lv_at hl 4 rfl) ?_
          refine lv_lconst (v := (0 : Int64)) hx hb dX0_piece_33 (by decide) ?_
          refine q_lc_lt (tgt := 47) hx hb dX0_piece_34 dX0_piece_35 (by decide) (fun c11 => ?_) (fun c11 => ?_)
          · have h := q_t h c11
            refine lv_bipush (v := (-12 : Int32)) hx hb dX0_piece_47 (by decide) ?_
            exact q_iretX hx hb hr hlocks hK hP hD hS (show 0 ≤ 1 by decide) (show 0 ≤ 6 by decide) h dX0_piece_49
          · have h := q_f h c11
            refine lv_lload hx hb dX0_piece_38 (lv_at hl 4 rfl) ?_
            refine lv_ldc2 hx hb hown (hts _ mX0_piece_60) dX0_piece_40 ?_
            refine q_lc_le (tgt := 50) hx hb dX0_piece_43 dX0_piece_44 (by decide) (fun c12 => ?_) (fun c12 => ?_)
            · have h := q_t h c12
              refine lv_aload_n hx hb dX0_piece_50 rfl (lv_at hl 0 rfl) ?_
              refine gfX0_pieceCount inX0_piece mX0_piece_62 hx hb hts hown hK hP dX0_piece_51 ?_
              refine lv_bipush (v := (120 : Int32)) hx hb dX0_piece_54 (by decide) ?_
              refine lv_icmp_lt (tgt := 62) hx hb dX0_piece_56 (by decide) (fun c13 => ?_) (fun c13 => ?_)
              · have h := q_t h c13
                refine lv_lload hx hb dX0_piece_62 (lv_at hl 4 rfl) ?_
                refine lv_lconst (v := (0 : Int64)) hx hb dX0_piece_64 (by decide) ?_
                refine q_lc_ne (tgt := 79) hx hb dX0_piece_65 dX0_piece_66 (by decide) (fun c14 => ?_) (fun c14 => ?_)
                · have h := q_f h c14
                  refine lv_aload_n hx hb dX0_piece_79 rfl (lv_at hl 0 rfl) ?_
                  refine gfX0_begins inX0_piece mX0_piece_9 hx hb hts hown hK hP dX0_piece_80 ?_
                  refine lv_aload_n hx hb dX0_piece_83 rfl (lv_at hl 0 rfl) ?_
                  refine gfX0_pieceCount inX0_piece mX0_piece_62 hx hb hts hown hK hP dX0_piece_84 ?_
                  refine lv_iload_n hx hb dX0_piece_87 rfl (lv_at hl 1 rfl) ?_
                  obtain ⟨hin, h⟩ := q_g h
                  obtain ⟨u15, eu15, h⟩ := q_l h
                  refine stX0_begins hx hb hK hP hD hS hin eu15 dX0_piece_88 (fun H locs hP hD hS => ?_)
                  refine lv_aload_n hx hb dX0_piece_89 rfl (lv_at hl 0 rfl) ?_
                  refine gfX0_ends inX0_piece mX0_piece_13 hx hb hts hown hK hP dX0_piece_90 ?_
                  refine lv_aload_n hx hb dX0_piece_93 rfl (lv_at hl 0 rfl) ?_
                  refine gfX0_pieceCount inX0_piece mX0_piece_62 hx hb hts hown hK hP dX0_piece_94 ?_
                  refine lv_iload_n hx hb dX0_piece_97 rfl (lv_at hl 2 rfl) ?_
                  obtain ⟨hin, h⟩ := q_g h
                  obtain ⟨u16, eu16, h⟩ := q_l h
                  refine stX0_ends hx hb hK hP hD hS hin eu16 dX0_piece_98 (fun H locs hP hD hS => ?_)
                  refine lv_aload_n hx hb dX0_piece_99 rfl (lv_at hl 0 rfl) ?_
                  refine gfX0_lengths inX0_piece mX0_piece_16 hx hb hts hown hK hP dX0_piece_100 ?_
                  refine lv_aload_n hx hb dX0_piece_103 rfl (lv_at hl 0 rfl) ?_
                  refine gfX0_pieceCount inX0_piece mX0_piece_62 hx hb hts hown hK hP dX0_piece_104 ?_
                  refine lv_lload_n hx hb dX0_piece_107 rfl (lv_at hl 3 rfl) ?_
                  obtain ⟨hin, h⟩ := q_g h
                  obtain ⟨u17, eu17, h⟩ := q_l h
                  refine stX0_lengths hx hb hK hP hD hS hin eu17 dX0_piece_108 (fun H locs hP hD hS => ?_)
                  refine lv_aload_n hx hb dX0_piece_109 rfl (lv_at hl 0 rfl) ?_
                  refine gfX0_speeds inX0_piece mX0_piece_20 hx hb hts hown hK hP dX0_piece_110 ?_
                  refine lv_aload_n hx hb dX0_piece_113 rfl (lv_at hl 0 rfl) ?_
                  refine gfX0_pieceCount inX0_piece mX0_piece_62 hx hb hts hown hK hP dX0_piece_114 ?_
                  refine lv_lload hx hb dX0_piece_117 (lv_at hl 4 rfl) ?_
                  obtain ⟨hin, h⟩ := q_g h
                  obtain ⟨u18, eu18, h⟩ := q_l h
                  refine stX0_speeds hx hb hK hP hD hS hin eu18 dX0_piece_119 (fun H locs hP hD hS => ?_)
                  refine lv_aload_n hx hb dX0_piece_120 rfl (lv_at hl 0 rfl) ?_
                  refine lv_dup hx hb dX0_piece_121 rfl ?_
                  refine gfX0_pieceCount inX0_piece mX0_piece_62 hx hb hts hown hK hP dX0_piece_122 ?_
                  refine lv_iconst (v := (1 : Int32)) hx hb dX0_piece_125 (by decide) ?_
                  refine lv_iadd hx hb dX0_piece_126 ?_
                  obtain ⟨u19, eu19, h⟩ := q_l h
                  refine pfX0_pieceCount inX0_piece mX0_piece_62 hx hb hts hown hK hP hD hS eu19 dX0_piece_127 (fun H locs hP hD hS => ?_)
                  refine lv_aload_n hx hb dX0_piece_130 rfl (lv_at hl 0 rfl) ?_
                  refine gfX0_pieceCount inX0_piece mX0_piece_62 hx hb hts hown hK hP dX0_piece_131 ?_
                  refine lv_iconst (v := (1 : Int32)) hx hb dX0_piece_134 (by decide) ?_
                  refine lv_isub hx hb dX0_piece_135 ?_
                  exact q_iretX hx hb hr hlocks hK hP hD hS (show 0 ≤ 1 by decide) (show 0 ≤ 6 by decide) h dX0_piece_136
                · have h := q_t h c14
                  obtain ⟨-, ⟨sa, hstr⟩, hU, hN⟩ := id hE
                  exact vx_throwS (cls := "java/lang/ArithmeticException") (names := ["java/lang/RuntimeException", "java/lang/Exception"]) (rest := []) hx hb hl0 hown (by decide) (by decide) (hts _ mk9_piece) (hts _ mi9_piece) hstr (xE.hat hE atA_k in9_piece hts) atA_g hU hN hS (hl.1.trans hml.symm) dX0_piece_69 dX0_piece_72 dX0_piece_73 dX0_piece_75 dX0_piece_78 (fun x hx => (hne x hx).elim) (show 5 < 6 by decide) (show 82 ≤ 120 by decide) (show 1 ≤ 1 by decide) (show 6 ≤ 6 by decide) hlocks (q_thr hK hP hD hS h) hS.2.2 (show 1 ≤ 1 by decide) (show 6 ≤ 6 by decide)
              · have h := q_f h c13
                refine lv_bipush (v := (-14 : Int32)) hx hb dX0_piece_59 (by decide) ?_
                exact q_iretX hx hb hr hlocks hK hP hD hS (show 0 ≤ 1 by decide) (show 0 ≤ 6 by decide) h dX0_piece_61
            · have h := q_f h c12
              refine lv_bipush (v := (-12 : Int32)) hx hb dX0_piece_47 (by decide) ?_
              exact q_iretX hx hb hr hlocks hK hP hD hS (show 0 ≤ 1 by decide) (show 0 ≤ 6 by decide) h dX0_piece_49
    · have h := q_t h c8
      refine lv_bipush (v := (-11 : Int32)) hx hb dX0_piece_14 (by decide) ?_
      exact q_iretX hx hb hr hlocks hK hP hD hS (show 0 ≤ 1 by decide) (show 0 ≤ 6 by decide) h dX0_piece_16
def fX0_piece2 (u : gS) (x1 : Int32) : Option (Option Int32 × gS) :=
  q_b (fX0_isPiece u x1) fun r1 =>
  if r1 = 0 then
    some (none, u)
  else
    if x1 < 0 ∨ 120 ≤ x1.toNatClampNeg then none else
    if x1 < 0 ∨ 120 ≤ x1.toNatClampNeg then none else
    some (some (((60 : Int32) * (gi u 0 x1.toNatClampNeg)) + (gi u 1 x1.toNatClampNeg)), u)
theorem mX0_piece2_9 : Cond.fieldLink RX0 9 "StreetGraph" "begins" "[I" ∈ wsP2 := by decide +kernel
theorem inX0_piece2 : ∀ w ∈ wsX00, w ∈ wsP2 := by decide +kernel
theorem mX0_piece2_13 : Cond.fieldLink RX0 13 "StreetGraph" "ends" "[I" ∈ wsP2 := by decide +kernel
theorem mk9_piece2 : Cond.classLink RX0 118 "java/lang/ArrayIndexOutOfBoundsException" ∈ wsP2 := by decide +kernel
theorem mi9_piece2 : Cond.initialized "java/lang/ArrayIndexOutOfBoundsException" ∈ wsP2 := by decide +kernel
theorem in9_piece2 : ∀ w ∈ atI, goodWord w = true → w ∈ wsP2 := by decide +kernel
abbrev rmX0_piece2 : Room := { frames := 7, cells := 1, slots := 6, locals := 120 }
theorem gP2_isPiece : GoodIn wsP2 (wsV RX0 73 RX0 yX0_isPiece wsX0_isPiece) := fun w h => ⟨List.mem_append_left _ (gX0_piece2_X0_isPiece w h).1, (gX0_piece2_X0_isPiece w h).2⟩
set_option maxHeartbeats 4000000 in
set_option maxRecDepth 100000 in
theorem kX0_piece2 (l : Launch) (hl0 : l.stackTraces = false) (dC : Nat → ClassId) (dI : Nat → Nat → Nat) (cI cJ cZ : ClassId) (ad : Nat → Nat) (sz : Nat) (u : gS) (x1 : Int32) (res : Option Int32 × gS) (h : fX0_piece2 u x1 = some res) : vx_Met l yX0_piece2 wsP2 rmX0_piece2 (va_Pc [.ref (ad 0), .int x1] (fun U => gPre (dC, dI) vwCl (tyS cI cJ cZ) sz (wX0 cI cJ cZ ad u) U ∧ (fun A U => xE atI 120 "there is no such piece" A U) (va_A (wX0 cI cJ cZ ad u) sz) U)) ((fun A => va_Qi (fun r1 u1 => res = (some r1, u1)) (gAt (dC, dI) vwCl (tyS cI cJ cZ) A (wX0 cI cJ cZ ad)) A) (va_A (wX0 cI cJ cZ ad u) sz)) ((fun A => vx_X (fun u1 => res = ((none : Option Int32), u1)) (fun E1 u1 t => E1 = "java/lang/ArrayIndexOutOfBoundsException" ∧ gAt (dC, dI) vwCl (tyS cI cJ cZ) A (wX0 cI cJ cZ ad) u1 t) A) (va_A (wX0 cI cJ cZ ad u) sz)) 1 6 (va_A (wX0 cI cJ cZ ad u) sz) := by
  refine g_ofX (cc := cX0_piece2) (maxL := 2) (ret := (some .int)) (wf := wX0 cI cJ cZ ad) (u := u) (Ex := (fun A U => xE atI 120 "there is no such piece" A U)) (Qf := (fun A => va_Qi (fun r1 u1 => res = (some r1, u1)) (gAt (dC, dI) vwCl (tyS cI cJ cZ) A (wX0 cI cJ cZ ad)) A)) (Xf := (fun A => vx_X (fun u1 => res = ((none : Option Int32), u1)) (fun E1 u1 t => E1 = "java/lang/ArrayIndexOutOfBoundsException" ∧ gAt (dC, dI) vwCl (tyS cI cJ cZ) A (wX0 cI cJ cZ ad) u1 t) A)) (by decide) rfl (Nat.le_of_ble_eq_true rfl) ?_
  intro p e s m below meth c A ls C0 hne hK hP hD hA hE hl
  have hS : va_S A s.heap s.heap [] := va_S.rf
  obtain ⟨hx, hb, hml, hown, hts, hr, hlocks⟩ := id C0
  have hl : lv_has ls 2 [(0, .ref ((ad 0))), (1, .int x1)] := hl
  unfold fX0_piece2 at h
  refine lv_aload_n hx hb dX0_piece2_0 rfl (lv_at hl 0 rfl) ?_
  refine lv_iload_n hx hb dX0_piece2_1 rfl (lv_at hl 1 rfl) ?_
  obtain ⟨r1, g3, h⟩ := q_s h
  refine q_Vi (rest := []) (As := [.int x1]) ⟨hx, hb, hml, hown, hts⟩ (kX0_isPiece l dC dI cI cJ cZ ad _ u x1 r1 g3) (cwV 1 hts gP2_isPiece rfl rfl rfl hdX0_isPiece ⟨Nat.le_of_ble_eq_true rfl, Nat.le_of_ble_eq_true rfl⟩) (rvX0 hK hP) hK hP hD hS hA rfl hl.1 (Nat.le_of_ble_eq_true rfl) rfl dX0_piece2_2 ⟨Nat.zero_le _, Nat.zero_le _⟩ (fun H locs hP hD hS => ?_)
  refine lv_if_ne (tgt := 18) hx hb dX0_piece2_5 (by decide) (fun c4 => ?_) (fun c4 => ?_)
  · have h := q_f h c4
    refine lv_bipush (v := (60 : Int32)) hx hb dX0_piece2_18 (by decide) ?_
    refine lv_aload_n hx hb dX0_piece2_20 rfl (lv_at hl 0 rfl) ?_
    refine gfX0_begins inX0_piece2 mX0_piece2_9 hx hb hts hown hK hP dX0_piece2_21 ?_
    refine lv_iload_n hx hb dX0_piece2_24 rfl (lv_at hl 1 rfl) ?_
    obtain ⟨hin, h⟩ := q_g h
    refine ldX0_begins hx hb hK hP hin dX0_piece2_25 ?_
    refine lv_imul hx hb dX0_piece2_26 ?_
    refine lv_aload_n hx hb dX0_piece2_27 rfl (lv_at hl 0 rfl) ?_
    refine gfX0_ends inX0_piece2 mX0_piece2_13 hx hb hts hown hK hP dX0_piece2_28 ?_
    refine lv_iload_n hx hb dX0_piece2_31 rfl (lv_at hl 1 rfl) ?_
    obtain ⟨hin, h⟩ := q_g h
    refine ldX0_ends hx hb hK hP hin dX0_piece2_32 ?_
    refine lv_iadd hx hb dX0_piece2_33 ?_
    exact q_iretX hx hb hr hlocks hK hP hD hS (show 0 ≤ 1 by decide) (show 0 ≤ 6 by decide) h dX0_piece2_34
  · have h := q_t h c4
    obtain ⟨-, ⟨sa, hstr⟩, hU, hN⟩ := id hE
    exact vx_throwS (cls := "java/lang/ArrayIndexOutOfBoundsException") (names := ["java/lang/IndexOutOfBoundsException", "java/lang/RuntimeException", "java/lang/Exception"]) (rest := []) hx hb hl0 hown (by decide) (by decide) (hts _ mk9_piece2) (hts _ mi9_piece2) hstr (xE.hat hE atI_k in9_piece2 hts) atI_g hU hN hS (hl.1.trans hml.symm) dX0_piece2_8 dX0_piece2_11 dX0_piece2_12 dX0_piece2_14 dX0_piece2_17 (fun x hx => (hne x hx).elim) (show 6 < 7 by decide) (show 95 ≤ 120 by decide) (show 1 ≤ 1 by decide) (show 6 ≤ 6 by decide) hlocks (q_thr hK hP hD hS h) hS.2.2 (show 1 ≤ 1 by decide) (show 6 ≤ 6 by decide)
