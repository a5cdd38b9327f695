section
-- ===== PART A: goes FIRST, ahead of the names: the tables' words, and 'selects' of the private methods out of them =====
/-- a private method of a class that the tables say can be made, by its rows of tables_1 -/
def lw_okq (q : MethodName × Nat) : Prop := (q.1.cls ≠ "java/lang/invoke/MethodHandle" ∧ q.1.cls ≠ "java/lang/invoke/VarHandle") ∧ Cond.instantiable q.1.cls q.2 ∈ tables_1 ∧ Cond.privateMethod q.1 ∈ tables_1 ∧ Cond.instanceMethod q.1 ∈ tables_1
theorem lw_p0 : lw_okq (⟨"StreetGraph", "isPiece", "(I)Z"⟩, 18) := ⟨⟨by decide +kernel, by decide +kernel⟩, List.mem_of_getElem? (i := 11) (by decide +kernel), List.mem_of_getElem? (i := 81) (by decide +kernel), List.mem_of_getElem? (i := 82) (by decide +kernel)⟩
theorem lw_p1 : lw_okq (⟨"StreetGraph", "isBarred", "(II)Z"⟩, 18) := ⟨⟨by decide +kernel, by decide +kernel⟩, List.mem_of_getElem? (i := 11) (by decide +kernel), List.mem_of_getElem? (i := 85) (by decide +kernel), List.mem_of_getElem? (i := 86) (by decide +kernel)⟩
theorem lw_p2 : lw_okq (⟨"StreetGraph", "isStop", "(I)Z"⟩, 18) := ⟨⟨by decide +kernel, by decide +kernel⟩, List.mem_of_getElem? (i := 11) (by decide +kernel), List.mem_of_getElem? (i := 103) (by decide +kernel), List.mem_of_getElem? (i := 104) (by decide +kernel)⟩
theorem lw_p3 : lw_okq (⟨"StreetGraph", "leastArrival", "(IIJ)J"⟩, 18) := ⟨⟨by decide +kernel, by decide +kernel⟩, List.mem_of_getElem? (i := 11) (by decide +kernel), List.mem_of_getElem? (i := 110) (by decide +kernel), List.mem_of_getElem? (i := 111) (by decide +kernel)⟩
theorem lw_p4 : lw_okq (⟨"StreetGraph", "secondsAcross", "(I)J"⟩, 18) := ⟨⟨by decide +kernel, by decide +kernel⟩, List.mem_of_getElem? (i := 11) (by decide +kernel), List.mem_of_getElem? (i := 114) (by decide +kernel), List.mem_of_getElem? (i := 115) (by decide +kernel)⟩
theorem lw_p5 : lw_okq (⟨"StreetGraph", "isStraightOn", "(II)Z"⟩, 18) := ⟨⟨by decide +kernel, by decide +kernel⟩, List.mem_of_getElem? (i := 11) (by decide +kernel), List.mem_of_getElem? (i := 119) (by decide +kernel), List.mem_of_getElem? (i := 120) (by decide +kernel)⟩
theorem lw_p6 : lw_okq (⟨"StreetGraph", "secondsFor", "(IJ)J"⟩, 18) := ⟨⟨by decide +kernel, by decide +kernel⟩, List.mem_of_getElem? (i := 11) (by decide +kernel), List.mem_of_getElem? (i := 123) (by decide +kernel), List.mem_of_getElem? (i := 124) (by decide +kernel)⟩
theorem lw_p7 : lw_okq (⟨"StreetGraph", "findLeastTimes", "(IJI)V"⟩, 18) := ⟨⟨by decide +kernel, by decide +kernel⟩, List.mem_of_getElem? (i := 11) (by decide +kernel), List.mem_of_getElem? (i := 131) (by decide +kernel), List.mem_of_getElem? (i := 132) (by decide +kernel)⟩
theorem lw_p8 : lw_okq (⟨"StreetGraph", "forgetLeastTimes", "()V"⟩, 18) := ⟨⟨by decide +kernel, by decide +kernel⟩, List.mem_of_getElem? (i := 11) (by decide +kernel), List.mem_of_getElem? (i := 135) (by decide +kernel), List.mem_of_getElem? (i := 136) (by decide +kernel)⟩
theorem lw_p9 : lw_okq (⟨"StreetGraph", "earliestUnsettled", "()I"⟩, 18) := ⟨⟨by decide +kernel, by decide +kernel⟩, List.mem_of_getElem? (i := 11) (by decide +kernel), List.mem_of_getElem? (i := 140) (by decide +kernel), List.mem_of_getElem? (i := 141) (by decide +kernel)⟩
theorem lw_p10 : lw_okq (⟨"StreetGraph", "goOnFrom", "(I)V"⟩, 18) := ⟨⟨by decide +kernel, by decide +kernel⟩, List.mem_of_getElem? (i := 11) (by decide +kernel), List.mem_of_getElem? (i := 144) (by decide +kernel), List.mem_of_getElem? (i := 145) (by decide +kernel)⟩
theorem lw_p11 : lw_okq (⟨"StreetGraph", "mayGoOn", "(II)Z"⟩, 18) := ⟨⟨by decide +kernel, by decide +kernel⟩, List.mem_of_getElem? (i := 11) (by decide +kernel), List.mem_of_getElem? (i := 148) (by decide +kernel), List.mem_of_getElem? (i := 149) (by decide +kernel)⟩
theorem lw_p12 : lw_okq (⟨"StreetGraph", "entryAtOrAfter", "(IJ)J"⟩, 18) := ⟨⟨by decide +kernel, by decide +kernel⟩, List.mem_of_getElem? (i := 11) (by decide +kernel), List.mem_of_getElem? (i := 152) (by decide +kernel), List.mem_of_getElem? (i := 153) (by decide +kernel)⟩
theorem lw_p13 : lw_okq (⟨"StreetGraph", "hasGate", "(I)Z"⟩, 18) := ⟨⟨by decide +kernel, by decide +kernel⟩, List.mem_of_getElem? (i := 11) (by decide +kernel), List.mem_of_getElem? (i := 156) (by decide +kernel), List.mem_of_getElem? (i := 157) (by decide +kernel)⟩
theorem lw_p14 : lw_okq (⟨"StreetGraph", "keepSteps", "(II)V"⟩, 18) := ⟨⟨by decide +kernel, by decide +kernel⟩, List.mem_of_getElem? (i := 11) (by decide +kernel), List.mem_of_getElem? (i := 165) (by decide +kernel), List.mem_of_getElem? (i := 166) (by decide +kernel)⟩
theorem lw_p15 : lw_okq (⟨"StreetGraph", "pieceBefore", "(I)I"⟩, 18) := ⟨⟨by decide +kernel, by decide +kernel⟩, List.mem_of_getElem? (i := 11) (by decide +kernel), List.mem_of_getElem? (i := 169) (by decide +kernel), List.mem_of_getElem? (i := 170) (by decide +kernel)⟩
def lw_privs_1 : List (MethodName × Nat) := [(⟨"StreetGraph", "isPiece", "(I)Z"⟩, 18), (⟨"StreetGraph", "isBarred", "(II)Z"⟩, 18), (⟨"StreetGraph", "isStop", "(I)Z"⟩, 18), (⟨"StreetGraph", "leastArrival", "(IIJ)J"⟩, 18), (⟨"StreetGraph", "secondsAcross", "(I)J"⟩, 18), (⟨"StreetGraph", "isStraightOn", "(II)Z"⟩, 18), (⟨"StreetGraph", "secondsFor", "(IJ)J"⟩, 18), (⟨"StreetGraph", "findLeastTimes", "(IJI)V"⟩, 18), (⟨"StreetGraph", "forgetLeastTimes", "()V"⟩, 18), (⟨"StreetGraph", "earliestUnsettled", "()I"⟩, 18), (⟨"StreetGraph", "goOnFrom", "(I)V"⟩, 18), (⟨"StreetGraph", "mayGoOn", "(II)Z"⟩, 18), (⟨"StreetGraph", "entryAtOrAfter", "(IJ)J"⟩, 18), (⟨"StreetGraph", "hasGate", "(I)Z"⟩, 18), (⟨"StreetGraph", "keepSteps", "(II)V"⟩, 18), (⟨"StreetGraph", "pieceBefore", "(I)I"⟩, 18)]
theorem lw_r1 : ∀ q ∈ lw_privs_1, lw_okq q := List.forall_mem_cons.mpr ⟨lw_p0, List.forall_mem_cons.mpr ⟨lw_p1, List.forall_mem_cons.mpr ⟨lw_p2, List.forall_mem_cons.mpr ⟨lw_p3, List.forall_mem_cons.mpr ⟨lw_p4, List.forall_mem_cons.mpr ⟨lw_p5, List.forall_mem_cons.mpr ⟨lw_p6, List.forall_mem_cons.mpr ⟨lw_p7, List.forall_mem_cons.mpr ⟨lw_p8, List.forall_mem_cons.mpr ⟨lw_p9, List.forall_mem_cons.mpr ⟨lw_p10, List.forall_mem_cons.mpr ⟨lw_p11, List.forall_mem_cons.mpr ⟨lw_p12, List.forall_mem_cons.mpr ⟨lw_p13, List.forall_mem_cons.mpr ⟨lw_p14, List.forall_mem_cons.mpr ⟨lw_p15, fun _ h => absurd h List.not_mem_nil⟩⟩⟩⟩⟩⟩⟩⟩⟩⟩⟩⟩⟩⟩⟩⟩
theorem lw_p16 : lw_okq (⟨"StreetGraph", "hasStopAtSide", "(II)Z"⟩, 18) := ⟨⟨by decide +kernel, by decide +kernel⟩, List.mem_of_getElem? (i := 11) (by decide +kernel), List.mem_of_getElem? (i := 194) (by decide +kernel), List.mem_of_getElem? (i := 195) (by decide +kernel)⟩
theorem lw_p17 : lw_okq (⟨"StreetGraph", "mayGoOnFrom", "(I)Z"⟩, 18) := ⟨⟨by decide +kernel, by decide +kernel⟩, List.mem_of_getElem? (i := 11) (by decide +kernel), List.mem_of_getElem? (i := 198) (by decide +kernel), List.mem_of_getElem? (i := 199) (by decide +kernel)⟩
theorem lw_p18 : lw_okq (⟨"java/lang/Throwable", "fillInStackTrace", "(I)Ljava/lang/Throwable;"⟩, 6) := ⟨⟨by decide +kernel, by decide +kernel⟩, List.mem_of_getElem? (i := 251) (by decide +kernel), List.mem_of_getElem? (i := 249) (by decide +kernel), List.mem_of_getElem? (i := 250) (by decide +kernel)⟩
theorem lw_p19 : lw_okq (⟨"StreetGraphModel", "isPiece", "(I)Z"⟩, 17) := ⟨⟨by decide +kernel, by decide +kernel⟩, List.mem_of_getElem? (i := 310) (by decide +kernel), List.mem_of_getElem? (i := 386) (by decide +kernel), List.mem_of_getElem? (i := 387) (by decide +kernel)⟩
theorem lw_p20 : lw_okq (⟨"StreetGraphModel", "isStop", "(I)Z"⟩, 17) := ⟨⟨by decide +kernel, by decide +kernel⟩, List.mem_of_getElem? (i := 310) (by decide +kernel), List.mem_of_getElem? (i := 411) (by decide +kernel), List.mem_of_getElem? (i := 412) (by decide +kernel)⟩
theorem lw_p21 : lw_okq (⟨"StreetGraphModel", "reach", "(IJ)V"⟩, 17) := ⟨⟨by decide +kernel, by decide +kernel⟩, List.mem_of_getElem? (i := 310) (by decide +kernel), List.mem_of_getElem? (i := 418) (by decide +kernel), List.mem_of_getElem? (i := 419) (by decide +kernel)⟩
theorem lw_p22 : lw_okq (⟨"StreetGraphModel", "rest", "(IJ)J"⟩, 17) := ⟨⟨by decide +kernel, by decide +kernel⟩, List.mem_of_getElem? (i := 310) (by decide +kernel), List.mem_of_getElem? (i := 423) (by decide +kernel), List.mem_of_getElem? (i := 424) (by decide +kernel)⟩
theorem lw_p23 : lw_okq (⟨"StreetGraphModel", "crossing", "(I)J"⟩, 17) := ⟨⟨by decide +kernel, by decide +kernel⟩, List.mem_of_getElem? (i := 310) (by decide +kernel), List.mem_of_getElem? (i := 427) (by decide +kernel), List.mem_of_getElem? (i := 428) (by decide +kernel)⟩
theorem lw_p24 : lw_okq (⟨"StreetGraphModel", "seconds", "(IJ)J"⟩, 17) := ⟨⟨by decide +kernel, by decide +kernel⟩, List.mem_of_getElem? (i := 310) (by decide +kernel), List.mem_of_getElem? (i := 432) (by decide +kernel), List.mem_of_getElem? (i := 433) (by decide +kernel)⟩
theorem lw_p25 : lw_okq (⟨"StreetGraphModel", "leads", "(II)Z"⟩, 17) := ⟨⟨by decide +kernel, by decide +kernel⟩, List.mem_of_getElem? (i := 310) (by decide +kernel), List.mem_of_getElem? (i := 437) (by decide +kernel), List.mem_of_getElem? (i := 438) (by decide +kernel)⟩
theorem lw_p26 : lw_okq (⟨"StreetGraphModel", "entry", "(IJ)J"⟩, 17) := ⟨⟨by decide +kernel, by decide +kernel⟩, List.mem_of_getElem? (i := 310) (by decide +kernel), List.mem_of_getElem? (i := 441) (by decide +kernel), List.mem_of_getElem? (i := 442) (by decide +kernel)⟩
theorem lw_p27 : lw_okq (⟨"StreetGraphModel", "straight", "(IIJ)J"⟩, 17) := ⟨⟨by decide +kernel, by decide +kernel⟩, List.mem_of_getElem? (i := 310) (by decide +kernel), List.mem_of_getElem? (i := 445) (by decide +kernel), List.mem_of_getElem? (i := 446) (by decide +kernel)⟩
theorem lw_p28 : lw_okq (⟨"StreetGraphModel", "around", "(I)J"⟩, 17) := ⟨⟨by decide +kernel, by decide +kernel⟩, List.mem_of_getElem? (i := 310) (by decide +kernel), List.mem_of_getElem? (i := 449) (by decide +kernel), List.mem_of_getElem? (i := 450) (by decide +kernel)⟩
theorem lw_p29 : lw_okq (⟨"StreetGraphModel", "before", "(I)I"⟩, 17) := ⟨⟨by decide +kernel, by decide +kernel⟩, List.mem_of_getElem? (i := 310) (by decide +kernel), List.mem_of_getElem? (i := 454) (by decide +kernel), List.mem_of_getElem? (i := 455) (by decide +kernel)⟩
def lw_privs_2 : List (MethodName × Nat) := [(⟨"StreetGraph", "hasStopAtSide", "(II)Z"⟩, 18), (⟨"StreetGraph", "mayGoOnFrom", "(I)Z"⟩, 18), (⟨"java/lang/Throwable", "fillInStackTrace", "(I)Ljava/lang/Throwable;"⟩, 6), (⟨"StreetGraphModel", "isPiece", "(I)Z"⟩, 17), (⟨"StreetGraphModel", "isStop", "(I)Z"⟩, 17), (⟨"StreetGraphModel", "reach", "(IJ)V"⟩, 17), (⟨"StreetGraphModel", "rest", "(IJ)J"⟩, 17), (⟨"StreetGraphModel", "crossing", "(I)J"⟩, 17), (⟨"StreetGraphModel", "seconds", "(IJ)J"⟩, 17), (⟨"StreetGraphModel", "leads", "(II)Z"⟩, 17), (⟨"StreetGraphModel", "entry", "(IJ)J"⟩, 17), (⟨"StreetGraphModel", "straight", "(IIJ)J"⟩, 17), (⟨"StreetGraphModel", "around", "(I)J"⟩, 17), (⟨"StreetGraphModel", "before", "(I)I"⟩, 17)]
theorem lw_r2 : ∀ q ∈ lw_privs_2, lw_okq q := List.forall_mem_cons.mpr ⟨lw_p16, List.forall_mem_cons.mpr ⟨lw_p17, List.forall_mem_cons.mpr ⟨lw_p18, List.forall_mem_cons.mpr ⟨lw_p19, List.forall_mem_cons.mpr ⟨lw_p20, List.forall_mem_cons.mpr ⟨lw_p21, List.forall_mem_cons.mpr ⟨lw_p22, List.forall_mem_cons.mpr ⟨lw_p23, List.forall_mem_cons.mpr ⟨lw_p24, List.forall_mem_cons.mpr ⟨lw_p25, List.forall_mem_cons.mpr ⟨lw_p26, List.forall_mem_cons.mpr ⟨lw_p27, List.forall_mem_cons.mpr ⟨lw_p28, List.forall_mem_cons.mpr ⟨lw_p29, fun _ h => absurd h List.not_mem_nil⟩⟩⟩⟩⟩⟩⟩⟩⟩⟩⟩⟩⟩⟩
def lw_privs : List (MethodName × Nat) := lw_privs_1 ++ (lw_privs_2)
def lw_tbl : List Cond := k2_sels lw_privs ++ tables_1
theorem lw_privs_ok : ∀ q ∈ lw_privs, lw_okq q := by
  show ∀ q ∈ lw_privs_1 ++ (lw_privs_2), lw_okq q
  exact List.forall_mem_append.mpr ⟨lw_r1, lw_r2⟩
-- ===== end of PART A; then your names; then what follows =====
end
section
/-! ===== BEGIN words of one list among another's, by their places ===== -/
theorem goodIn_r {big : List Cond} (ws : List Cond) (ps : List Nat) (hp : ws = ps.filterMap (fun i => big[i]?)) (h : ws.all goodWord = true) : GoodIn big ws := by
  intro w hw
  have h1 := List.all_eq_true.mp h w hw
  rw [hp] at hw
  obtain ⟨i, -, hi⟩ := List.mem_filterMap.mp hw
  have hm : w ∈ big := by first | exact List.mem_of_getElem? hi | exact List.getElem?_mem hi
  exact ⟨hm, good_of_word h1⟩
theorem goodIn_app {big a b : List Cond} (ha : GoodIn big a) (hb : GoodIn big b) : GoodIn big (a ++ b) := fun w h => (List.mem_append.mp h).elim (ha w) (hb w)
theorem goodIn_ca {big a b : List Cond} {c : Cond} (ha : GoodIn big (c :: a)) (hb : GoodIn big b) : GoodIn big (c :: (a ++ b)) := fun w h => (List.mem_cons.mp h).elim (fun e => ha w (List.mem_cons.mpr (Or.inl e))) (fun h => (List.mem_append.mp h).elim (fun h => ha w (List.mem_cons.mpr (Or.inr h))) (hb w))
theorem goodIn_sub {big ws : List Cond} (hm : ∀ w ∈ ws, w ∈ big) (h : ws.all goodWord = true) : GoodIn big ws := fun w hw => ⟨hm w hw, good_of_word (List.all_eq_true.mp h w hw)⟩
/-! ===== END ===== -/

/-! ===== BEGIN exceptions that leave a method, and their catching by the caller (launches without stack traces) ===== -/
section VXA
/-! The laws vx_back, vx_callV, vx_callS, vx_callSW, vx_throw0, vx_throwS follow proofs of the library, with one case more: JvmDerived/Free/Laws.lean (Back.of_free), Shelf42/LK1.lean (callV, callS), Shelf/KitTraced.lean (throwNew0V, throwNewS). -/
/-- where a method has thrown q: the class by its name, the cell, what was written, the world -/
def vx_T (XC : String → State → State → Prop) (st : State) (q : Addr) (t : State) (mc ms : Nat) (free : Addr → Prop) : Prop :=
  ∃ (E : String) (ce : Cell) (L : List Loc), XC E st t ∧ t.heap[q]? = some ce ∧ ce.vm = .none ∧ st.vm.findClass E = some ce.cls ∧ st.WarmedH t.vm ∧ st.sameButNew ({ t with vm := st.vm } : State) L mc ms ∧ ∀ z ∈ L, free z.base
def vx_Q (Qc : Array Value → State → Outcome → State → Prop) (XC : String → State → State → Prop) (mc ms : Nat) (free : Addr → Prop) : Array Value → State → Outcome → State → Prop := fun a st o t =>
  (Qc a st o t ∧ ∃ L, FrameEnd st o t L mc ms ∧ ∀ q ∈ L, free q.base) ∨ ∃ q, o = .threw q ∧ vx_T XC st q t mc ms free
/-- a callee that returns or throws -/
def vx_Met (l : Launch) (y : MethodName) (ws : List Cond) (rm : Room) (Pc : Array Value → State → Prop) (Qc : Array Value → State → Outcome → State → Prop) (XC : String → State → State → Prop) (mc ms : Nat) (free : Addr → Prop) : Prop :=
  MetFree l y (headSpec ws rm) Pc (fun _ _ _ _ _ => True) (vx_Q Qc XC mc ms free)
def vx_Post (XC : String → State → State → Prop) (mc ms : Nat) (free : Addr → Prop) : Pt → Array Value → Addr → Pt → Prop := fun A a q B =>
  ∃ (g : JFrame) (mk : MethodId) (t : State) (L : List Loc) (E : String) (ce : Cell), B.U.heap = t.heap ∧ B.U.vm = t.vm ∧ XC E (A.U.calling g mk a) t ∧ t.heap[q]? = some ce ∧ ce.vm = .none ∧ A.U.vm.findClass E = some ce.cls ∧ B.locs = A.locs ++ L ∧ (∀ z ∈ L, free z.base) ∧ B.cells = A.cells + mc ∧ B.slots = A.slots + ms
def vx_Back (l : Launch) (R : Room) (p : Program) (e : Env) (below : List Frame) (s : State) (sargs : Array Value) (y : MethodName) (len W9 : Nat)
    (Pre : Pt → Array Value → Prop) (Post : Pt → Array Value → Option Value → Pt → Prop) (PostX : Pt → Array Value → Addr → Pt → Prop) : Prop :=
  ∀ (m : MethodId) (meth : Method) (c : Code) (A : Pt) (g : JFrame) (ig : Instr) (mk : MethodId) (a : Array Value),
    Stand p l e R s m sargs below meth c A.U A.locs A.cells A.slots → g.method = m → g.locals.size = c.maxLocals → decode c.code g.pc = .ok (ig, len) →
    2 * g.monitorRoom + (g.stack.map fun v => v.category).sum ≤ W9 → A.U.methodNamed? y = some mk → Pre A a →
    (∃ (v : Option Value) (B : Pt), Stand p l e R s m sargs below meth c B.U B.locs B.cells B.slots ∧ Post A a v B ∧
      Steps p.tables e below (doInvoke e (A.U.setTop g) [] mk a).1 (B.U.setTop { g with pc := g.pc + len, stack := v.toList ++ g.stack })) ∨
    (∃ (q : Addr) (B : Pt), Stand p l e R s m sargs below meth c B.U B.locs B.cells B.slots ∧ PostX A a q B ∧
      Steps p.tables e below (doInvoke e (A.U.setTop g) [] mk a).1 ((B.U.setTop g).pushFrame (.throwing q)))
section Payer
variable {l : Launch} {R : Room} {p : Program} {e : Env} {below : List Frame} {s : State} {sargs : Array Value} {y : MethodName} {len W9 : Nat}
theorem vx_back {ws : List Cond} {rm : Room} {Pc : Array Value → State → Prop} {Qc : Array Value → State → Outcome → State → Prop} {XC : String → State → State → Prop} {mc ms : Nat} {free : Addr → Prop} {bytes : ByteArray} {maxL : Nat} {ret : Option FieldType}
    (hM : vx_Met l y ws rm Pc Qc XC mc ms free) (hblind : FrameBlind Pc) (hrc : rm.cells = mc) (hrs : rm.slots = ms)
    (hframes : rm.frames + 1 ≤ R.frames) (hlocals : W9 + (maxL + 11) + rm.locals ≤ R.locals)
    (hws : ∀ w ∈ ws, ∀ a' U, s.WarmedH U.vm → w.before a' U = true) (hcode : Cond.code y bytes maxL ret ∈ ws) (hinit : ∀ a' U, s.WarmedH U.vm → (Cond.initialized y.cls).before a' U = true) :
    vx_Back l R p e below s sargs y len W9 (PreOf R mc ms Pc) (PostOf Qc mc ms free) (vx_Post XC mc ms free) := by
  intro m meth c A g ig mk a X hg hsize hdg hW hn hp
  have h1 : (headSpec ws rm).pre.before a A.U = true := atoms_intro fun w hw => hws w hw _ _ X.warmed
  have h2 : (Cond.code y bytes maxL ret).before a A.U = true := hws _ hcode _ _ X.warmed
  have h3 : (Cond.initialized y.cls).before a A.U = true := hinit _ _ X.warmed
  have h4 : A.cells + (headSpec ws rm).room.cells ≤ R.cells := by rw [show (headSpec ws rm).room.cells = mc from hrc]; exact hp.1
  have h5 : A.slots + (headSpec ws rm).room.slots ≤ R.slots := by rw [show (headSpec ws rm).room.slots = ms from hrs]; exact hp.2.1
  have hPc : Pc a (A.U.calling g mk a) := hblind _ _ _ _ hp.2.2
  obtain ⟨U, Ls, c0, s0⟩ := A
  dsimp only [Pt.U, Pt.locs, Pt.cells, Pt.slots] at h1 h2 h3 h4 h5 X hn hPc ⊢
  obtain ⟨methY, cY, hmY, hcY, -, hlY, -, -, -, -⟩ := Cond.code_spec hn h2
  obtain ⟨kY, hkY, -⟩ := className_of_methodNamed hn
  have hinitY : kY.init = .initialized := Cond.initialized_spec (findClass_of_methodNamed hn) hkY h3
  have h : At U g.method c below := by rw [hg]; exact X.here
  have hlocals9 : W9 + (maxL + 11) + (headSpec ws rm).room.locals ≤ R.locals := hlocals
  have happ : (headSpec ws rm).appliesLoose y e.platform (U.calling g mk a) = true :=
    Spec.appliesLoose_calling (g := g) h hdg hn hkY hinitY
      (X.room_calling (g := g) (R' := (headSpec ws rm).room) hsize hmY hcY hframes (by rw [hlY]; omega) h4 h5) h1
  obtain ⟨mid, hmid⟩ := h.above
  have hfr : (U.setTop g).frames = (.java g :: mid) ++ below := by rw [State.frames_setTop' g h.top, hmid]; rfl
  obtain ⟨o, s₂, hsteps, -, hend, hq⟩ := Steps.callFree hM p X.admits X.cas X.clock (acts := []) hfr happ hPc trivial
  have hq' : vx_Q Qc XC mc ms free a (U.calling g mk a) o s₂ := hq
  rw [State.frames_setTop' g h.top] at hend
  obtain ⟨g₀, hg0⟩ := Option.isSome_iff_exists.mp h.top
  obtain ⟨r, hr⟩ := State.topJava?_eq_some.mp hg0
  have hr' : (({ U with heap := s₂.heap, slotsUsed := s₂.slotsUsed } : State).setVm s₂.vm).frames = .java g₀ :: r := hr
  rcases hq' with ⟨hqc, L, hfe, hL⟩ | ⟨q, rfl, E, ce, L, hx, hce, hcv, hcl, hW₂, hsm, hL⟩
  · obtain ⟨⟨v, rfl⟩, hW₂, e2, q2, q3, q4, q5, q6⟩ := id hfe
    have e3 : s₂ = ({ (U.calling g mk a).setFrames s₂.frames with heap := s₂.heap, slotsUsed := s₂.slotsUsed } : State).setVm s₂.vm := by
      have : s₂ = ({ s₂ with vm := (U.calling g mk a).vm } : State).setVm s₂.vm := rfl
      rw [e2] at this
      exact this
    obtain ⟨c₂, i₂, len₂, hc₂, hd₂, hf₂⟩ := hend
    have hW' : U.WarmedH s₂.vm := hW₂
    have hcc : c₂ = c := by
      have h1 : s₂.code? g.method = U.code? g.method := by
        rw [State.code?_eq, State.code?_eq, hW'.alike.method?]
      exact Option.some.inj (hc₂.symm.trans (h1.trans h.code))
    subst hcc
    have hlen : len₂ = len := by rw [hdg] at hd₂; cases hd₂; rfl
    subst hlen
    have hs₂ : s₂ = (({ U with heap := s₂.heap, slotsUsed := s₂.slotsUsed } : State).setVm s₂.vm).setTop { g with pc := g.pc + len₂, stack := v.toList ++ g.stack } := by
      refine e3.trans ?_
      rw [hf₂, State.calling_eq h.top, State.setFrames_setFrames, State.setTop_of_frames _ hr', hr]
      rfl
    have hsame : U.sameButNew ({ U with heap := s₂.heap, slotsUsed := s₂.slotsUsed } : State) L mc ms := by
      refine ⟨?_, q2, q3, q4, q5, q6⟩
      obtain ⟨t, ht, -⟩ := State.frames_cons hr
      show ({ U with heap := s₂.heap, slotsUsed := s₂.slotsUsed } : State) = { U.setFrames U.frames with heap := s₂.heap, slotsUsed := s₂.slotsUsed }
      rw [State.setFrames_self ht]
    subst hg
    refine Or.inl ⟨v, ⟨(({ U with heap := s₂.heap, slotsUsed := s₂.slotsUsed } : State).setVm s₂.vm), Ls ++ L, c0 + mc, s0 + ms⟩,
      ⟨X.admits, X.cas, X.clock, X.frames, X.room, X.hears, X.method, X.code, (X.here.setHeapUsed s₂.heap s₂.slotsUsed).setVm hW'.alike, X.tail, State.WarmedH.trans X.warmed hW', X.limits, X.bytes, X.same.trans (hsame.setVm s.vm)⟩,
      ⟨g, mk, s₂, L, rfl, rfl, hqc, rfl, hL, rfl, rfl⟩, ?_⟩
    show Steps p.tables e below _ ((({ U with heap := s₂.heap, slotsUsed := s₂.slotsUsed } : State).setVm s₂.vm).setTop { g with pc := g.pc + len₂, stack := v.toList ++ g.stack })
    rw [← hs₂]
    exact hsteps
  · obtain ⟨e2, q2, q3, q4, q5, q6⟩ := id hsm
    have e3 : s₂ = ({ (U.calling g mk a).setFrames s₂.frames with heap := s₂.heap, slotsUsed := s₂.slotsUsed } : State).setVm s₂.vm := by
      have : s₂ = ({ s₂ with vm := (U.calling g mk a).vm } : State).setVm s₂.vm := rfl
      rw [e2] at this
      exact this
    have hf₂ : s₂.frames = .throwing q :: .java g :: U.frames.tail := hend
    have hW' : U.WarmedH s₂.vm := hW₂
    have hs₂ : s₂ = ((({ U with heap := s₂.heap, slotsUsed := s₂.slotsUsed } : State).setVm s₂.vm).setTop g).pushFrame (.throwing q) := by
      refine e3.trans ?_
      rw [hf₂, State.calling_eq h.top, State.setFrames_setFrames, State.pushFrame, State.frames_setTop _ hr', State.setTop_of_frames _ hr', State.setFrames_setFrames, hr]
      rfl
    have hsame : U.sameButNew ({ U with heap := s₂.heap, slotsUsed := s₂.slotsUsed } : State) L mc ms := by
      refine ⟨?_, q2, q3, q4, q5, q6⟩
      obtain ⟨t, ht, -⟩ := State.frames_cons hr
      show ({ U with heap := s₂.heap, slotsUsed := s₂.slotsUsed } : State) = { U.setFrames U.frames with heap := s₂.heap, slotsUsed := s₂.slotsUsed }
      rw [State.setFrames_self ht]
    subst hg
    refine Or.inr ⟨q, ⟨(({ U with heap := s₂.heap, slotsUsed := s₂.slotsUsed } : State).setVm s₂.vm), Ls ++ L, c0 + mc, s0 + ms⟩,
      ⟨X.admits, X.cas, X.clock, X.frames, X.room, X.hears, X.method, X.code, (X.here.setHeapUsed s₂.heap s₂.slotsUsed).setVm hW'.alike, X.tail, State.WarmedH.trans X.warmed hW', X.limits, X.bytes, X.same.trans (hsame.setVm s.vm)⟩,
      ⟨g, mk, s₂, L, E, ce, rfl, rfl, hx, hce, hcv, hcl, rfl, hL, rfl, rfl⟩, ?_⟩
    show Steps p.tables e below _ (((({ U with heap := s₂.heap, slotsUsed := s₂.slotsUsed } : State).setVm s₂.vm).setTop g).pushFrame (.throwing q))
    rw [← hs₂]
    exact hsteps
end Payer
section Calls
variable {p : Program} {l : Launch} {e : Env} {R : Room} {s : State} {m : MethodId} {args : Array Value} {below : List Frame} {meth : Method} {c : Code} {T : State} {locs : List Loc} {cells slots : Nat}
theorem vx_callV (X : Stand p l e R s m args below meth c T locs cells slots) (hexec : p.tables.exec = Jvm.exec) {own C : String} {index : Nat} {y : MethodName} {bytes : ByteArray} {maxL : Nat} {ret : Option FieldType}
    (hown : s.vm.findClass own = some m.cls) (hlink : (Cond.methodLink own index y).before args s = true) (hinst : (Cond.instanceMethod y).before args s = true) (hsel : (Cond.selects C y y).before args s = true)
    (hcode : (Cond.code y bytes maxL ret).before args s = true) (hy : y.cls ≠ "java/lang/invoke/MethodHandle" ∧ y.cls ≠ "java/lang/invoke/VarHandle")
    {W9 : Nat} {Pre : Pt → Array Value → Prop} {Post : Pt → Array Value → Option Value → Pt → Prop} {PostX : Pt → Array Value → Addr → Pt → Prop} (hK : vx_Back l R p e below s args y 3 W9 Pre Post PostX)
    {b : Addr} {cellB : Cell} (hcell : T.heap[b]? = some cellB) (hobj : cellB.vm.isStatics = false) (hcls : s.vm.findClass C = some cellB.cls)
    {g : JFrame} (hg : g.method = m) (hsize : g.locals.size = c.maxLocals) {argsL rest : List Value} (hlen : ∀ sig, parseMethodDescriptor y.desc = some sig → argsL.length = sig.parameters.length)
    (hstack : g.stack = argsL.reverse ++ .ref b :: rest) (hW : 2 * g.monitorRoom + (rest.map fun v => v.category).sum ≤ W9) (hdg : decode c.code g.pc = .ok (.invokevirtual index, 3))
    (hpre : ∀ vm₁, s.WarmedH vm₁ → Pre ⟨T.setVm vm₁, locs, cells, slots⟩ (Value.ref b :: argsL).toArray) :
    (∃ (v : Option Value) (vm₁ : Vm) (B : Pt), s.WarmedH vm₁ ∧ Stand p l e R s m args below meth c B.U B.locs B.cells B.slots ∧ Post ⟨T.setVm vm₁, locs, cells, slots⟩ (Value.ref b :: argsL).toArray v B ∧
      ∀ target, Steps p.tables e below (B.U.setTop { g with pc := g.pc + 3, stack := v.toList ++ rest }) target → Steps p.tables e below (T.setTop g) target) ∨
    (∃ (q : Addr) (vm₁ : Vm) (B : Pt), s.WarmedH vm₁ ∧ Stand p l e R s m args below meth c B.U B.locs B.cells B.slots ∧ PostX ⟨T.setVm vm₁, locs, cells, slots⟩ (Value.ref b :: argsL).toArray q B ∧
      Steps p.tables e below (T.setTop g) ((B.U.setTop { g with stack := rest }).pushFrame (.throwing q))) := by
  obtain ⟨mk, methM, hnamed, hmethM, hstM, habM⟩ := Cond.instanceMethod_spec hinst
  obtain ⟨methM', cM, hmethM', -, -, -, -, -, -, hsigM⟩ := Cond.code_spec hnamed hcode
  cases hmethM.symm.trans hmethM'
  obtain ⟨c2, r2, m2, q1, q2, q3, q4, kP, hkP, hkPi⟩ := Cond.selects_spec hsel
  cases hcls.symm.trans q1
  cases (State.methodFound?_of_named hnamed hy).symm.trans q2
  cases hnamed.symm.trans q3
  have hselP : selectMethod e.platform s.vm cellB.cls mk = .method mk := by rw [Launch.admits_selectMethod X.admits]; exact q4
  obtain ⟨vm₁, X₁, hstep₁⟩ := X.invokevirtual hexec hown hlink hnamed hmethM hstM hkP hkPi hy (a := b) (cell := cellB) hcell
    (fun z h => by rw [h] at hobj; cases hobj) hselP hmethM habM hkP hkPi (g := g) hg (argsL := argsL) (rest := rest) (hlen _ hsigM) hstack hdg
  rcases hK m meth c ⟨T.setVm vm₁, locs, cells, slots⟩ { g with stack := rest } (.invokevirtual index) mk (Value.ref b :: argsL).toArray X₁ hg hsize hdg hW (X₁.named hnamed) (hpre vm₁ X₁.warmed) with ⟨v, B, X', hpost, hsteps⟩ | ⟨q, B, X', hpost, hsteps⟩
  · exact Or.inl ⟨v, vm₁, B, X₁.warmed, X', hpost, fun target h => hstep₁ _ fun acts => by rw [doInvoke_state]; exact hsteps.trans h⟩
  · exact Or.inr ⟨q, vm₁, B, X₁.warmed, X', hpost, hstep₁ _ fun acts => by rw [doInvoke_state]; exact hsteps⟩
theorem vx_callS (X : Stand p l e R s m args below meth c T locs cells slots) (hexec : p.tables.exec = Jvm.exec) {own : String} {index : Nat} {y : MethodName} {bytes : ByteArray} {maxL : Nat} {ret : Option FieldType}
    (hown : s.vm.findClass own = some m.cls) (hlink : (Cond.methodLink own index y).before args s = true) (hstat : (Cond.static y).before args s = true) (hinit : (Cond.initialized y.cls).before args s = true)
    (hcode : (Cond.code y bytes maxL ret).before args s = true) (hy : y.cls ≠ "java/lang/invoke/MethodHandle" ∧ y.cls ≠ "java/lang/invoke/VarHandle")
    {W9 : Nat} {Pre : Pt → Array Value → Prop} {Post : Pt → Array Value → Option Value → Pt → Prop} {PostX : Pt → Array Value → Addr → Pt → Prop} (hK : vx_Back l R p e below s args y 3 W9 Pre Post PostX)
    {g : JFrame} (hg : g.method = m) (hsize : g.locals.size = c.maxLocals) {argsL rest : List Value} (hlen : ∀ sig, parseMethodDescriptor y.desc = some sig → argsL.length = sig.parameters.length)
    (hstack : g.stack = argsL.reverse ++ rest) (hW : 2 * g.monitorRoom + (rest.map fun v => v.category).sum ≤ W9) (hdg : decode c.code g.pc = .ok (.invokestatic index, 3))
    (hpre : ∀ vm₁, s.WarmedH vm₁ → Pre ⟨T.setVm vm₁, locs, cells, slots⟩ argsL.toArray) :
    (∃ (v : Option Value) (vm₁ : Vm) (B : Pt), s.WarmedH vm₁ ∧ Stand p l e R s m args below meth c B.U B.locs B.cells B.slots ∧ Post ⟨T.setVm vm₁, locs, cells, slots⟩ argsL.toArray v B ∧
      ∀ target, Steps p.tables e below (B.U.setTop { g with pc := g.pc + 3, stack := v.toList ++ rest }) target → Steps p.tables e below (T.setTop g) target) ∨
    (∃ (q : Addr) (vm₁ : Vm) (B : Pt), s.WarmedH vm₁ ∧ Stand p l e R s m args below meth c B.U B.locs B.cells B.slots ∧ PostX ⟨T.setVm vm₁, locs, cells, slots⟩ argsL.toArray q B ∧
      Steps p.tables e below (T.setTop g) ((B.U.setTop { g with stack := rest }).pushFrame (.throwing q))) := by
  obtain ⟨mk, hnamed⟩ := Cond.code_named hcode
  obtain ⟨methM, cM, hmethM, -, -, -, -, -, -, hsigM⟩ := Cond.code_spec hnamed hcode
  have hstatic : methM.isStatic = true := Cond.static_spec hnamed hmethM hstat
  obtain ⟨kP, hkP, -⟩ := className_of_methodNamed hnamed
  have hinitP : kP.init = .initialized := Cond.initialized_spec (findClass_of_methodNamed hnamed) hkP hinit
  obtain ⟨vm₁, X₁, hstep₁⟩ := X.invokestatic hexec hown hlink hnamed hmethM hstatic hkP hinitP hy (g := g) hg (argsL := argsL) (rest := rest) (hlen _ hsigM) hstack hdg
  rcases hK m meth c ⟨T.setVm vm₁, locs, cells, slots⟩ { g with stack := rest } (.invokestatic index) mk argsL.toArray X₁ hg hsize hdg hW (X₁.named hnamed) (hpre vm₁ X₁.warmed) with ⟨v, B, X', hpost, hsteps⟩ | ⟨q, B, X', hpost, hsteps⟩
  · exact Or.inl ⟨v, vm₁, B, X₁.warmed, X', hpost, fun target h => hstep₁ _ fun acts => by rw [doInvoke_state]; exact hsteps.trans h⟩
  · exact Or.inr ⟨q, vm₁, B, X₁.warmed, X', hpost, hstep₁ _ fun acts => by rw [doInvoke_state]; exact hsteps⟩
end Calls
theorem vx_cls {s : State} {T : State} {vm₁ : Vm} {E : String} {k : ClassId} (hW : s.WarmedH vm₁) (h : (T.setVm vm₁).vm.findClass E = some k) : s.vm.findClass E = some k := by
  have h1 : vm₁.findClass E = some k := h
  rw [hW.alike.findClass] at h1
  exact h1
/-- the method's frame g, with q thrown over it -/
def vx_W (p : Program) (l : Launch) (e : Env) (R : Room) (s : State) (m : MethodId) (args : Array Value) (below : List Frame) (meth : Method) (c : Code) (H : Heap) (locs : List Loc) (cells slots : Nat) (Q : State → Prop) (g : JFrame) (q : Addr) : Prop :=
  ∀ T : State, T.heap = H → Stand p l e R s m args below meth c T locs cells slots → ∃ t, Steps p.tables e below ((T.setTop g).pushFrame (.throwing q)) t ∧ Q t
def vx_Run (p : Program) (l : Launch) (e : Env) (R : Room) (s : State) (m : MethodId) (args : Array Value) (below : List Frame) (meth : Method) (c : Code) (H : Heap) (locs : List Loc) (cells slots mc ms : Nat) (g : JFrame) (rest : List Value) (Qa : State → Outcome → State → Prop) (XC : String → State → State → Prop) (free : Addr → Prop) : Prop :=
  ∀ T : State, T.heap = H → Stand p l e R s m args below meth c T locs cells slots →
    (∃ (v : Option Value) (st₀ t T' : State) (L : List Loc), st₀.heap = H ∧ Stand p l e R s m args below meth c T' (locs ++ L) (cells + mc) (slots + ms) ∧ (∀ q ∈ L, free q.base) ∧ T'.heap = t.heap ∧ T'.vm = t.vm ∧ Qa st₀ (.returned v) t ∧
      Goes p e below T g T' { g with pc := g.pc + 3, stack := v.toList ++ rest }) ∨
    (∃ (q : Addr) (st₀ t T' : State) (L : List Loc) (E : String) (ce : Cell), st₀.heap = H ∧ Stand p l e R s m args below meth c T' (locs ++ L) (cells + mc) (slots + ms) ∧ (∀ z ∈ L, free z.base) ∧ T'.heap = t.heap ∧ T'.vm = t.vm ∧ XC E st₀ t ∧ t.heap[q]? = some ce ∧ ce.vm = .none ∧ s.vm.findClass E = some ce.cls ∧
      Steps p.tables e below (T.setTop g) ((T'.setTop { g with stack := rest }).pushFrame (.throwing q)))
def vx_X {S : Type} (px : S → Prop) (B : String → S → State → Prop) (A : Nat → Prop) : String → State → State → Prop := fun E st t => ∃ u : S, px u ∧ B E u t ∧ va_F A st t
section Runs
variable {p : Program} {l : Launch} {e : Env} {R : Room} {s : State} {m : MethodId} {args : Array Value} {below : List Frame} {meth : Method} {c : Code} {H : Heap} {locs : List Loc} {cells slots : Nat}
variable {y : MethodName} {bytes cc : ByteArray} {maxL nL mc ms n index : Nat} {ret : Option FieldType} {ws : List Cond} {rm : Room} {Pc : Array Value → State → Prop} {Qc : Array Value → State → Outcome → State → Prop} {XC : String → State → State → Prop} {free : Addr → Prop} {Ts : List Cond} {own C : String} {b : Addr} {As rest : List Value} {g : JFrame}
theorem vx_callBack (cb : CallB R s args own index y bytes maxL ret ws rm mc ms n) (hM : vx_Met l y ws rm Pc Qc XC mc ms free) (hbl : FrameBlind Pc) : vx_Back l R p e below s args y 3 8 (PreOf R mc ms Pc) (PostOf Qc mc ms free) (vx_Post XC mc ms free) := by
  obtain ⟨hrc, hrs, hfr, hlo, hws, hcw, -, hini, -⟩ := cb
  exact vx_back (bytes := bytes) (maxL := maxL) (ret := ret) hM hbl hrc hrs hfr hlo hws hcw (fun a' U hW => word_at hW (Or.inl (by first | rfl | simp [Cond.onTables, Cond.keeps, Cond.steady])) hini)
theorem vx_runV (S : CallFix p m c cc nL s args Ts own) (hM : vx_Met l y ws rm Pc Qc XC mc ms free) (cw : CallW R s args own C index y bytes maxL ret ws rm mc ms n) (hp : PreV s H C b Pc As)
    (hg : g.method = m) (hn : As.length = n) (hsize : g.locals.size = nL) (hstack : g.stack = As.reverse ++ .ref b :: rest) (hW : 2 * g.monitorRoom + (rest.map fun v => v.category).sum ≤ 8) (hdg : decode cc g.pc = .ok (.invokevirtual index, 3)) (hf : cells + mc ≤ R.cells ∧ slots + ms ≤ R.slots) :
    vx_Run p l e R s m args below meth c H locs cells slots mc ms g rest (Qc (Value.ref b :: As).toArray) XC free := by
  have hK : vx_Back l R p e below s args y 3 8 (PreOf R mc ms Pc) (PostOf Qc mc ms free) (vx_Post XC mc ms free) := vx_callBack cw.1 hM hp.1
  obtain ⟨⟨-, -, -, -, -, -, hcode, -, hy, hlen, hl⟩, hin, hse⟩ := cw
  obtain ⟨hx, hb, hml, ho, -⟩ := S
  obtain ⟨-, ⟨cellB, hcB, hoB, hclB⟩, hPc⟩ := hp
  intro T hT X
  rcases vx_callV X hx (C := C) (bytes := bytes) (maxL := maxL) (ret := ret) ho hl hin hse hcode hy hK (by rw [hT]; exact hcB) hoB hclB hg (hsize.trans hml.symm) (argsL := As) (rest := rest) (fun sig h => hn.trans (hlen sig h)) hstack hW (by rw [hb]; exact hdg)
    (fun vm₁ hW₁ => ⟨hf.1, hf.2, hPc (T.setVm vm₁) hT hW₁⟩) with ⟨v, vm₁, ⟨U', l2, c2, s2⟩, hW₁, X', ⟨g', mk, t, L, e1, e2, hq, h1, hL, h2, h3⟩, st⟩ | ⟨q, vm₁, ⟨U', l2, c2, s2⟩, hW₁, X', ⟨g', mk, t, L, E, ce, e1, e2, hq, hce, hcv, hcl, h1, hL, h2, h3⟩, st⟩
  · dsimp only [Pt.U, Pt.locs, Pt.cells, Pt.slots] at X' e1 e2 h1 h2 h3 st
    subst h1; subst h2; subst h3
    exact Or.inl ⟨v, (T.setVm vm₁).calling g' mk (Value.ref b :: As).toArray, t, U', L, hT, X', hL, e1, e2, hq, st⟩
  · dsimp only [Pt.U, Pt.locs, Pt.cells, Pt.slots] at X' e1 e2 h1 h2 h3 st hcl
    subst h1; subst h2; subst h3
    exact Or.inr ⟨q, (T.setVm vm₁).calling g' mk (Value.ref b :: As).toArray, t, U', L, E, ce, hT, X', hL, e1, e2, hq, hce, hcv, vx_cls hW₁ hcl, st⟩
theorem vx_runS (S : CallFix p m c cc nL s args Ts own) (hM : vx_Met l y ws rm Pc Qc XC mc ms free) (cw : CallB R s args own index y bytes maxL ret ws rm mc ms n ∧ (Cond.static y).before args s = true) (hp : PreS s H Pc As)
    (hg : g.method = m) (hn : As.length = n) (hsize : g.locals.size = nL) (hstack : g.stack = As.reverse ++ rest) (hW : 2 * g.monitorRoom + (rest.map fun v => v.category).sum ≤ 8) (hdg : decode cc g.pc = .ok (.invokestatic index, 3)) (hf : cells + mc ≤ R.cells ∧ slots + ms ≤ R.slots) :
    vx_Run p l e R s m args below meth c H locs cells slots mc ms g rest (Qc As.toArray) XC free := by
  have hK : vx_Back l R p e below s args y 3 8 (PreOf R mc ms Pc) (PostOf Qc mc ms free) (vx_Post XC mc ms free) := vx_callBack cw.1 hM hp.1
  obtain ⟨⟨-, -, -, -, -, -, hcode, hini, hy, hlen, hl⟩, hstt⟩ := cw
  obtain ⟨hx, hb, hml, ho, -⟩ := S
  intro T hT X
  rcases vx_callS X hx (bytes := bytes) (maxL := maxL) (ret := ret) ho hl hstt hini hcode hy hK hg (hsize.trans hml.symm) (argsL := As) (rest := rest) (fun sig h => hn.trans (hlen sig h)) hstack hW (by rw [hb]; exact hdg)
    (fun vm₁ hW₁ => ⟨hf.1, hf.2, hp.2 (T.setVm vm₁) hT hW₁⟩) with ⟨v, vm₁, ⟨U', l2, c2, s2⟩, hW₁, X', ⟨g', mk, t, L, e1, e2, hq, h1, hL, h2, h3⟩, st⟩ | ⟨q, vm₁, ⟨U', l2, c2, s2⟩, hW₁, X', ⟨g', mk, t, L, E, ce, e1, e2, hq, hce, hcv, hcl, h1, hL, h2, h3⟩, st⟩
  · dsimp only [Pt.U, Pt.locs, Pt.cells, Pt.slots] at X' e1 e2 h1 h2 h3 st
    subst h1; subst h2; subst h3
    exact Or.inl ⟨v, (T.setVm vm₁).calling g' mk As.toArray, t, U', L, hT, X', hL, e1, e2, hq, st⟩
  · dsimp only [Pt.U, Pt.locs, Pt.cells, Pt.slots] at X' e1 e2 h1 h2 h3 st hcl
    subst h1; subst h2; subst h3
    exact Or.inr ⟨q, (T.setVm vm₁).calling g' mk As.toArray, t, U', L, E, ce, hT, X', hL, e1, e2, hq, hce, hcv, vx_cls hW₁ hcl, st⟩
end Runs
section Rows
variable {p : Program} {l : Launch} {e : Env} {R : Room} {s : State} {m : MethodId} {args : Array Value} {below : List Frame} {meth : Method} {c : Code} {H : Heap} {locs : List Loc} {cells slots : Nat} {Q : State → Prop}
variable {mc ms : Nat} {free : Addr → Prop} {A0 A1 : Nat → Prop} {H0 : Heap} {a : Array Value} {pc : Nat} {ls : Array Slot} {st0 rest : List Value}
theorem vx_keep {st₀ t T' : State} {L : List Loc} (h0 : st₀.heap = H) (e1 : T'.heap = t.heap) (hS : va_S A0 H0 H locs) (hA : ∀ q, q < H.size → A1 q → A0 q) (hf : ∀ q, free q → A0 q) (hL : ∀ q ∈ L, free q.base) (hF : va_F A1 st₀ t) :
    H.size ≤ T'.heap.size ∧ (∀ q : Nat, q < H.size → ¬ A1 q → T'.heap[q]? = H[q]?) ∧ va_S A0 H0 T'.heap (locs ++ L) := by
  obtain ⟨hz, hk⟩ := hF
  rw [h0] at hz hk
  exact ⟨by rw [e1]; exact hz, fun q h1 h2 => by rw [e1]; exact hk q h1 h2,
    ⟨Nat.le_trans hS.1 (by rw [e1]; exact hz), fun q h1 h2 => by rw [e1, hk q (Nat.lt_of_lt_of_le h1 hS.1) (fun z => h2 (hA q (Nat.lt_of_lt_of_le h1 hS.1) z))]; exact hS.2.1 q h1 h2, fun q hq => by
      rcases List.mem_append.mp hq with h | h
      · exact hS.2.2 q h
      · exact hf _ (hL q h)⟩⟩
theorem vx_calli {S SX : Type} {post : Int32 → S → Prop} {px : SX → Prop} {B : S → State → Prop} {BX : String → SX → State → Prop} {AX : Nat → Prop} (hr : vx_Run p l e R s m args below meth c H locs cells slots mc ms (F0 m pc ls st0) rest (va_Qi post B A1 a) (vx_X px BX AX) free) (hS : va_S A0 H0 H locs) (hA : ∀ q, q < H.size → A1 q → A0 q) (hf : ∀ q, free q → A0 q) (hAX : ∀ q, q < H.size → AX q → A0 q)
    (kx : ∀ (E : String) (ce : Cell) (q9 : Addr) (u : SX) (t : State) (H1 : Heap) (locs1 : List Loc), t.heap = H1 → s.vm.Alike t.vm → px u → BX E u t → H.size ≤ H1.size → (∀ q : Nat, q < H.size → ¬ AX q → H1[q]? = H[q]?) → va_S A0 H0 H1 locs1 → H1[q9]? = some ce → ce.vm = .none → s.vm.findClass E = some ce.cls → vx_W p l e R s m args below meth c H1 locs1 (cells + mc) (slots + ms) Q (F0 m pc ls rest) q9)
    (kk : ∀ (r : Int32) (u : S) (t : State) (H1 : Heap) (locs1 : List Loc), t.heap = H1 → s.vm.Alike t.vm → post r u → B u t → H.size ≤ H1.size → (∀ q : Nat, q < H.size → ¬ A1 q → H1[q]? = H[q]?) → va_S A0 H0 H1 locs1 → W p l e R s m args below meth c H1 locs1 (cells + mc) (slots + ms) Q (F0 m (pc + 3) ls (.int r :: rest))) : W p l e R s m args below meth c H locs cells slots Q (F0 m pc ls st0) := by
  intro T hT X
  rcases hr T hT X with ⟨v, st₀, t, T', L, h0, X', hL, e1, e2, ⟨⟨r, u, hv, hp, hb⟩, hF⟩, st⟩ | ⟨q, st₀, t, T', L, E, ce, h0, X', hL, e1, e2, ⟨u, hp, hb, hF⟩, hce, hcv, hcl, st⟩
  · cases hv
    obtain ⟨k1, k2, k3⟩ := vx_keep h0 e1 hS hA hf hL hF
    obtain ⟨t2, a1, b1⟩ := kk r u t T'.heap (locs ++ L) e1.symm (by rw [← e2]; exact X'.warmed.alike) hp hb k1 k2 k3 T' rfl X'
    exact ⟨t2, st t2 a1, b1⟩
  · obtain ⟨k1, k2, k3⟩ := vx_keep h0 e1 hS hAX hf hL hF
    obtain ⟨t2, a1, b1⟩ := kx E ce q u t T'.heap (locs ++ L) e1.symm (by rw [← e2]; exact X'.warmed.alike) hp hb k1 k2 k3 (by rw [e1]; exact hce) hcv hcl T' rfl X'
    exact ⟨t2, st.trans a1, b1⟩
theorem vx_calll {S SX : Type} {post : Int64 → S → Prop} {px : SX → Prop} {B : S → State → Prop} {BX : String → SX → State → Prop} {AX : Nat → Prop} (hr : vx_Run p l e R s m args below meth c H locs cells slots mc ms (F0 m pc ls st0) rest (va_Ql post B A1 a) (vx_X px BX AX) free) (hS : va_S A0 H0 H locs) (hA : ∀ q, q < H.size → A1 q → A0 q) (hf : ∀ q, free q → A0 q) (hAX : ∀ q, q < H.size → AX q → A0 q)
    (kx : ∀ (E : String) (ce : Cell) (q9 : Addr) (u : SX) (t : State) (H1 : Heap) (locs1 : List Loc), t.heap = H1 → s.vm.Alike t.vm → px u → BX E u t → H.size ≤ H1.size → (∀ q : Nat, q < H.size → ¬ AX q → H1[q]? = H[q]?) → va_S A0 H0 H1 locs1 → H1[q9]? = some ce → ce.vm = .none → s.vm.findClass E = some ce.cls → vx_W p l e R s m args below meth c H1 locs1 (cells + mc) (slots + ms) Q (F0 m pc ls rest) q9)
    (kk : ∀ (r : Int64) (u : S) (t : State) (H1 : Heap) (locs1 : List Loc), t.heap = H1 → s.vm.Alike t.vm → post r u → B u t → H.size ≤ H1.size → (∀ q : Nat, q < H.size → ¬ A1 q → H1[q]? = H[q]?) → va_S A0 H0 H1 locs1 → W p l e R s m args below meth c H1 locs1 (cells + mc) (slots + ms) Q (F0 m (pc + 3) ls (.long r :: rest))) : W p l e R s m args below meth c H locs cells slots Q (F0 m pc ls st0) := by
  intro T hT X
  rcases hr T hT X with ⟨v, st₀, t, T', L, h0, X', hL, e1, e2, ⟨⟨r, u, hv, hp, hb⟩, hF⟩, st⟩ | ⟨q, st₀, t, T', L, E, ce, h0, X', hL, e1, e2, ⟨u, hp, hb, hF⟩, hce, hcv, hcl, st⟩
  · cases hv
    obtain ⟨k1, k2, k3⟩ := vx_keep h0 e1 hS hA hf hL hF
    obtain ⟨t2, a1, b1⟩ := kk r u t T'.heap (locs ++ L) e1.symm (by rw [← e2]; exact X'.warmed.alike) hp hb k1 k2 k3 T' rfl X'
    exact ⟨t2, st t2 a1, b1⟩
  · obtain ⟨k1, k2, k3⟩ := vx_keep h0 e1 hS hAX hf hL hF
    obtain ⟨t2, a1, b1⟩ := kx E ce q u t T'.heap (locs ++ L) e1.symm (by rw [← e2]; exact X'.warmed.alike) hp hb k1 k2 k3 (by rw [e1]; exact hce) hcv hcl T' rfl X'
    exact ⟨t2, st.trans a1, b1⟩
theorem vx_callf {S SX : Type} {post : UInt32 → S → Prop} {px : SX → Prop} {B : S → State → Prop} {BX : String → SX → State → Prop} {AX : Nat → Prop} (hr : vx_Run p l e R s m args below meth c H locs cells slots mc ms (F0 m pc ls st0) rest (va_Qf post B A1 a) (vx_X px BX AX) free) (hS : va_S A0 H0 H locs) (hA : ∀ q, q < H.size → A1 q → A0 q) (hf : ∀ q, free q → A0 q) (hAX : ∀ q, q < H.size → AX q → A0 q)
    (kx : ∀ (E : String) (ce : Cell) (q9 : Addr) (u : SX) (t : State) (H1 : Heap) (locs1 : List Loc), t.heap = H1 → s.vm.Alike t.vm → px u → BX E u t → H.size ≤ H1.size → (∀ q : Nat, q < H.size → ¬ AX q → H1[q]? = H[q]?) → va_S A0 H0 H1 locs1 → H1[q9]? = some ce → ce.vm = .none → s.vm.findClass E = some ce.cls → vx_W p l e R s m args below meth c H1 locs1 (cells + mc) (slots + ms) Q (F0 m pc ls rest) q9)
    (kk : ∀ (r : UInt32) (u : S) (t : State) (H1 : Heap) (locs1 : List Loc), t.heap = H1 → s.vm.Alike t.vm → post r u → B u t → H.size ≤ H1.size → (∀ q : Nat, q < H.size → ¬ A1 q → H1[q]? = H[q]?) → va_S A0 H0 H1 locs1 → W p l e R s m args below meth c H1 locs1 (cells + mc) (slots + ms) Q (F0 m (pc + 3) ls (.float r :: rest))) : W p l e R s m args below meth c H locs cells slots Q (F0 m pc ls st0) := by
  intro T hT X
  rcases hr T hT X with ⟨v, st₀, t, T', L, h0, X', hL, e1, e2, ⟨⟨r, u, hv, hp, hb⟩, hF⟩, st⟩ | ⟨q, st₀, t, T', L, E, ce, h0, X', hL, e1, e2, ⟨u, hp, hb, hF⟩, hce, hcv, hcl, st⟩
  · cases hv
    obtain ⟨k1, k2, k3⟩ := vx_keep h0 e1 hS hA hf hL hF
    obtain ⟨t2, a1, b1⟩ := kk r u t T'.heap (locs ++ L) e1.symm (by rw [← e2]; exact X'.warmed.alike) hp hb k1 k2 k3 T' rfl X'
    exact ⟨t2, st t2 a1, b1⟩
  · obtain ⟨k1, k2, k3⟩ := vx_keep h0 e1 hS hAX hf hL hF
    obtain ⟨t2, a1, b1⟩ := kx E ce q u t T'.heap (locs ++ L) e1.symm (by rw [← e2]; exact X'.warmed.alike) hp hb k1 k2 k3 (by rw [e1]; exact hce) hcv hcl T' rfl X'
    exact ⟨t2, st.trans a1, b1⟩
theorem vx_calld {S SX : Type} {post : UInt64 → S → Prop} {px : SX → Prop} {B : S → State → Prop} {BX : String → SX → State → Prop} {AX : Nat → Prop} (hr : vx_Run p l e R s m args below meth c H locs cells slots mc ms (F0 m pc ls st0) rest (va_Qd post B A1 a) (vx_X px BX AX) free) (hS : va_S A0 H0 H locs) (hA : ∀ q, q < H.size → A1 q → A0 q) (hf : ∀ q, free q → A0 q) (hAX : ∀ q, q < H.size → AX q → A0 q)
    (kx : ∀ (E : String) (ce : Cell) (q9 : Addr) (u : SX) (t : State) (H1 : Heap) (locs1 : List Loc), t.heap = H1 → s.vm.Alike t.vm → px u → BX E u t → H.size ≤ H1.size → (∀ q : Nat, q < H.size → ¬ AX q → H1[q]? = H[q]?) → va_S A0 H0 H1 locs1 → H1[q9]? = some ce → ce.vm = .none → s.vm.findClass E = some ce.cls → vx_W p l e R s m args below meth c H1 locs1 (cells + mc) (slots + ms) Q (F0 m pc ls rest) q9)
    (kk : ∀ (r : UInt64) (u : S) (t : State) (H1 : Heap) (locs1 : List Loc), t.heap = H1 → s.vm.Alike t.vm → post r u → B u t → H.size ≤ H1.size → (∀ q : Nat, q < H.size → ¬ A1 q → H1[q]? = H[q]?) → va_S A0 H0 H1 locs1 → W p l e R s m args below meth c H1 locs1 (cells + mc) (slots + ms) Q (F0 m (pc + 3) ls (.double r :: rest))) : W p l e R s m args below meth c H locs cells slots Q (F0 m pc ls st0) := by
  intro T hT X
  rcases hr T hT X with ⟨v, st₀, t, T', L, h0, X', hL, e1, e2, ⟨⟨r, u, hv, hp, hb⟩, hF⟩, st⟩ | ⟨q, st₀, t, T', L, E, ce, h0, X', hL, e1, e2, ⟨u, hp, hb, hF⟩, hce, hcv, hcl, st⟩
  · cases hv
    obtain ⟨k1, k2, k3⟩ := vx_keep h0 e1 hS hA hf hL hF
    obtain ⟨t2, a1, b1⟩ := kk r u t T'.heap (locs ++ L) e1.symm (by rw [← e2]; exact X'.warmed.alike) hp hb k1 k2 k3 T' rfl X'
    exact ⟨t2, st t2 a1, b1⟩
  · obtain ⟨k1, k2, k3⟩ := vx_keep h0 e1 hS hAX hf hL hF
    obtain ⟨t2, a1, b1⟩ := kx E ce q u t T'.heap (locs ++ L) e1.symm (by rw [← e2]; exact X'.warmed.alike) hp hb k1 k2 k3 (by rw [e1]; exact hce) hcv hcl T' rfl X'
    exact ⟨t2, st.trans a1, b1⟩
theorem vx_callv {S SX : Type} {post : S → Prop} {px : SX → Prop} {B : S → State → Prop} {BX : String → SX → State → Prop} {AX : Nat → Prop} (hr : vx_Run p l e R s m args below meth c H locs cells slots mc ms (F0 m pc ls st0) rest (va_Qv post B A1 a) (vx_X px BX AX) free) (hS : va_S A0 H0 H locs) (hA : ∀ q, q < H.size → A1 q → A0 q) (hf : ∀ q, free q → A0 q) (hAX : ∀ q, q < H.size → AX q → A0 q)
    (kx : ∀ (E : String) (ce : Cell) (q9 : Addr) (u : SX) (t : State) (H1 : Heap) (locs1 : List Loc), t.heap = H1 → s.vm.Alike t.vm → px u → BX E u t → H.size ≤ H1.size → (∀ q : Nat, q < H.size → ¬ AX q → H1[q]? = H[q]?) → va_S A0 H0 H1 locs1 → H1[q9]? = some ce → ce.vm = .none → s.vm.findClass E = some ce.cls → vx_W p l e R s m args below meth c H1 locs1 (cells + mc) (slots + ms) Q (F0 m pc ls rest) q9)
    (kk : ∀ (u : S) (t : State) (H1 : Heap) (locs1 : List Loc), t.heap = H1 → s.vm.Alike t.vm → post u → B u t → H.size ≤ H1.size → (∀ q : Nat, q < H.size → ¬ A1 q → H1[q]? = H[q]?) → va_S A0 H0 H1 locs1 → W p l e R s m args below meth c H1 locs1 (cells + mc) (slots + ms) Q (F0 m (pc + 3) ls (rest))) : W p l e R s m args below meth c H locs cells slots Q (F0 m pc ls st0) := by
  intro T hT X
  rcases hr T hT X with ⟨v, st₀, t, T', L, h0, X', hL, e1, e2, ⟨⟨u, hv, hp, hb⟩, hF⟩, st⟩ | ⟨q, st₀, t, T', L, E, ce, h0, X', hL, e1, e2, ⟨u, hp, hb, hF⟩, hce, hcv, hcl, st⟩
  · cases hv
    obtain ⟨k1, k2, k3⟩ := vx_keep h0 e1 hS hA hf hL hF
    obtain ⟨t2, a1, b1⟩ := kk u t T'.heap (locs ++ L) e1.symm (by rw [← e2]; exact X'.warmed.alike) hp hb k1 k2 k3 T' rfl X'
    exact ⟨t2, st t2 a1, b1⟩
  · obtain ⟨k1, k2, k3⟩ := vx_keep h0 e1 hS hAX hf hL hF
    obtain ⟨t2, a1, b1⟩ := kx E ce q u t T'.heap (locs ++ L) e1.symm (by rw [← e2]; exact X'.warmed.alike) hp hb k1 k2 k3 (by rw [e1]; exact hce) hcv hcl T' rfl X'
    exact ⟨t2, st.trans a1, b1⟩
end Rows
section Ends
variable {p : Program} {l : Launch} {e : Env} {R : Room} {s : State} {m : MethodId} {args : Array Value} {below : List Frame} {meth : Method} {c : Code} {H : Heap} {locs : List Loc} {cells slots : Nat} {Q : State → Prop}
variable {mc ms : Nat} {free : Addr → Prop} {A0 A1 : Nat → Prop} {H0 : Heap} {a : Array Value} {ls : Array Slot} {st0 rest : List Value}
variable {Qc : Array Value → State → Outcome → State → Prop} {XC : String → State → State → Prop}
/-- what a body that may throw owes at its end -/
def vx_MQ (below : List Frame) (Qc : Array Value → State → Outcome → State → Prop) (XC : String → State → State → Prop) (a : Array Value) (s : State) (mc ms : Nat) (free : Addr → Prop) : State → Prop := fun t =>
  ∃ o, t.status = .running ∧ Ended t below o ∧ vx_Q Qc XC mc ms free a s o t
theorem vx_ret {g : JFrame} {mc ms : Nat} (k : W p l e R s m args below meth c H locs cells slots (MQ below Qc args s mc ms free) g) : W p l e R s m args below meth c H locs cells slots (vx_MQ below Qc XC args s mc ms free) g := by
  intro T hT X
  obtain ⟨t, a1, o, b1, b2, b3, b4⟩ := k T hT X
  exact ⟨t, a1, o, b1, b2, Or.inl ⟨b3, b4⟩⟩
/-- not caught here: it goes on to the caller -/
theorem vx_widen {g : JFrame} {q : Addr} {k n : Nat} (h1 : cells ≤ k) (h2 : slots ≤ n) (kk : vx_W p l e R s m args below meth c H locs k n Q g q) : vx_W p l e R s m args below meth c H locs cells slots Q g q := fun T hT X => kk T hT (stand_widen X h1 h2)
theorem vx_out {pc : Nat} {E : String} {ce : Cell} {q : Addr} {mc ms : Nat} (hout : ∀ x ∈ c.exceptionTable.toList, covers x pc = false) (hlocks : meth.locks = false) (hcell : H[q]? = some ce) (hv : ce.vm = .none) (hcl : s.vm.findClass E = some ce.cls)
    (hx : ∀ t : State, t.heap = H → s.vm.Alike t.vm → XC E s t) (hf : ∀ z ∈ locs, free z.base) (hc : cells ≤ mc) (hs : slots ≤ ms) :
    vx_W p l e R s m args below meth c H locs cells slots (vx_MQ below Qc XC args s mc ms free) (F0 m pc ls rest) q := by
  intro T hT X
  obtain ⟨st1, hrun, hend, hW, hsm⟩ := X.leaveThrown q (g := F0 m pc ls rest) rfl rfl rfl hout hlocks
  have hcell9 : (T.setFrames (.throwing q :: below)).heap[q]? = some ce := by
    show T.heap[q]? = some ce
    rw [hT]; exact hcell
  exact ⟨_, st1, .threw q, hrun, hend, Or.inr ⟨q, rfl, E, ce, locs, hx _ hT hW.alike, hcell9, hv, hcl, hW, hsm.mono hc hs, hf⟩⟩
theorem vx_frame {U : State} {k n : Nat} (h : s.sameButNew ({ U with vm := s.vm } : State) locs k n) : s.heap.size ≤ U.heap.size ∧ ∀ q : Nat, q < s.heap.size → (∀ z ∈ locs, z.base ≠ q) → U.heap[q]? = s.heap[q]? := by
  obtain ⟨-, h2, -, -, -, h6⟩ := h
  refine ⟨h2, fun q hq hz => ?_⟩
  obtain ⟨c9, e1, e2, e3, e4⟩ := h6 q _ (Array.getElem?_eq_getElem hq)
  have hs : c9.slots = (s.heap[q]).slots := Array.ext_getElem? fun i => e4 i fun hm => hz _ hm rfl
  have h9 : c9 = s.heap[q] := by
    rw [hs] at e2
    exact e2
  have e5 : U.heap[q]? = some c9 := e1
  rw [e5, h9, Array.getElem?_eq_getElem hq]
/-- the words of a throw but the four that speak of the heap -/
def vx_no (w : Cond) : Bool := decide (w ≠ .isRef (.static Bundle.tN "UNASSIGNED_STACK" Bundle.steD)) && decide (w ≠ .isRef (.static Bundle.tN "SUPPRESSED_SENTINEL" Bundle.listD)) && decide (w ≠ .laysStatic Bundle.tN "UNASSIGNED_STACK" Bundle.steD) && decide (w ≠ .laysStatic Bundle.tN "SUPPRESSED_SENTINEL" Bundle.listD)
def vx_at0 (own : String) (ic : Nat) (X : String) (names : List String) : List Cond := (Bundle.ownAtoms0 own ic X names).filter vx_no
def vx_atS (own : String) (ic : Nat) (X : String) (names : List String) : List Cond := (Bundle.ownAtoms own ic X names).filter vx_no
/-- a word that the tables alone decide, or a good one -/
def vx_ot (w : Cond) : Bool := w.onTables || goodWord w
theorem vx_ot_at {args a' : Array Value} {s U : State} {w : Cond} (hW : s.WarmedH U.vm) (hvm : s.vm = U.vm) (hg : vx_ot w = true) (h : w.before args s = true) : w.before a' U = true := by
  simp only [vx_ot, Bool.or_eq_true] at hg
  rcases hg with hg | hg
  · exact va_tabs hg hvm h
  · exact word_at hW (good_of_word hg) h
/-- a list's words: the good ones out of the method's own list, the others by premises of their own -/
theorem vx_hat {args : Array Value} {s : State} {L B : List Cond} (h1 : ∀ w ∈ L.filter goodWord, w.before args s = true) (h2 : ∀ w ∈ L.filter (fun w => !goodWord w), w ∈ B) (h3 : ∀ w ∈ B, w.before args s = true) : ∀ w ∈ L, w.before args s = true := by
  intro w hw
  by_cases g : goodWord w = true
  · exact h1 w (List.mem_filter.mpr ⟨hw, g⟩)
  · refine h3 w (h2 w (List.mem_filter.mpr ⟨hw, ?_⟩))
    show (!goodWord w) = true
    cases hgw : goodWord w
    · rfl
    · exact absurd hgw g
theorem vx_c {args : Array Value} {s : State} {w : Cond} {B : List Cond} (h : w.before args s = true) (t : ∀ w ∈ B, w.before args s = true) : ∀ w' ∈ w :: B, w'.before args s = true := fun w' h' => (List.mem_cons.mp h').elim (fun e => by rw [e]; exact h) (t w')
theorem vx_n {args : Array Value} {s : State} : ∀ w ∈ ([] : List Cond), w.before args s = true := fun _ h => nomatch h
theorem vx_own {args : Array Value} {s : State} {L : List Cond} (h1 : ∀ w ∈ L.filter vx_no, w.before args s = true)
    (hU : (Cond.isRef (.static Bundle.tN "UNASSIGNED_STACK" Bundle.steD)).before args s = true) (hN : (Cond.isRef (.static Bundle.tN "SUPPRESSED_SENTINEL" Bundle.listD)).before args s = true)
    (lU : (Cond.laysStatic Bundle.tN "UNASSIGNED_STACK" Bundle.steD).before args s = true) (lN : (Cond.laysStatic Bundle.tN "SUPPRESSED_SENTINEL" Bundle.listD).before args s = true) : ∀ w ∈ L, w.before args s = true := by
  intro w hw
  by_cases e1 : w = .isRef (.static Bundle.tN "UNASSIGNED_STACK" Bundle.steD)
  · rw [e1]; exact hU
  · by_cases e2 : w = .isRef (.static Bundle.tN "SUPPRESSED_SENTINEL" Bundle.listD)
    · rw [e2]; exact hN
    · by_cases e3 : w = .laysStatic Bundle.tN "UNASSIGNED_STACK" Bundle.steD
      · rw [e3]; exact lU
      · by_cases e4 : w = .laysStatic Bundle.tN "SUPPRESSED_SENTINEL" Bundle.listD
        · rw [e4]; exact lN
        · exact h1 w (List.mem_filter.mpr ⟨hw, by unfold vx_no; rw [decide_eq_true e1, decide_eq_true e2, decide_eq_true e3, decide_eq_true e4]; rfl⟩)
/-- where a static field lies, its class's statics cell in H -/
def vx_L (C n d : String) (A : Nat → Prop) (U : State) (H : Heap) : Prop := ∃ (c : ClassId) (k : Class) (i : Nat) (f : Field) (a : Nat) (cell : Cell), U.vm.findClass C = some c ∧ U.fieldFound? C n d = some (c, k, i, f) ∧ f.isStatic = true ∧ k.statics = some a ∧ H[a]? = some cell ∧ cell.vm.isStatics = true ∧ cell.cls = c ∧ f.slot < cell.slots.size ∧ k.staticTypes[f.slot]? = some f.type ∧ ¬ A a
theorem vx_L.moved {C n d : String} {A : Nat → Prop} {u U : State} {H : Heap} (hvm : u.vm.Alike U.vm) (h : vx_L C n d A u H) : vx_L C n d A U H := by
  obtain ⟨c, k, i, f, a, cell, h1, h2, h3, h4, h5, h6, h7, h8, h9, h10⟩ := h
  obtain ⟨k', hi', he⟩ := State.fieldFound?_setVm hvm h2
  exact ⟨c, k', i, f, a, cell, by rw [hvm.findClass]; exact h1, hi', h3, by rw [he]; exact h4, h5, h6, h7, h8, by rw [he]; exact h9, h10⟩
theorem vx_L.kept {C n d : String} {A : Nat → Prop} {U : State} {H H1 : Heap} (h : vx_L C n d A U H) (hq : ∀ a : Nat, a < H.size → ¬ A a → H1[a]? = H[a]?) : vx_L C n d A U H1 := by
  obtain ⟨c, k, i, f, a, cell, h1, h2, h3, h4, h5, h6, h7, h8, h9, h10⟩ := h
  exact ⟨c, k, i, f, a, cell, h1, h2, h3, h4, by rw [hq a (Array.getElem?_eq_some_iff.mp h5).1 h10]; exact h5, h6, h7, h8, h9, h10⟩
theorem vx_L.narrow {C n d : String} {A B : Nat → Prop} {U : State} {H : Heap} (h : vx_L C n d A U H) (hAB : ∀ q, B q → A q) : vx_L C n d B U H := by
  obtain ⟨c, k, i, f, a, cell, h1, h2, h3, h4, h5, h6, h7, h8, h9, h10⟩ := h
  exact ⟨c, k, i, f, a, cell, h1, h2, h3, h4, h5, h6, h7, h8, h9, fun z => h10 (hAB _ z)⟩
theorem vx_L.word {C n d : String} {A : Nat → Prop} {s : State} {args : Array Value} (h : vx_L C n d A s s.heap) : (Cond.laysStatic C n d).before args s = true := by
  obtain ⟨c, k, i, f, a, cell, h1, h2, h3, h4, h5, h6, h7, h8, h9, -⟩ := h
  show (Cond.laysStatic C n d).holds args s none s [] = true
  exact Cond.laysStatic_of h1 h2 h3 h4 h5 h6 h7 h8 h9
/-- .. and what it holds: null or some reference -/
def vx_Zq (C n d : String) (A : Nat → Prop) (U : State) (H : Heap) : Prop := va_Zq C n d A U H ∧ vx_L C n d A U H
theorem vx_Zq.moved {C n d : String} {A : Nat → Prop} {u U : State} {H : Heap} (hvm : u.vm.Alike U.vm) (h : vx_Zq C n d A u H) : vx_Zq C n d A U H := ⟨va_Zq.moved hvm h.1, vx_L.moved hvm h.2⟩
theorem vx_Zq.kept {C n d : String} {A : Nat → Prop} {U : State} {H H1 : Heap} (h : vx_Zq C n d A U H) (hq : ∀ a : Nat, a < H.size → ¬ A a → H1[a]? = H[a]?) : vx_Zq C n d A U H1 := ⟨va_Zq.kept h.1 hq, vx_L.kept h.2 hq⟩
theorem vx_Zq.narrow {C n d : String} {A B : Nat → Prop} {U : State} {H : Heap} (h : vx_Zq C n d A U H) (hAB : ∀ q, B q → A q) : vx_Zq C n d B U H := ⟨va_Zq.narrow h.1 hAB, vx_L.narrow h.2 hAB⟩
theorem vx_Zqof {args : Array Value} {s : State} {C n d : String} {A : Nat → Prop} (hl : (Cond.laysStatic C n d).before args s = true) (hini : (Cond.initialized C).before args s = true) (h : (Cond.isRef (.static C n d)).before args s = true) (hA : ∀ a : Nat, a < s.heap.size → ¬ A a) : vx_Zq C n d A s s.heap := by
  refine ⟨va_Zqof hl hini h hA, ?_⟩
  obtain ⟨c, k, i, f, a, cell, h1, h2, h3, h4, h5, h6, h7, h8, h9⟩ := Cond.laysStatic_spec hl
  exact ⟨c, k, i, f, a, cell, h1, h2, h3, h4, h5, h6, h7, h8, h9, hA a (Array.getElem?_eq_some_iff.mp h5).1⟩
theorem vx_isRef {C n d : String} {v : Value} {A : Nat → Prop} {s : State} {args : Array Value} (h : va_Z C n d v A s s.heap) (hv : v.isRef = true) : (Cond.isRef (.static C n d)).before args s = true := by
  obtain ⟨cf, kf, fi, f, a, cell, h1, h2, h3, h4, h5, h6, h7, -⟩ := h
  have he : (Term.static C n d).eval args s none [] s = some v := by
    simp [Term.eval, State.fieldNamed?, h1, h2, h4, h5, h6, h7]
  simp only [Cond.before, Cond.holds, Cond.value, he]
  cases v <;> simp_all [Value.isRef]
theorem vx_isRefq {C n d : String} {A : Nat → Prop} {s : State} {args : Array Value} (h : va_Zq C n d A s s.heap) : (Cond.isRef (.static C n d)).before args s = true := by
  rcases h with h | ⟨t, h⟩
  · exact vx_isRef h rfl
  · exact vx_isRef h rfl
/-- the same frame, seen from here: as if the method were called anew in this heap -/
theorem vx_rebase {T : State} (X : Stand p l e R s m args below meth c T locs cells slots) {R' : Room} (hf : R'.frames ≤ R.frames) (hl : R'.locals ≤ R.locals) (hc : cells + R'.cells ≤ R.cells) (hs : slots + R'.slots ≤ R.slots) :
    Stand p l e R' ((T.setVm s.vm).setFrames (.invoking m args :: below)) m args below meth c T [] 0 0 := by
  have htop : (T.setVm s.vm).topJava?.isSome := X.here.top
  have hF : ((T.setVm s.vm).setFrames (.invoking m args :: below)).frames = .invoking m args :: below := State.frames_setFrames _ (State.cur_lt_of_top htop)
  obtain ⟨g₀, hg0⟩ := Option.isSome_iff_exists.mp htop
  obtain ⟨r, hr⟩ := State.topJava?_eq_some.mp hg0
  have hl9 : e.platform.stackLimits (T.setVm s.vm).me = e.platform.stackLimits s.me := X.limits
  have hb9 : (T.setVm s.vm).me.stackBytes = s.me.stackBytes := X.bytes
  refine ⟨X.admits, X.cas, X.clock, hF, ?_, X.hears, X.method, X.code, X.here, X.tail, X.warmed, ?_, ?_, ?_⟩
  · have h := X.room
    have hU : ((T.setVm s.vm).setFrames (.invoking m args :: below)).localsInUse = s.localsInUse := by
      rw [State.localsInUse_invoking hF (meth := meth) (c := c) X.method X.code, State.localsInUse_invoking X.frames X.method X.code]
    simp only [State.hasRoom, Bool.and_eq_true, decide_eq_true_eq] at h ⊢
    obtain ⟨⟨⟨⟨h1, h2, h3, h4, h5, h6⟩, h7⟩, h8⟩, h9⟩ := h
    rw [X.frames, List.length_cons] at h2 h3
    have q1 := X.heapSize
    have q2 := X.used
    simp only [hF, hU, List.length_cons, State.stackLimits_setFrames, State.stackBytes_setFrames, hl9, hb9]
    refine ⟨⟨⟨⟨by omega, by omega, by omega, by omega, by omega, h6⟩, ?_⟩, ?_⟩, X.book⟩
    · show T.heap.size + R'.cells ≤ e.platform.maxCells
      omega
    · show T.slotsUsed + R'.slots ≤ e.platform.maxSlots
      omega
  · rw [State.stackLimits_setFrames]; rfl
  · rw [State.stackBytes_setFrames]; rfl
  · refine ⟨?_, Nat.le_refl _, Nat.le_refl _, ?_, ?_, fun a c9 h9 => ⟨c9, h9, rfl, rfl, fun _ _ => rfl⟩⟩
    · obtain ⟨t, ht, -⟩ := State.frames_cons hr
      show T.setVm s.vm = { ((T.setVm s.vm).setFrames (.invoking m args :: below)).setFrames (T.setVm s.vm).frames with heap := T.heap, slotsUsed := T.slotsUsed }
      rw [State.setFrames_setFrames, State.setFrames_self ht]
      rfl
    · show T.slotsUsed = T.slotsUsed + ((T.heap.toList.drop T.heap.size).map (·.slots.size)).sum
      rw [List.drop_eq_nil_of_le (Nat.le_of_eq Array.length_toList)]
      rfl
    · show ((T.heap.toList.drop T.heap.size).map (·.slots.size)).sum ≤ 0
      rw [List.drop_eq_nil_of_le (Nat.le_of_eq Array.length_toList)]
      exact Nat.le_refl _
/-- 'throw new E()': new; dup; invokespecial; athrow -/
theorem vx_throw0 {cc : ByteArray} {pc : Nat} (hexec : p.tables.exec = Jvm.exec) (hb : c.code = cc) (hl : l.stackTraces = false) {own cls : String} {names : List String} {ik ic mc ms : Nat} {A : Nat → Prop}
    (hown : s.vm.findClass own = some m.cls) (hcls : Bundle.fit cls = true) (hnames : ∀ n ∈ names, Bundle.fit n = true)
    (hk : (Cond.classLink own ik cls).before args s = true) (hini : (Cond.initialized cls).before args s = true) (hat : ∀ w ∈ vx_at0 own ic cls names, w.before args s = true)
    (hgood : ∀ w ∈ Cond.classLink own ik cls :: Cond.initialized cls :: vx_at0 own ic cls names, vx_ot w = true)
    (hU : vx_Zq Bundle.tN "UNASSIGNED_STACK" Bundle.steD A s s.heap) (hN : vx_Zq Bundle.tN "SUPPRESSED_SENTINEL" Bundle.listD A s s.heap) (hS : va_S A s.heap H locs) (hsize : ls.size = c.maxLocals)
    (d0 : decode cc pc = .ok (.new ik, 3)) (d3 : decode cc (pc + 3) = .ok (.dup, 1)) (d4 : decode cc (pc + 4) = .ok (.invokespecial ic, 3)) (d7 : decode cc (pc + 7) = .ok (.athrow, 1))
    (hout : ∀ x ∈ c.exceptionTable.toList, covers x (pc + 7) = false)
    (hRframes : names.length + 3 < R.frames) (hRlocals : (rest.map fun v => v.category).sum + (13 * (names.length + 1) + 42) ≤ R.locals) (hRcells : cells + 1 ≤ R.cells) (hRslots : slots + 6 ≤ R.slots) (hlocks : meth.locks = false)
    (hx : ∀ t : State, s.vm.Alike t.vm → H.size ≤ t.heap.size → (∀ q : Nat, q < H.size → t.heap[q]? = H[q]?) → XC cls s t)
    (hf : ∀ z ∈ locs, free z.base) (hc : cells + 1 ≤ mc) (hs : slots + 6 ≤ ms) :
    W p l e R s m args below meth c H locs cells slots (vx_MQ below Qc XC args s mc ms free) (F0 m pc ls rest) := by
  intro T hT X
  have htr : e.platform.stackTraces = false := (show e.platform.stackTraces = l.stackTraces by rw [X.admits.platform]).trans hl
  have Y := vx_rebase X (R' := { frames := R.frames, locals := R.locals, cells := 1, slots := 6 }) (Nat.le_refl _) (Nat.le_refl _) hRcells hRslots
  obtain ⟨s', hA⟩ : ∃ z, z = (T.setVm s.vm).setFrames (.invoking m args :: below) := ⟨_, rfl⟩
  rw [← hA] at Y
  have hvm : s'.vm = s.vm := by rw [hA]; rfl
  have hhp : s'.heap = H := by rw [hA]; exact hT
  have hW0 : s.WarmedH s'.vm := by rw [hvm]; exact State.WarmedH.refl s
  have hat' : ∀ w ∈ vx_at0 own ic cls names, w.before args s' = true := fun w hw => vx_ot_at hW0 hvm.symm (hgood w (List.mem_cons_of_mem _ (List.mem_cons_of_mem _ hw))) (hat w hw)
  have hk' : (Cond.classLink own ik cls).before args s' = true := vx_ot_at hW0 hvm.symm (hgood _ List.mem_cons_self) hk
  have hini' : (Cond.initialized cls).before args s' = true := vx_ot_at hW0 hvm.symm (hgood _ (List.mem_cons_of_mem _ List.mem_cons_self)) hini
  have hU' : vx_Zq Bundle.tN "UNASSIGNED_STACK" Bundle.steD A s' s'.heap := by rw [hhp]; exact vx_Zq.moved hW0.alike (hU.kept hS.2.1)
  have hN' : vx_Zq Bundle.tN "SUPPRESSED_SENTINEL" Bundle.listD A s' s'.heap := by rw [hhp]; exact vx_Zq.moved hW0.alike (hN.kept hS.2.1)
  have h : ∀ w ∈ Bundle.ownAtoms0 own ic cls names, w.before args s' = true := vx_own hat' (vx_isRefq hU'.1) (vx_isRefq hN'.1) hU'.2.word hN'.2.word
  have hown' : s'.vm.findClass own = some m.cls := by rw [hvm]; exact hown
  have hins : (Cond.instantiable cls 6).before args s' = true := h _ (by simp [Bundle.ownAtoms0])
  obtain ⟨vm₁, cX, kX, hfX, hkX, -, -, X₁, st1⟩ := Y.newCold hexec (own := own) (C := cls) (index := ik) (n := 6) hown' hk' hins hini'
    (g := F0 m pc ls rest) rfl (by rw [hb]; exact d0) (Nat.le_refl _) (Nat.le_refl _)
  generalize hT1 : (T.setVm vm₁).pushCell { cls := cX, slots := kX.instanceTypes.map defaultValue, vm := .none } = T1 at X₁ st1
  have hcat : (Value.ref T.heap.size).category = 1 := rfl
  have hcellA : T1.heap[T.heap.size]? = some (freshCell cX kX) := by rw [← hT1]; exact State.heap_pushCell_size _ _
  have d3' : decode c.code (pc + 3) = .ok (.dup, 1) := by rw [hb]; exact d3
  obtain ⟨U, hsteps, hrun, hend, hW, hsame, ce, hce, hO⟩ := X₁.ctorThrow0 hexec htr (own := own) (cls := cls) (names := names) (ic := ic) hown' hcls hnames h (fun x hx => nomatch hx) hfX hkX hcellA (by rw [hhp, hT]; exact Nat.le_refl _)
    (g := { method := m, pc := pc + 4, locals := ls, stack := .ref T.heap.size :: .ref T.heap.size :: rest, locked := none }) rfl hsize rfl rfl (rest := rest) rfl
    (by rw [hb]; exact d4) (by rw [hb]; exact d7) hout hRframes (by simp only [List.map_cons, List.sum_cons, hcat]; omega) hlocks
  obtain ⟨f1, f2⟩ := vx_frame hsame
  rw [hhp] at f1 f2
  have hWs : s.WarmedH U.vm := State.WarmedH.trans hW0 hW
  have hcl : s.vm.findClass cls = some ce.cls := by
    have h9 := hO.cls
    rw [hvm] at h9
    exact h9
  have hall : s.sameButNew ({ U with vm := s.vm } : State) locs mc ms := by
    subst hA
    obtain ⟨e1, e2⟩ := hsame
    rw [State.setFrames_setFrames] at e1
    have h2 : (T.setVm s.vm).sameButNew ({ U with vm := s.vm } : State) [] (0 + 1) (0 + 6) := ⟨e1, e2⟩
    have h3 := X.same.trans h2
    rw [List.append_nil] at h3
    exact h3.mono hc hs
  refine ⟨U, ?_, .threw T.heap.size, hrun, hend, Or.inr ⟨T.heap.size, rfl, cls, ce, locs, hx U hWs.alike f1 (fun q hq => f2 q hq (fun z hz => nomatch hz)), hce, hO.vm, hcl, hWs, hall, hf⟩⟩
  refine st1 _ ?_
  show Steps p.tables e below (T1.setTop { method := m, pc := pc + 3, locals := ls, stack := .ref T.heap.size :: rest, locked := none }) _
  jvm_step X₁.here [X₁.here.top, hexec, d3', Value.category]
  exact hsteps
/-- 'throw new E("text")': new; dup; ldc; invokespecial; athrow -/
theorem vx_throwS {cc : ByteArray} {pc : Nat} (hexec : p.tables.exec = Jvm.exec) (hb : c.code = cc) (hl : l.stackTraces = false) {own cls text : String} {names : List String} {ik is ic mc ms sa : Nat} {A : Nat → Prop}
    (hown : s.vm.findClass own = some m.cls) (hcls : Bundle.fit cls = true) (hnames : ∀ n ∈ names, Bundle.fit n = true)
    (hk : (Cond.classLink own ik cls).before args s = true) (hini : (Cond.initialized cls).before args s = true) (hstr : vk_R own is text sa s) (hat : ∀ w ∈ vx_atS own ic cls names, w.before args s = true)
    (hgood : ∀ w ∈ Cond.classLink own ik cls :: Cond.initialized cls :: vx_atS own ic cls names, vx_ot w = true)
    (hU : vx_Zq Bundle.tN "UNASSIGNED_STACK" Bundle.steD A s s.heap) (hN : vx_Zq Bundle.tN "SUPPRESSED_SENTINEL" Bundle.listD A s s.heap) (hS : va_S A s.heap H locs) (hsize : ls.size = c.maxLocals)
    (d0 : decode cc pc = .ok (.new ik, 3)) (d3 : decode cc (pc + 3) = .ok (.dup, 1)) (d4 : decode cc (pc + 4) = .ok (.ldc is, 2)) (d6 : decode cc (pc + 6) = .ok (.invokespecial ic, 3)) (d9 : decode cc (pc + 9) = .ok (.athrow, 1))
    (hout : ∀ x ∈ c.exceptionTable.toList, covers x (pc + 9) = false)
    (hRframes : names.length + 3 < R.frames) (hRlocals : (rest.map fun v => v.category).sum + (13 * (names.length + 1) + 43) ≤ R.locals) (hRcells : cells + 1 ≤ R.cells) (hRslots : slots + 6 ≤ R.slots) (hlocks : meth.locks = false)
    (hx : ∀ t : State, s.vm.Alike t.vm → H.size ≤ t.heap.size → (∀ q : Nat, q < H.size → t.heap[q]? = H[q]?) → XC cls s t)
    (hf : ∀ z ∈ locs, free z.base) (hc : cells + 1 ≤ mc) (hs : slots + 6 ≤ ms) :
    W p l e R s m args below meth c H locs cells slots (vx_MQ below Qc XC args s mc ms free) (F0 m pc ls rest) := by
  intro T hT X
  have htr : e.platform.stackTraces = false := (show e.platform.stackTraces = l.stackTraces by rw [X.admits.platform]).trans hl
  have Y := vx_rebase X (R' := { frames := R.frames, locals := R.locals, cells := 1, slots := 6 }) (Nat.le_refl _) (Nat.le_refl _) hRcells hRslots
  obtain ⟨s', hA⟩ : ∃ z, z = (T.setVm s.vm).setFrames (.invoking m args :: below) := ⟨_, rfl⟩
  rw [← hA] at Y
  have hvm : s'.vm = s.vm := by rw [hA]; rfl
  have hhp : s'.heap = H := by rw [hA]; exact hT
  have hW0 : s.WarmedH s'.vm := by rw [hvm]; exact State.WarmedH.refl s
  have hat' : ∀ w ∈ vx_atS own ic cls names, w.before args s' = true := fun w hw => vx_ot_at hW0 hvm.symm (hgood w (List.mem_cons_of_mem _ (List.mem_cons_of_mem _ hw))) (hat w hw)
  have hk' : (Cond.classLink own ik cls).before args s' = true := vx_ot_at hW0 hvm.symm (hgood _ List.mem_cons_self) hk
  have hini' : (Cond.initialized cls).before args s' = true := vx_ot_at hW0 hvm.symm (hgood _ (List.mem_cons_of_mem _ List.mem_cons_self)) hini
  have hU' : vx_Zq Bundle.tN "UNASSIGNED_STACK" Bundle.steD A s' s'.heap := by rw [hhp]; exact vx_Zq.moved hW0.alike (hU.kept hS.2.1)
  have hN' : vx_Zq Bundle.tN "SUPPRESSED_SENTINEL" Bundle.listD A s' s'.heap := by rw [hhp]; exact vx_Zq.moved hW0.alike (hN.kept hS.2.1)
  have h : ∀ w ∈ Bundle.ownAtoms own ic cls names, w.before args s' = true := vx_own hat' (vx_isRefq hU'.1) (vx_isRefq hN'.1) hU'.2.word hN'.2.word
  have hown' : s'.vm.findClass own = some m.cls := by rw [hvm]; exact hown
  have hins : (Cond.instantiable cls 6).before args s' = true := h _ (by simp [Bundle.ownAtoms])
  obtain ⟨vm₁, cX, kX, hfX, hkX, -, -, X₁, st1⟩ := Y.newCold hexec (own := own) (C := cls) (index := ik) (n := 6) hown' hk' hins hini'
    (g := F0 m pc ls rest) rfl (by rw [hb]; exact d0) (Nat.le_refl _) (Nat.le_refl _)
  generalize hT1 : (T.setVm vm₁).pushCell { cls := cX, slots := kX.instanceTypes.map defaultValue, vm := .none } = T1 at X₁ st1
  have hcat : (Value.ref T.heap.size).category = 1 := rfl
  have hcellA : T1.heap[T.heap.size]? = some (freshCell cX kX) := by rw [← hT1]; exact State.heap_pushCell_size _ _
  have d3' : decode c.code (pc + 3) = .ok (.dup, 1) := by rw [hb]; exact d3
  have d4' : decode c.code (pc + 4) = .ok (.ldc is, 2) := by rw [hb]; exact d4
  have hstr' : vk_R own is text sa s' := vk_R.warm hW0 hstr
  obtain ⟨U, hsteps, hrun, hend, hW, hsame, ce, hce, hO⟩ := X₁.ctorThrowS hexec htr (own := own) (cls := cls) (names := names) (ic := ic) hown' hcls hnames h (fun x hx => nomatch hx) hfX hkX hcellA (by rw [hhp, hT]; exact Nat.le_refl _) (msg := .ref sa) rfl
    (g := { method := m, pc := pc + 6, locals := ls, stack := .ref sa :: .ref T.heap.size :: .ref T.heap.size :: rest, locked := none }) rfl hsize rfl rfl (rest := rest) rfl
    (by rw [hb]; exact d6) (by rw [hb]; exact d9) hout hRframes (by simp only [List.map_cons, List.sum_cons, hcat]; omega) hlocks
  obtain ⟨f1, f2⟩ := vx_frame hsame
  rw [hhp] at f1 f2
  have hWs : s.WarmedH U.vm := State.WarmedH.trans hW0 hW
  have hcl : s.vm.findClass cls = some ce.cls := by
    have h9 := hO.cls
    rw [hvm] at h9
    exact h9
  have hall : s.sameButNew ({ U with vm := s.vm } : State) locs mc ms := by
    subst hA
    obtain ⟨e1, e2⟩ := hsame
    rw [State.setFrames_setFrames] at e1
    have h2 : (T.setVm s.vm).sameButNew ({ U with vm := s.vm } : State) [] (0 + 1) (0 + 6) := ⟨e1, e2⟩
    have h3 := X.same.trans h2
    rw [List.append_nil] at h3
    exact h3.mono hc hs
  refine ⟨U, ?_, .threw T.heap.size, hrun, hend, Or.inr ⟨T.heap.size, rfl, cls, ce, locs, hx U hWs.alike f1 (fun q hq => f2 q hq (fun z hz => nomatch hz)), hce, hO.vm, hcl, hWs, hall, hf⟩⟩
  refine st1 _ ?_
  show Steps p.tables e below (T1.setTop { method := m, pc := pc + 3, locals := ls, stack := .ref T.heap.size :: rest, locked := none }) _
  jvm_step X₁.here [X₁.here.top, hexec, d3', Value.category]
  exact X₁.ldcString hexec (own := own) (text := text) (index := is) (a := sa) hown' hstr'.1 hstr'.2
    (g := { method := m, pc := pc + 4, locals := ls, stack := .ref T.heap.size :: .ref T.heap.size :: rest, locked := none }) rfl d4' _ hsteps
/-- 'throw new E("text")', the text by a wide index -/
theorem vx_throwSW {cc : ByteArray} {pc : Nat} (hexec : p.tables.exec = Jvm.exec) (hb : c.code = cc) (hl : l.stackTraces = false) {own cls text : String} {names : List String} {ik is ic mc ms sa : Nat} {A : Nat → Prop}
    (hown : s.vm.findClass own = some m.cls) (hcls : Bundle.fit cls = true) (hnames : ∀ n ∈ names, Bundle.fit n = true)
    (hk : (Cond.classLink own ik cls).before args s = true) (hini : (Cond.initialized cls).before args s = true) (hstr : vk_R own is text sa s) (hat : ∀ w ∈ vx_atS own ic cls names, w.before args s = true)
    (hgood : ∀ w ∈ Cond.classLink own ik cls :: Cond.initialized cls :: vx_atS own ic cls names, vx_ot w = true)
    (hU : vx_Zq Bundle.tN "UNASSIGNED_STACK" Bundle.steD A s s.heap) (hN : vx_Zq Bundle.tN "SUPPRESSED_SENTINEL" Bundle.listD A s s.heap) (hS : va_S A s.heap H locs) (hsize : ls.size = c.maxLocals)
    (d0 : decode cc pc = .ok (.new ik, 3)) (d3 : decode cc (pc + 3) = .ok (.dup, 1)) (d4 : decode cc (pc + 4) = .ok (.ldc_w is, 3)) (d7 : decode cc (pc + 7) = .ok (.invokespecial ic, 3)) (d10 : decode cc (pc + 10) = .ok (.athrow, 1))
    (hout : ∀ x ∈ c.exceptionTable.toList, covers x (pc + 10) = false)
    (hRframes : names.length + 3 < R.frames) (hRlocals : (rest.map fun v => v.category).sum + (13 * (names.length + 1) + 43) ≤ R.locals) (hRcells : cells + 1 ≤ R.cells) (hRslots : slots + 6 ≤ R.slots) (hlocks : meth.locks = false)
    (hx : ∀ t : State, s.vm.Alike t.vm → H.size ≤ t.heap.size → (∀ q : Nat, q < H.size → t.heap[q]? = H[q]?) → XC cls s t)
    (hf : ∀ z ∈ locs, free z.base) (hc : cells + 1 ≤ mc) (hs : slots + 6 ≤ ms) :
    W p l e R s m args below meth c H locs cells slots (vx_MQ below Qc XC args s mc ms free) (F0 m pc ls rest) := by
  intro T hT X
  have htr : e.platform.stackTraces = false := (show e.platform.stackTraces = l.stackTraces by rw [X.admits.platform]).trans hl
  have Y := vx_rebase X (R' := { frames := R.frames, locals := R.locals, cells := 1, slots := 6 }) (Nat.le_refl _) (Nat.le_refl _) hRcells hRslots
  obtain ⟨s', hA⟩ : ∃ z, z = (T.setVm s.vm).setFrames (.invoking m args :: below) := ⟨_, rfl⟩
  rw [← hA] at Y
  have hvm : s'.vm = s.vm := by rw [hA]; rfl
  have hhp : s'.heap = H := by rw [hA]; exact hT
  have hW0 : s.WarmedH s'.vm := by rw [hvm]; exact State.WarmedH.refl s
  have hat' : ∀ w ∈ vx_atS own ic cls names, w.before args s' = true := fun w hw => vx_ot_at hW0 hvm.symm (hgood w (List.mem_cons_of_mem _ (List.mem_cons_of_mem _ hw))) (hat w hw)
  have hk' : (Cond.classLink own ik cls).before args s' = true := vx_ot_at hW0 hvm.symm (hgood _ List.mem_cons_self) hk
  have hini' : (Cond.initialized cls).before args s' = true := vx_ot_at hW0 hvm.symm (hgood _ (List.mem_cons_of_mem _ List.mem_cons_self)) hini
  have hU' : vx_Zq Bundle.tN "UNASSIGNED_STACK" Bundle.steD A s' s'.heap := by rw [hhp]; exact vx_Zq.moved hW0.alike (hU.kept hS.2.1)
  have hN' : vx_Zq Bundle.tN "SUPPRESSED_SENTINEL" Bundle.listD A s' s'.heap := by rw [hhp]; exact vx_Zq.moved hW0.alike (hN.kept hS.2.1)
  have h : ∀ w ∈ Bundle.ownAtoms own ic cls names, w.before args s' = true := vx_own hat' (vx_isRefq hU'.1) (vx_isRefq hN'.1) hU'.2.word hN'.2.word
  have hown' : s'.vm.findClass own = some m.cls := by rw [hvm]; exact hown
  have hins : (Cond.instantiable cls 6).before args s' = true := h _ (by simp [Bundle.ownAtoms])
  obtain ⟨vm₁, cX, kX, hfX, hkX, -, -, X₁, st1⟩ := Y.newCold hexec (own := own) (C := cls) (index := ik) (n := 6) hown' hk' hins hini'
    (g := F0 m pc ls rest) rfl (by rw [hb]; exact d0) (Nat.le_refl _) (Nat.le_refl _)
  generalize hT1 : (T.setVm vm₁).pushCell { cls := cX, slots := kX.instanceTypes.map defaultValue, vm := .none } = T1 at X₁ st1
  have hcat : (Value.ref T.heap.size).category = 1 := rfl
  have hcellA : T1.heap[T.heap.size]? = some (freshCell cX kX) := by rw [← hT1]; exact State.heap_pushCell_size _ _
  have d3' : decode c.code (pc + 3) = .ok (.dup, 1) := by rw [hb]; exact d3
  have d4' : decode c.code (pc + 4) = .ok (.ldc_w is, 3) := by rw [hb]; exact d4
  have hstr' : vk_R own is text sa s' := vk_R.warm hW0 hstr
  obtain ⟨U, hsteps, hrun, hend, hW, hsame, ce, hce, hO⟩ := X₁.ctorThrowS hexec htr (own := own) (cls := cls) (names := names) (ic := ic) hown' hcls hnames h (fun x hx => nomatch hx) hfX hkX hcellA (by rw [hhp, hT]; exact Nat.le_refl _) (msg := .ref sa) rfl
    (g := { method := m, pc := pc + 7, locals := ls, stack := .ref sa :: .ref T.heap.size :: .ref T.heap.size :: rest, locked := none }) rfl hsize rfl rfl (rest := rest) rfl
    (by rw [hb]; exact d7) (by rw [hb]; exact d10) hout hRframes (by simp only [List.map_cons, List.sum_cons, hcat]; omega) hlocks
  obtain ⟨f1, f2⟩ := vx_frame hsame
  rw [hhp] at f1 f2
  have hWs : s.WarmedH U.vm := State.WarmedH.trans hW0 hW
  have hcl : s.vm.findClass cls = some ce.cls := by
    have h9 := hO.cls
    rw [hvm] at h9
    exact h9
  have hall : s.sameButNew ({ U with vm := s.vm } : State) locs mc ms := by
    subst hA
    obtain ⟨e1, e2⟩ := hsame
    rw [State.setFrames_setFrames] at e1
    have h2 : (T.setVm s.vm).sameButNew ({ U with vm := s.vm } : State) [] (0 + 1) (0 + 6) := ⟨e1, e2⟩
    have h3 := X.same.trans h2
    rw [List.append_nil] at h3
    exact h3.mono hc hs
  refine ⟨U, ?_, .threw T.heap.size, hrun, hend, Or.inr ⟨T.heap.size, rfl, cls, ce, locs, hx U hWs.alike f1 (fun q hq => f2 q hq (fun z hz => nomatch hz)), hce, hO.vm, hcl, hWs, hall, hf⟩⟩
  refine st1 _ ?_
  show Steps p.tables e below (T1.setTop { method := m, pc := pc + 3, locals := ls, stack := .ref T.heap.size :: rest, locked := none }) _
  jvm_step X₁.here [X₁.here.top, hexec, d3', Value.category]
  exact X₁.ldcStringW hexec (own := own) (text := text) (index := is) (a := sa) hown' hstr'.1 hstr'.2
    (g := { method := m, pc := pc + 4, locals := ls, stack := .ref T.heap.size :: .ref T.heap.size :: rest, locked := none }) rfl d4' _ hsteps
end Ends
section Bodies
variable {l : Launch}
theorem vx_ofW {y : MethodName} {ws ws' : List Cond} {rm : Room} {Pc : Array Value → State → Prop} {Qc : Array Value → State → Outcome → State → Prop} {XC : String → State → State → Prop} {mc ms : Nat} {free : Addr → Prop} {cc : ByteArray} {maxL : Nat} {ret : Option FieldType}
    (hy : plainName y.cls = true) (hw : ws = Cond.code y cc maxL ret :: ws')
    (body : ∀ p e s m args below meth c s₁, BodyLoose p l y (headSpec ws rm) cc maxL ret e s m args below meth c s₁ → c.maxLocals = maxL → (∀ x ∈ c.exceptionTable.toList, False) → Pc args s →
      W p l e (headSpec ws rm).room s m args below meth c s.heap [] 0 0 (vx_MQ below Qc XC args s mc ms free) (entryFrame m args maxL)) : vx_Met l y ws rm Pc Qc XC mc ms free := by
  refine MetFree.of_bodyS (code := cc) (maxLocals := maxL) (ret := ret) hy ?_ ?_
  · intro args s m h hn
    obtain ⟨meth, c, h1, h2, h3, h4, h5, h6, -, -⟩ := Cond.code_spec hn (atoms_spec (ws := ws) h _ (by rw [hw]; exact List.mem_cons_self))
    exact ⟨meth, c, h1, h2, h3, h4, h5, h6⟩
  · intro p e s m args below meth c s₁ B hml hP _
    have hh0 : s₁.heap = s.heap := by rw [B.state]; rfl
    have ht : ∀ x ∈ c.exceptionTable.toList, False := by
      obtain ⟨meth9, c9, h1, h2, -, -, -, -, h7, -⟩ := Cond.code_spec B.named (atoms_spec (ws := ws) B.pre _ (by rw [hw]; exact List.mem_cons_self))
      cases Option.some.inj (h1.symm.trans B.method)
      cases Option.some.inj (h2.symm.trans (Stand.of_body B).code)
      intro x hx
      rw [Array.isEmpty_iff.mp h7] at hx
      cases hx
    obtain ⟨t, a1, o, b1, b2, b3⟩ := body p e s m args below meth c s₁ B hml ht hP s₁ hh0 (Stand.of_body B)
    exact ⟨t, o, a1, b1, b2, b3⟩
/-- the table of a body with handlers -/
theorem vx_table {p : Program} {x y : MethodName} {S : Spec} {cc bytes : ByteArray} {maxL maxL' : Nat} {ret ret' : Option FieldType} {e : Env} {s s₁ : State} {m : MethodId} {args : Array Value} {below : List Frame} {meth : Method} {c : Code} {hh : List (Nat × Nat × Nat × Nat)}
    (B : BodyLoose p l y S cc maxL ret e s m args below meth c s₁) (h : (Cond.codeWith y bytes maxL' ret' hh).before args s = true) : c.exceptionTable.toList = tableOf hh := by
  obtain ⟨m9, meth9, c9, hn9, h1, h2, -, -, h6, -⟩ := Cond.codeWith_spec h
  cases Option.some.inj (hn9.symm.trans B.named)
  cases Option.some.inj (h1.symm.trans B.method)
  cases Option.some.inj (h2.symm.trans (Stand.of_body B).code)
  rw [← h6, table_eq]
end Bodies
end VXA
/-! ===== END ===== -/
/-! ===== BEGIN a static call of a method with an exception table ===== -/
section VXS
variable {p : Program} {l : Launch} {e : Env} {R : Room} {s : State} {m : MethodId} {args : Array Value} {below : List Frame} {meth : Method} {c : Code} {T : State} {H : Heap} {locs : List Loc} {cells slots : Nat}
abbrev vx_CSW (R : Room) (s : State) (args : Array Value) (own : String) (index : Nat) (y : MethodName) (bytes : ByteArray) (maxL : Nat) (ret : Option FieldType) (hh : List (Nat × Nat × Nat × Nat)) (ws : List Cond) (rm : Room) (mc ms n : Nat) : Prop :=
  (rm.cells = mc ∧ rm.slots = ms ∧ rm.frames + 1 ≤ R.frames ∧ 8 + (maxL + 11) + rm.locals ≤ R.locals ∧ (∀ w ∈ ws, ∀ (a' : Array Value) (U : State), s.WarmedH U.vm → w.before a' U = true) ∧ Cond.codeWith y bytes maxL ret hh ∈ ws) ∧
  (Cond.codeWith y bytes maxL ret hh).before args s = true ∧ (Cond.initialized y.cls).before args s = true ∧ (y.cls ≠ "java/lang/invoke/MethodHandle" ∧ y.cls ≠ "java/lang/invoke/VarHandle") ∧
  (∀ sig, parseMethodDescriptor y.desc = some sig → n = sig.parameters.length) ∧ (Cond.methodLink own index y).before args s = true ∧ (Cond.static y).before args s = true
theorem vx_cwSW {own : String} {index maxL mc ms : Nat} {y : MethodName} {bytes : ByteArray} {ret : Option FieldType} {hh : List (Nat × Nat × Nat × Nat)} {Ts ws ws' : List Cond} {rm : Room} (n : Nat) (ht : ∀ w ∈ Ts, w.before args s = true) (hT : GoodIn Ts (va_wsS own index y ws)) (hw : ws = Cond.codeWith y bytes maxL ret hh :: ws') (hrc : rm.cells = mc) (hrs : rm.slots = ms)
    (hd : y.cls ≠ "java/lang/invoke/MethodHandle" ∧ y.cls ≠ "java/lang/invoke/VarHandle" ∧ (parseMethodDescriptor y.desc).map (fun d => d.parameters.length) = some n) (hR : rm.frames + 1 ≤ R.frames ∧ 8 + (maxL + 11) + rm.locals ≤ R.locals) :
    vx_CSW R s args own index y bytes maxL ret hh ws rm mc ms n := by
  have ok : ∀ w ∈ va_wsS own index y ws, w.before args s = true := fun w h => ht w (hT w h).1
  have hG : GoodIn Ts ws := fun w h => hT w (by unfold va_wsS; exact List.mem_append_right _ h)
  have hc : Cond.codeWith y bytes maxL ret hh ∈ ws := by rw [hw]; exact List.mem_cons_self
  refine ⟨⟨hrc, hrs, hR.1, hR.2, pay_in ht hG, hc⟩, ht _ (hG _ hc).1, ok _ (by simp [va_wsS]), ⟨hd.1, hd.2.1⟩, fun sig h => ?_, ok _ (by simp [va_wsS]), ok _ (by simp [va_wsS])⟩
  have h2 := hd.2.2
  rw [h] at h2
  exact (Option.some.inj h2).symm
theorem vx_callSW (X : Stand p l e R s m args below meth c T locs cells slots) (hexec : p.tables.exec = Jvm.exec) {own : String} {index : Nat} {y : MethodName} {bytes : ByteArray} {maxL : Nat} {ret : Option FieldType} {hh : List (Nat × Nat × Nat × Nat)}
    (hown : s.vm.findClass own = some m.cls) (hlink : (Cond.methodLink own index y).before args s = true) (hstat : (Cond.static y).before args s = true) (hinit : (Cond.initialized y.cls).before args s = true)
    (hcode : (Cond.codeWith y bytes maxL ret hh).before args s = true) (hy : y.cls ≠ "java/lang/invoke/MethodHandle" ∧ y.cls ≠ "java/lang/invoke/VarHandle")
    {W9 : Nat} {Pre : Pt → Array Value → Prop} {Post : Pt → Array Value → Option Value → Pt → Prop} (hK : Back l R p e below s args y 3 W9 Pre Post)
    {g : JFrame} (hg : g.method = m) (hsize : g.locals.size = c.maxLocals) {argsL rest : List Value} (hlen : ∀ sig, parseMethodDescriptor y.desc = some sig → argsL.length = sig.parameters.length)
    (hstack : g.stack = argsL.reverse ++ rest) (hW : 2 * g.monitorRoom + (rest.map fun v => v.category).sum ≤ W9) (hdg : decode c.code g.pc = .ok (.invokestatic index, 3))
    (hpre : ∀ vm₁, s.WarmedH vm₁ → Pre ⟨T.setVm vm₁, locs, cells, slots⟩ argsL.toArray) :
    ∃ (v : Option Value) (vm₁ : Vm) (B : Pt), s.WarmedH vm₁ ∧ Stand p l e R s m args below meth c B.U B.locs B.cells B.slots ∧ Post ⟨T.setVm vm₁, locs, cells, slots⟩ argsL.toArray v B ∧
      ∀ target, Steps p.tables e below (B.U.setTop { g with pc := g.pc + 3, stack := v.toList ++ rest }) target → Steps p.tables e below (T.setTop g) target := by
  obtain ⟨mk, methM, cM, hnamed, hmethM, -, -, -, -, -, -, hsigM⟩ := Cond.codeWith_spec hcode
  have hstatic : methM.isStatic = true := Cond.static_spec hnamed hmethM hstat
  obtain ⟨kP, hkP, -⟩ := className_of_methodNamed hnamed
  have hinitP : kP.init = .initialized := Cond.initialized_spec (findClass_of_methodNamed hnamed) hkP hinit
  obtain ⟨vm₁, X₁, hstep₁⟩ := X.invokestatic hexec hown hlink hnamed hmethM hstatic hkP hinitP hy (g := g) hg (argsL := argsL) (rest := rest) (hlen _ hsigM) hstack hdg
  obtain ⟨v, B, X', hpost, hsteps⟩ := hK m meth c ⟨T.setVm vm₁, locs, cells, slots⟩ { g with stack := rest } (.invokestatic index) mk argsL.toArray X₁ hg hsize hdg hW (X₁.named hnamed) (hpre vm₁ X₁.warmed)
  exact ⟨v, vm₁, B, X₁.warmed, X', hpost, fun target h => hstep₁ _ fun acts => by rw [doInvoke_state]; exact hsteps.trans h⟩
theorem vx_runSW {y : MethodName} {bytes cc : ByteArray} {maxL nL mc ms n index : Nat} {ret : Option FieldType} {hh : List (Nat × Nat × Nat × Nat)} {ws : List Cond} {rm : Room} {Pc : Array Value → State → Prop} {Qc : Array Value → State → Outcome → State → Prop} {free : Addr → Prop} {Ts : List Cond} {own : String} {As rest : List Value} {g : JFrame}
    (S : CallFix p m c cc nL s args Ts own) (hM : Met l y ws rm Pc Qc mc ms free) (cw : vx_CSW R s args own index y bytes maxL ret hh ws rm mc ms n) (hp : PreS s H Pc As)
    (hg : g.method = m) (hn : As.length = n) (hsize : g.locals.size = nL) (hstack : g.stack = As.reverse ++ rest) (hW : 2 * g.monitorRoom + (rest.map fun v => v.category).sum ≤ 8) (hdg : decode cc g.pc = .ok (.invokestatic index, 3)) (hf : cells + mc ≤ R.cells ∧ slots + ms ≤ R.slots) :
    va_Run p l e R s m args below meth c H locs cells slots mc ms g rest (Qc As.toArray) (free) := by
  obtain ⟨⟨hrc, hrs, hfr, hlo, hws, hcw⟩, hcode, hini, hy, hlen, hl, hstt⟩ := cw
  have hK : Back l R p e below s args y 3 8 (PreOf R mc ms Pc) (PostOf Qc mc ms free) := va_backW (hh := hh) (bytes := bytes) (maxL := maxL) (ret := ret) hM hp.1 hrc hrs hfr hlo hws hcw (fun a' U hW => word_at hW (Or.inl (by first | rfl | simp [Cond.onTables, Cond.keeps, Cond.steady])) hini)
  obtain ⟨hx, hb, hml, ho, -⟩ := S
  intro T hT X
  obtain ⟨v, vm₁, ⟨U', l2, c2, s2⟩, hW₁, X', ⟨g', mk, t, L, e1, e2, hq, h1, hL, h2, h3⟩, st⟩ := vx_callSW X hx (hh := hh) (bytes := bytes) (maxL := maxL) (ret := ret) ho hl hstt hini hcode hy hK hg (hsize.trans hml.symm) (argsL := As) (rest := rest) (fun sig h => hn.trans (hlen sig h)) hstack hW (by rw [hb]; exact hdg)
    (fun vm₁ hW₁ => ⟨hf.1, hf.2, hp.2 (T.setVm vm₁) hT hW₁⟩)
  dsimp only [Pt.U, Pt.locs, Pt.cells, Pt.slots] at X' e1 e2 h1 h2 h3 st
  subst h1; subst h2; subst h3
  exact ⟨v, (T.setVm vm₁).calling g' mk As.toArray, t, U', L, hT, X', hL, e1, e2, hq, st⟩
/-- a thing of a world lies in the heap -/
theorem vx_lt {D : va_G} {cl : List vw_C} {ws : va_W} {H1 : Heap} (h : va_P D cl ws H1) {k : Nat} {q : Nat × va_E} (hk : ws[k]? = some q) : q.1 < H1.size := (h k q hk).lt
end VXS
/-! ===== END ===== -/
/-! ===== BEGIN methods with a table of their own: called by a name, returning or throwing ===== -/
section VXH
/-! vx_backW, vx_callVX, vx_callSX, vx_callVW, vx_runVW, vx_runVX, vx_runSX, vx_ofWH follow the same proofs as their sisters above (Free/Laws.lean, Shelf42/LK1.lean); vx_outP calls Shelf42/NT130.lean (outThrough). -/
section
variable {l : Launch} {R : Room} {p : Program} {e : Env} {below : List Frame} {s : State} {sargs : Array Value} {y : MethodName} {len W9 : Nat}
theorem vx_backW {ws : List Cond} {rm : Room} {Pc : Array Value → State → Prop} {Qc : Array Value → State → Outcome → State → Prop} {XC : String → State → State → Prop} {mc ms : Nat} {free : Addr → Prop} {bytes : ByteArray} {maxL : Nat} {ret : Option FieldType} {hh : List (Nat × Nat × Nat × Nat)}
    (hM : vx_Met l y ws rm Pc Qc XC mc ms free) (hblind : FrameBlind Pc) (hrc : rm.cells = mc) (hrs : rm.slots = ms)
    (hframes : rm.frames + 1 ≤ R.frames) (hlocals : W9 + (maxL + 11) + rm.locals ≤ R.locals)
    (hws : ∀ w ∈ ws, ∀ a' U, s.WarmedH U.vm → w.before a' U = true) (hcode : Cond.codeWith y bytes maxL ret hh ∈ ws) (hinit : ∀ a' U, s.WarmedH U.vm → (Cond.initialized y.cls).before a' U = true) :
    vx_Back l R p e below s sargs y len W9 (PreOf R mc ms Pc) (PostOf Qc mc ms free) (vx_Post XC mc ms free) := by
  intro m meth c A g ig mk a X hg hsize hdg hW hn hp
  have h1 : (headSpec ws rm).pre.before a A.U = true := atoms_intro fun w hw => hws w hw _ _ X.warmed
  have h2 : (Cond.codeWith y bytes maxL ret hh).before a A.U = true := hws _ hcode _ _ X.warmed
  have h3 : (Cond.initialized y.cls).before a A.U = true := hinit _ _ X.warmed
  have h4 : A.cells + (headSpec ws rm).room.cells ≤ R.cells := by rw [show (headSpec ws rm).room.cells = mc from hrc]; exact hp.1
  have h5 : A.slots + (headSpec ws rm).room.slots ≤ R.slots := by rw [show (headSpec ws rm).room.slots = ms from hrs]; exact hp.2.1
  have hPc : Pc a (A.U.calling g mk a) := hblind _ _ _ _ hp.2.2
  obtain ⟨U, Ls, c0, s0⟩ := A
  dsimp only [Pt.U, Pt.locs, Pt.cells, Pt.slots] at h1 h2 h3 h4 h5 X hn hPc ⊢
  obtain ⟨m9, methY, cY, hn9, hmY, hcY, -, hlY, -⟩ := Cond.codeWith_spec h2
  cases Option.some.inj (hn9.symm.trans hn)
  obtain ⟨kY, hkY, -⟩ := className_of_methodNamed hn
  have hinitY : kY.init = .initialized := Cond.initialized_spec (findClass_of_methodNamed hn) hkY h3
  have h : At U g.method c below := by rw [hg]; exact X.here
  have hlocals9 : W9 + (maxL + 11) + (headSpec ws rm).room.locals ≤ R.locals := hlocals
  have happ : (headSpec ws rm).appliesLoose y e.platform (U.calling g mk a) = true :=
    Spec.appliesLoose_calling (g := g) h hdg hn hkY hinitY
      (X.room_calling (g := g) (R' := (headSpec ws rm).room) hsize hmY hcY hframes (by rw [hlY]; omega) h4 h5) h1
  obtain ⟨mid, hmid⟩ := h.above
  have hfr : (U.setTop g).frames = (.java g :: mid) ++ below := by rw [State.frames_setTop' g h.top, hmid]; rfl
  obtain ⟨o, s₂, hsteps, -, hend, hq⟩ := Steps.callFree hM p X.admits X.cas X.clock (acts := []) hfr happ hPc trivial
  have hq' : vx_Q Qc XC mc ms free a (U.calling g mk a) o s₂ := hq
  rw [State.frames_setTop' g h.top] at hend
  obtain ⟨g₀, hg0⟩ := Option.isSome_iff_exists.mp h.top
  obtain ⟨r, hr⟩ := State.topJava?_eq_some.mp hg0
  have hr' : (({ U with heap := s₂.heap, slotsUsed := s₂.slotsUsed } : State).setVm s₂.vm).frames = .java g₀ :: r := hr
  rcases hq' with ⟨hqc, L, hfe, hL⟩ | ⟨q, rfl, E, ce, L, hx, hce, hcv, hcl, hW₂, hsm, hL⟩
  · obtain ⟨⟨v, rfl⟩, hW₂, e2, q2, q3, q4, q5, q6⟩ := id hfe
    have e3 : s₂ = ({ (U.calling g mk a).setFrames s₂.frames with heap := s₂.heap, slotsUsed := s₂.slotsUsed } : State).setVm s₂.vm := by
      have : s₂ = ({ s₂ with vm := (U.calling g mk a).vm } : State).setVm s₂.vm := rfl
      rw [e2] at this
      exact this
    obtain ⟨c₂, i₂, len₂, hc₂, hd₂, hf₂⟩ := hend
    have hW' : U.WarmedH s₂.vm := hW₂
    have hcc : c₂ = c := by
      have h1 : s₂.code? g.method = U.code? g.method := by
        rw [State.code?_eq, State.code?_eq, hW'.alike.method?]
      exact Option.some.inj (hc₂.symm.trans (h1.trans h.code))
    subst hcc
    have hlen : len₂ = len := by rw [hdg] at hd₂; cases hd₂; rfl
    subst hlen
    have hs₂ : s₂ = (({ U with heap := s₂.heap, slotsUsed := s₂.slotsUsed } : State).setVm s₂.vm).setTop { g with pc := g.pc + len₂, stack := v.toList ++ g.stack } := by
      refine e3.trans ?_
      rw [hf₂, State.calling_eq h.top, State.setFrames_setFrames, State.setTop_of_frames _ hr', hr]
      rfl
    have hsame : U.sameButNew ({ U with heap := s₂.heap, slotsUsed := s₂.slotsUsed } : State) L mc ms := by
      refine ⟨?_, q2, q3, q4, q5, q6⟩
      obtain ⟨t, ht, -⟩ := State.frames_cons hr
      show ({ U with heap := s₂.heap, slotsUsed := s₂.slotsUsed } : State) = { U.setFrames U.frames with heap := s₂.heap, slotsUsed := s₂.slotsUsed }
      rw [State.setFrames_self ht]
    subst hg
    refine Or.inl ⟨v, ⟨(({ U with heap := s₂.heap, slotsUsed := s₂.slotsUsed } : State).setVm s₂.vm), Ls ++ L, c0 + mc, s0 + ms⟩,
      ⟨X.admits, X.cas, X.clock, X.frames, X.room, X.hears, X.method, X.code, (X.here.setHeapUsed s₂.heap s₂.slotsUsed).setVm hW'.alike, X.tail, State.WarmedH.trans X.warmed hW', X.limits, X.bytes, X.same.trans (hsame.setVm s.vm)⟩,
      ⟨g, mk, s₂, L, rfl, rfl, hqc, rfl, hL, rfl, rfl⟩, ?_⟩
    show Steps p.tables e below _ ((({ U with heap := s₂.heap, slotsUsed := s₂.slotsUsed } : State).setVm s₂.vm).setTop { g with pc := g.pc + len₂, stack := v.toList ++ g.stack })
    rw [← hs₂]
    exact hsteps
  · obtain ⟨e2, q2, q3, q4, q5, q6⟩ := id hsm
    have e3 : s₂ = ({ (U.calling g mk a).setFrames s₂.frames with heap := s₂.heap, slotsUsed := s₂.slotsUsed } : State).setVm s₂.vm := by
      have : s₂ = ({ s₂ with vm := (U.calling g mk a).vm } : State).setVm s₂.vm := rfl
      rw [e2] at this
      exact this
    have hf₂ : s₂.frames = .throwing q :: .java g :: U.frames.tail := hend
    have hW' : U.WarmedH s₂.vm := hW₂
    have hs₂ : s₂ = ((({ U with heap := s₂.heap, slotsUsed := s₂.slotsUsed } : State).setVm s₂.vm).setTop g).pushFrame (.throwing q) := by
      refine e3.trans ?_
      rw [hf₂, State.calling_eq h.top, State.setFrames_setFrames, State.pushFrame, State.frames_setTop _ hr', State.setTop_of_frames _ hr', State.setFrames_setFrames, hr]
      rfl
    have hsame : U.sameButNew ({ U with heap := s₂.heap, slotsUsed := s₂.slotsUsed } : State) L mc ms := by
      refine ⟨?_, q2, q3, q4, q5, q6⟩
      obtain ⟨t, ht, -⟩ := State.frames_cons hr
      show ({ U with heap := s₂.heap, slotsUsed := s₂.slotsUsed } : State) = { U.setFrames U.frames with heap := s₂.heap, slotsUsed := s₂.slotsUsed }
      rw [State.setFrames_self ht]
    subst hg
    refine Or.inr ⟨q, ⟨(({ U with heap := s₂.heap, slotsUsed := s₂.slotsUsed } : State).setVm s₂.vm), Ls ++ L, c0 + mc, s0 + ms⟩,
      ⟨X.admits, X.cas, X.clock, X.frames, X.room, X.hears, X.method, X.code, (X.here.setHeapUsed s₂.heap s₂.slotsUsed).setVm hW'.alike, X.tail, State.WarmedH.trans X.warmed hW', X.limits, X.bytes, X.same.trans (hsame.setVm s.vm)⟩,
      ⟨g, mk, s₂, L, E, ce, rfl, rfl, hx, hce, hcv, hcl, rfl, hL, rfl, rfl⟩, ?_⟩
    show Steps p.tables e below _ (((({ U with heap := s₂.heap, slotsUsed := s₂.slotsUsed } : State).setVm s₂.vm).setTop g).pushFrame (.throwing q))
    rw [← hs₂]
    exact hsteps
end
variable {p : Program} {l : Launch} {e : Env} {R : Room} {s : State} {m : MethodId} {args : Array Value} {below : List Frame} {meth : Method} {c : Code} {T : State} {H : Heap} {locs : List Loc} {cells slots : Nat}
theorem vx_callVX (X : Stand p l e R s m args below meth c T locs cells slots) (hexec : p.tables.exec = Jvm.exec) {own C : String} {index : Nat} {y : MethodName} {bytes : ByteArray} {maxL : Nat} {ret : Option FieldType} {hh : List (Nat × Nat × Nat × Nat)}
    (hown : s.vm.findClass own = some m.cls) (hlink : (Cond.methodLink own index y).before args s = true) (hinst : (Cond.instanceMethod y).before args s = true) (hsel : (Cond.selects C y y).before args s = true)
    (hcode : (Cond.codeWith y bytes maxL ret hh).before args s = true) (hy : y.cls ≠ "java/lang/invoke/MethodHandle" ∧ y.cls ≠ "java/lang/invoke/VarHandle")
    {W9 : Nat} {Pre : Pt → Array Value → Prop} {Post : Pt → Array Value → Option Value → Pt → Prop} {PostX : Pt → Array Value → Addr → Pt → Prop} (hK : vx_Back l R p e below s args y 3 W9 Pre Post PostX)
    {b : Addr} {cellB : Cell} (hcell : T.heap[b]? = some cellB) (hobj : cellB.vm.isStatics = false) (hcls : s.vm.findClass C = some cellB.cls)
    {g : JFrame} (hg : g.method = m) (hsize : g.locals.size = c.maxLocals) {argsL rest : List Value} (hlen : ∀ sig, parseMethodDescriptor y.desc = some sig → argsL.length = sig.parameters.length)
    (hstack : g.stack = argsL.reverse ++ .ref b :: rest) (hW : 2 * g.monitorRoom + (rest.map fun v => v.category).sum ≤ W9) (hdg : decode c.code g.pc = .ok (.invokevirtual index, 3))
    (hpre : ∀ vm₁, s.WarmedH vm₁ → Pre ⟨T.setVm vm₁, locs, cells, slots⟩ (Value.ref b :: argsL).toArray) :
    (∃ (v : Option Value) (vm₁ : Vm) (B : Pt), s.WarmedH vm₁ ∧ Stand p l e R s m args below meth c B.U B.locs B.cells B.slots ∧ Post ⟨T.setVm vm₁, locs, cells, slots⟩ (Value.ref b :: argsL).toArray v B ∧
      ∀ target, Steps p.tables e below (B.U.setTop { g with pc := g.pc + 3, stack := v.toList ++ rest }) target → Steps p.tables e below (T.setTop g) target) ∨
    (∃ (q : Addr) (vm₁ : Vm) (B : Pt), s.WarmedH vm₁ ∧ Stand p l e R s m args below meth c B.U B.locs B.cells B.slots ∧ PostX ⟨T.setVm vm₁, locs, cells, slots⟩ (Value.ref b :: argsL).toArray q B ∧
      Steps p.tables e below (T.setTop g) ((B.U.setTop { g with stack := rest }).pushFrame (.throwing q))) := by
  obtain ⟨mk, methM, hnamed, hmethM, hstM, habM⟩ := Cond.instanceMethod_spec hinst
  obtain ⟨m8, methM', cM, hn8, hmethM', -, -, -, -, -, -, hsigM⟩ := Cond.codeWith_spec hcode
  cases Option.some.inj (hn8.symm.trans hnamed)
  cases hmethM.symm.trans hmethM'
  obtain ⟨c2, r2, m2, q1, q2, q3, q4, kP, hkP, hkPi⟩ := Cond.selects_spec hsel
  cases hcls.symm.trans q1
  cases (State.methodFound?_of_named hnamed hy).symm.trans q2
  cases hnamed.symm.trans q3
  have hselP : selectMethod e.platform s.vm cellB.cls mk = .method mk := by rw [Launch.admits_selectMethod X.admits]; exact q4
  obtain ⟨vm₁, X₁, hstep₁⟩ := X.invokevirtual hexec hown hlink hnamed hmethM hstM hkP hkPi hy (a := b) (cell := cellB) hcell
    (fun z h => by rw [h] at hobj; cases hobj) hselP hmethM habM hkP hkPi (g := g) hg (argsL := argsL) (rest := rest) (hlen _ hsigM) hstack hdg
  rcases hK m meth c ⟨T.setVm vm₁, locs, cells, slots⟩ { g with stack := rest } (.invokevirtual index) mk (Value.ref b :: argsL).toArray X₁ hg hsize hdg hW (X₁.named hnamed) (hpre vm₁ X₁.warmed) with ⟨v, B, X', hpost, hsteps⟩ | ⟨q, B, X', hpost, hsteps⟩
  · exact Or.inl ⟨v, vm₁, B, X₁.warmed, X', hpost, fun target h => hstep₁ _ fun acts => by rw [doInvoke_state]; exact hsteps.trans h⟩
  · exact Or.inr ⟨q, vm₁, B, X₁.warmed, X', hpost, hstep₁ _ fun acts => by rw [doInvoke_state]; exact hsteps⟩
theorem vx_callSX (X : Stand p l e R s m args below meth c T locs cells slots) (hexec : p.tables.exec = Jvm.exec) {own : String} {index : Nat} {y : MethodName} {bytes : ByteArray} {maxL : Nat} {ret : Option FieldType} {hh : List (Nat × Nat × Nat × Nat)}
    (hown : s.vm.findClass own = some m.cls) (hlink : (Cond.methodLink own index y).before args s = true) (hstat : (Cond.static y).before args s = true) (hinit : (Cond.initialized y.cls).before args s = true)
    (hcode : (Cond.codeWith y bytes maxL ret hh).before args s = true) (hy : y.cls ≠ "java/lang/invoke/MethodHandle" ∧ y.cls ≠ "java/lang/invoke/VarHandle")
    {W9 : Nat} {Pre : Pt → Array Value → Prop} {Post : Pt → Array Value → Option Value → Pt → Prop} {PostX : Pt → Array Value → Addr → Pt → Prop} (hK : vx_Back l R p e below s args y 3 W9 Pre Post PostX)
    {g : JFrame} (hg : g.method = m) (hsize : g.locals.size = c.maxLocals) {argsL rest : List Value} (hlen : ∀ sig, parseMethodDescriptor y.desc = some sig → argsL.length = sig.parameters.length)
    (hstack : g.stack = argsL.reverse ++ rest) (hW : 2 * g.monitorRoom + (rest.map fun v => v.category).sum ≤ W9) (hdg : decode c.code g.pc = .ok (.invokestatic index, 3))
    (hpre : ∀ vm₁, s.WarmedH vm₁ → Pre ⟨T.setVm vm₁, locs, cells, slots⟩ argsL.toArray) :
    (∃ (v : Option Value) (vm₁ : Vm) (B : Pt), s.WarmedH vm₁ ∧ Stand p l e R s m args below meth c B.U B.locs B.cells B.slots ∧ Post ⟨T.setVm vm₁, locs, cells, slots⟩ argsL.toArray v B ∧
      ∀ target, Steps p.tables e below (B.U.setTop { g with pc := g.pc + 3, stack := v.toList ++ rest }) target → Steps p.tables e below (T.setTop g) target) ∨
    (∃ (q : Addr) (vm₁ : Vm) (B : Pt), s.WarmedH vm₁ ∧ Stand p l e R s m args below meth c B.U B.locs B.cells B.slots ∧ PostX ⟨T.setVm vm₁, locs, cells, slots⟩ argsL.toArray q B ∧
      Steps p.tables e below (T.setTop g) ((B.U.setTop { g with stack := rest }).pushFrame (.throwing q))) := by
  obtain ⟨mk, methM, cM, hnamed, hmethM, -, -, -, -, -, -, hsigM⟩ := Cond.codeWith_spec hcode
  have hstatic : methM.isStatic = true := Cond.static_spec hnamed hmethM hstat
  obtain ⟨kP, hkP, -⟩ := className_of_methodNamed hnamed
  have hinitP : kP.init = .initialized := Cond.initialized_spec (findClass_of_methodNamed hnamed) hkP hinit
  obtain ⟨vm₁, X₁, hstep₁⟩ := X.invokestatic hexec hown hlink hnamed hmethM hstatic hkP hinitP hy (g := g) hg (argsL := argsL) (rest := rest) (hlen _ hsigM) hstack hdg
  rcases hK m meth c ⟨T.setVm vm₁, locs, cells, slots⟩ { g with stack := rest } (.invokestatic index) mk argsL.toArray X₁ hg hsize hdg hW (X₁.named hnamed) (hpre vm₁ X₁.warmed) with ⟨v, B, X', hpost, hsteps⟩ | ⟨q, B, X', hpost, hsteps⟩
  · exact Or.inl ⟨v, vm₁, B, X₁.warmed, X', hpost, fun target h => hstep₁ _ fun acts => by rw [doInvoke_state]; exact hsteps.trans h⟩
  · exact Or.inr ⟨q, vm₁, B, X₁.warmed, X', hpost, hstep₁ _ fun acts => by rw [doInvoke_state]; exact hsteps⟩
theorem vx_callVW (X : Stand p l e R s m args below meth c T locs cells slots) (hexec : p.tables.exec = Jvm.exec) {own C : String} {index : Nat} {y : MethodName} {bytes : ByteArray} {maxL : Nat} {ret : Option FieldType} {hh : List (Nat × Nat × Nat × Nat)}
    (hown : s.vm.findClass own = some m.cls) (hlink : (Cond.methodLink own index y).before args s = true) (hinst : (Cond.instanceMethod y).before args s = true) (hsel : (Cond.selects C y y).before args s = true)
    (hcode : (Cond.codeWith y bytes maxL ret hh).before args s = true) (hy : y.cls ≠ "java/lang/invoke/MethodHandle" ∧ y.cls ≠ "java/lang/invoke/VarHandle")
    {W9 : Nat} {Pre : Pt → Array Value → Prop} {Post : Pt → Array Value → Option Value → Pt → Prop} (hK : Back l R p e below s args y 3 W9 Pre Post)
    {b : Addr} {cellB : Cell} (hcell : T.heap[b]? = some cellB) (hobj : cellB.vm.isStatics = false) (hcls : s.vm.findClass C = some cellB.cls)
    {g : JFrame} (hg : g.method = m) (hsize : g.locals.size = c.maxLocals) {argsL rest : List Value} (hlen : ∀ sig, parseMethodDescriptor y.desc = some sig → argsL.length = sig.parameters.length)
    (hstack : g.stack = argsL.reverse ++ .ref b :: rest) (hW : 2 * g.monitorRoom + (rest.map fun v => v.category).sum ≤ W9) (hdg : decode c.code g.pc = .ok (.invokevirtual index, 3))
    (hpre : ∀ vm₁, s.WarmedH vm₁ → Pre ⟨T.setVm vm₁, locs, cells, slots⟩ (Value.ref b :: argsL).toArray) :
    ∃ (v : Option Value) (vm₁ : Vm) (B : Pt), s.WarmedH vm₁ ∧ Stand p l e R s m args below meth c B.U B.locs B.cells B.slots ∧ Post ⟨T.setVm vm₁, locs, cells, slots⟩ (Value.ref b :: argsL).toArray v B ∧
      ∀ target, Steps p.tables e below (B.U.setTop { g with pc := g.pc + 3, stack := v.toList ++ rest }) target → Steps p.tables e below (T.setTop g) target := by
  obtain ⟨mk, methM, hnamed, hmethM, hstM, habM⟩ := Cond.instanceMethod_spec hinst
  obtain ⟨m8, methM', cM, hn8, hmethM', -, -, -, -, -, -, hsigM⟩ := Cond.codeWith_spec hcode
  cases Option.some.inj (hn8.symm.trans hnamed)
  cases hmethM.symm.trans hmethM'
  obtain ⟨c2, r2, m2, q1, q2, q3, q4, kP, hkP, hkPi⟩ := Cond.selects_spec hsel
  cases hcls.symm.trans q1
  cases (State.methodFound?_of_named hnamed hy).symm.trans q2
  cases hnamed.symm.trans q3
  have hselP : selectMethod e.platform s.vm cellB.cls mk = .method mk := by rw [Launch.admits_selectMethod X.admits]; exact q4
  obtain ⟨vm₁, X₁, hstep₁⟩ := X.invokevirtual hexec hown hlink hnamed hmethM hstM hkP hkPi hy (a := b) (cell := cellB) hcell
    (fun z h => by rw [h] at hobj; cases hobj) hselP hmethM habM hkP hkPi (g := g) hg (argsL := argsL) (rest := rest) (hlen _ hsigM) hstack hdg
  obtain ⟨v, B, X', hpost, hsteps⟩ := hK m meth c ⟨T.setVm vm₁, locs, cells, slots⟩ { g with stack := rest } (.invokevirtual index) mk (Value.ref b :: argsL).toArray X₁ hg hsize hdg hW (X₁.named hnamed) (hpre vm₁ X₁.warmed)
  exact ⟨v, vm₁, B, X₁.warmed, X', hpost, fun target h => hstep₁ _ fun acts => by rw [doInvoke_state]; exact hsteps.trans h⟩
abbrev vx_CVW (R : Room) (s : State) (args : Array Value) (own C : String) (index : Nat) (y : MethodName) (bytes : ByteArray) (maxL : Nat) (ret : Option FieldType) (hh : List (Nat × Nat × Nat × Nat)) (ws : List Cond) (rm : Room) (mc ms n : Nat) : Prop :=
  (rm.cells = mc ∧ rm.slots = ms ∧ rm.frames + 1 ≤ R.frames ∧ 8 + (maxL + 11) + rm.locals ≤ R.locals ∧ (∀ w ∈ ws, ∀ (a' : Array Value) (U : State), s.WarmedH U.vm → w.before a' U = true) ∧ Cond.codeWith y bytes maxL ret hh ∈ ws) ∧
  (Cond.codeWith y bytes maxL ret hh).before args s = true ∧ (Cond.initialized y.cls).before args s = true ∧ (y.cls ≠ "java/lang/invoke/MethodHandle" ∧ y.cls ≠ "java/lang/invoke/VarHandle") ∧
  (∀ sig, parseMethodDescriptor y.desc = some sig → n = sig.parameters.length) ∧ (Cond.methodLink own index y).before args s = true ∧ (Cond.instanceMethod y).before args s = true ∧ (Cond.selects C y y).before args s = true
theorem vx_cwVW {own C : String} {index maxL mc ms : Nat} {y : MethodName} {bytes : ByteArray} {ret : Option FieldType} {hh : List (Nat × Nat × Nat × Nat)} {Ts ws ws' : List Cond} {rm : Room} (n : Nat) (ht : ∀ w ∈ Ts, w.before args s = true) (hT : GoodIn Ts (wsV own index C y ws)) (hw : ws = Cond.codeWith y bytes maxL ret hh :: ws') (hrc : rm.cells = mc) (hrs : rm.slots = ms)
    (hd : y.cls = C ∧ y.cls ≠ "java/lang/invoke/MethodHandle" ∧ y.cls ≠ "java/lang/invoke/VarHandle" ∧ (parseMethodDescriptor y.desc).map (fun d => d.parameters.length) = some n) (hR : rm.frames + 1 ≤ R.frames ∧ 8 + (maxL + 11) + rm.locals ≤ R.locals) :
    vx_CVW R s args own C index y bytes maxL ret hh ws rm mc ms n := by
  obtain ⟨hC, hd⟩ := hd
  subst hC
  have ok : ∀ w ∈ wsV own index y.cls y ws, w.before args s = true := fun w h => ht w (hT w h).1
  have hG : GoodIn Ts ws := fun w h => hT w (by unfold wsV; exact List.mem_append_right _ h)
  have hc : Cond.codeWith y bytes maxL ret hh ∈ ws := by rw [hw]; exact List.mem_cons_self
  refine ⟨⟨hrc, hrs, hR.1, hR.2, pay_in ht hG, hc⟩, ht _ (hG _ hc).1, ok _ (by simp [wsV]), ⟨hd.1, hd.2.1⟩, fun sig h => ?_, ok _ (by simp [wsV]), ok _ (by simp [wsV]), ok _ (by simp [wsV])⟩
  have h2 := hd.2.2
  rw [h] at h2
  exact (Option.some.inj h2).symm
theorem vx_runVW {y : MethodName} {bytes cc : ByteArray} {maxL nL mc ms n index : Nat} {ret : Option FieldType} {hh : List (Nat × Nat × Nat × Nat)} {ws : List Cond} {rm : Room} {Pc : Array Value → State → Prop} {Qc : Array Value → State → Outcome → State → Prop} {free : Addr → Prop} {Ts : List Cond} {own C : String} {b : Addr} {As rest : List Value} {g : JFrame}
    (S : CallFix p m c cc nL s args Ts own) (hM : Met l y ws rm Pc Qc mc ms free) (cw : vx_CVW R s args own C index y bytes maxL ret hh ws rm mc ms n) (hp : PreV s H C b Pc As)
    (hg : g.method = m) (hn : As.length = n) (hsize : g.locals.size = nL) (hstack : g.stack = As.reverse ++ .ref b :: rest) (hW : 2 * g.monitorRoom + (rest.map fun v => v.category).sum ≤ 8) (hdg : decode cc g.pc = .ok (.invokevirtual index, 3)) (hf : cells + mc ≤ R.cells ∧ slots + ms ≤ R.slots) :
    va_Run p l e R s m args below meth c H locs cells slots mc ms g rest (Qc (Value.ref b :: As).toArray) free := by
  obtain ⟨⟨hrc, hrs, hfr, hlo, hws, hcw⟩, hcode, hini, hy, hlen, hl, hin, hse⟩ := cw
  have hK : Back l R p e below s args y 3 8 (PreOf R mc ms Pc) (PostOf Qc mc ms free) := va_backW (hh := hh) (bytes := bytes) (maxL := maxL) (ret := ret) hM hp.1 hrc hrs hfr hlo hws hcw (fun a' U hW => word_at hW (Or.inl (by first | rfl | simp [Cond.onTables, Cond.keeps, Cond.steady])) hini)
  obtain ⟨hx, hb, hml, ho, -⟩ := S
  obtain ⟨-, ⟨cellB, hcB, hoB, hclB⟩, hPc⟩ := hp
  intro T hT X
  obtain ⟨v, vm₁, ⟨U', l2, c2, s2⟩, hW₁, X', ⟨g', mk, t, L, e1, e2, hq, h1, hL, h2, h3⟩, st⟩ := vx_callVW X hx (C := C) (hh := hh) (bytes := bytes) (maxL := maxL) (ret := ret) ho hl hin hse hcode hy hK (by rw [hT]; exact hcB) hoB hclB hg (hsize.trans hml.symm) (argsL := As) (rest := rest) (fun sig h => hn.trans (hlen sig h)) hstack hW (by rw [hb]; exact hdg)
    (fun vm₁ hW₁ => ⟨hf.1, hf.2, hPc (T.setVm vm₁) hT hW₁⟩)
  dsimp only [Pt.U, Pt.locs, Pt.cells, Pt.slots] at X' e1 e2 h1 h2 h3 st
  subst h1; subst h2; subst h3
  exact ⟨v, (T.setVm vm₁).calling g' mk (Value.ref b :: As).toArray, t, U', L, hT, X', hL, e1, e2, hq, st⟩
section
variable {y : MethodName} {bytes cc : ByteArray} {maxL nL mc ms n index : Nat} {ret : Option FieldType} {ws : List Cond} {rm : Room} {Pc : Array Value → State → Prop} {Qc : Array Value → State → Outcome → State → Prop} {XC : String → State → State → Prop} {free : Addr → Prop} {Ts : List Cond} {own C : String} {b : Addr} {As rest : List Value} {g : JFrame}
theorem vx_runVX {hh : List (Nat × Nat × Nat × Nat)} (S : CallFix p m c cc nL s args Ts own) (hM : vx_Met l y ws rm Pc Qc XC mc ms free) (cw : vx_CVW R s args own C index y bytes maxL ret hh ws rm mc ms n) (hp : PreV s H C b Pc As)
    (hg : g.method = m) (hn : As.length = n) (hsize : g.locals.size = nL) (hstack : g.stack = As.reverse ++ .ref b :: rest) (hW : 2 * g.monitorRoom + (rest.map fun v => v.category).sum ≤ 8) (hdg : decode cc g.pc = .ok (.invokevirtual index, 3)) (hf : cells + mc ≤ R.cells ∧ slots + ms ≤ R.slots) :
    vx_Run p l e R s m args below meth c H locs cells slots mc ms g rest (Qc (Value.ref b :: As).toArray) XC free := by
  obtain ⟨⟨hrc, hrs, hfr, hlo, hws, hcw⟩, hcode, hini, hy, hlen, hl, hin, hse⟩ := cw
  have hK : vx_Back l R p e below s args y 3 8 (PreOf R mc ms Pc) (PostOf Qc mc ms free) (vx_Post XC mc ms free) := vx_backW (hh := hh) (bytes := bytes) (maxL := maxL) (ret := ret) hM hp.1 hrc hrs hfr hlo hws hcw (fun a' U hW => word_at hW (Or.inl (by first | rfl | simp [Cond.onTables, Cond.keeps, Cond.steady])) hini)
  obtain ⟨hx, hb, hml, ho, -⟩ := S
  obtain ⟨-, ⟨cellB, hcB, hoB, hclB⟩, hPc⟩ := hp
  intro T hT X
  rcases vx_callVX X hx (C := C) (hh := hh) (bytes := bytes) (maxL := maxL) (ret := ret) ho hl hin hse hcode hy hK (by rw [hT]; exact hcB) hoB hclB hg (hsize.trans hml.symm) (argsL := As) (rest := rest) (fun sig h => hn.trans (hlen sig h)) hstack hW (by rw [hb]; exact hdg)
    (fun vm₁ hW₁ => ⟨hf.1, hf.2, hPc (T.setVm vm₁) hT hW₁⟩) with ⟨v, vm₁, ⟨U', l2, c2, s2⟩, hW₁, X', ⟨g', mk, t, L, e1, e2, hq, h1, hL, h2, h3⟩, st⟩ | ⟨q, vm₁, ⟨U', l2, c2, s2⟩, hW₁, X', ⟨g', mk, t, L, E, ce, e1, e2, hq, hce, hcv, hcl, h1, hL, h2, h3⟩, st⟩
  · dsimp only [Pt.U, Pt.locs, Pt.cells, Pt.slots] at X' e1 e2 h1 h2 h3 st
    subst h1; subst h2; subst h3
    exact Or.inl ⟨v, (T.setVm vm₁).calling g' mk (Value.ref b :: As).toArray, t, U', L, hT, X', hL, e1, e2, hq, st⟩
  · dsimp only [Pt.U, Pt.locs, Pt.cells, Pt.slots] at X' e1 e2 h1 h2 h3 st hcl
    subst h1; subst h2; subst h3
    exact Or.inr ⟨q, (T.setVm vm₁).calling g' mk (Value.ref b :: As).toArray, t, U', L, E, ce, hT, X', hL, e1, e2, hq, hce, hcv, vx_cls hW₁ hcl, st⟩
theorem vx_runSX {hh : List (Nat × Nat × Nat × Nat)} (S : CallFix p m c cc nL s args Ts own) (hM : vx_Met l y ws rm Pc Qc XC mc ms free) (cw : vx_CSW R s args own index y bytes maxL ret hh ws rm mc ms n) (hp : PreS s H Pc As)
    (hg : g.method = m) (hn : As.length = n) (hsize : g.locals.size = nL) (hstack : g.stack = As.reverse ++ rest) (hW : 2 * g.monitorRoom + (rest.map fun v => v.category).sum ≤ 8) (hdg : decode cc g.pc = .ok (.invokestatic index, 3)) (hf : cells + mc ≤ R.cells ∧ slots + ms ≤ R.slots) :
    vx_Run p l e R s m args below meth c H locs cells slots mc ms g rest (Qc As.toArray) XC free := by
  obtain ⟨⟨hrc, hrs, hfr, hlo, hws, hcw⟩, hcode, hini, hy, hlen, hl, hstt⟩ := cw
  have hK : vx_Back l R p e below s args y 3 8 (PreOf R mc ms Pc) (PostOf Qc mc ms free) (vx_Post XC mc ms free) := vx_backW (hh := hh) (bytes := bytes) (maxL := maxL) (ret := ret) hM hp.1 hrc hrs hfr hlo hws hcw (fun a' U hW => word_at hW (Or.inl (by first | rfl | simp [Cond.onTables, Cond.keeps, Cond.steady])) hini)
  obtain ⟨hx, hb, hml, ho, -⟩ := S
  intro T hT X
  rcases vx_callSX X hx (hh := hh) (bytes := bytes) (maxL := maxL) (ret := ret) ho hl hstt hini hcode hy hK hg (hsize.trans hml.symm) (argsL := As) (rest := rest) (fun sig h => hn.trans (hlen sig h)) hstack hW (by rw [hb]; exact hdg)
    (fun vm₁ hW₁ => ⟨hf.1, hf.2, hp.2 (T.setVm vm₁) hT hW₁⟩) with ⟨v, vm₁, ⟨U', l2, c2, s2⟩, hW₁, X', ⟨g', mk, t, L, e1, e2, hq, h1, hL, h2, h3⟩, st⟩ | ⟨q, vm₁, ⟨U', l2, c2, s2⟩, hW₁, X', ⟨g', mk, t, L, E, ce, e1, e2, hq, hce, hcv, hcl, h1, hL, h2, h3⟩, st⟩
  · dsimp only [Pt.U, Pt.locs, Pt.cells, Pt.slots] at X' e1 e2 h1 h2 h3 st
    subst h1; subst h2; subst h3
    exact Or.inl ⟨v, (T.setVm vm₁).calling g' mk As.toArray, t, U', L, hT, X', hL, e1, e2, hq, st⟩
  · dsimp only [Pt.U, Pt.locs, Pt.cells, Pt.slots] at X' e1 e2 h1 h2 h3 st hcl
    subst h1; subst h2; subst h3
    exact Or.inr ⟨q, (T.setVm vm₁).calling g' mk As.toArray, t, U', L, E, ce, hT, X', hL, e1, e2, hq, hce, hcv, vx_cls hW₁ hcl, st⟩
end
end VXH
theorem vx_ofWH {l : Launch} {y : MethodName} {ws ws' : List Cond} {rm : Room} {Pc : Array Value → State → Prop} {Qc : Array Value → State → Outcome → State → Prop} {XC : String → State → State → Prop} {mc ms : Nat} {free : Addr → Prop} {cc : ByteArray} {maxL : Nat} {ret : Option FieldType} {hh : List (Nat × Nat × Nat × Nat)}
    (hy : plainName y.cls = true) (hw : ws = Cond.codeWith y cc maxL ret hh :: ws')
    (body : ∀ p e s m args below meth c s₁, BodyLoose p l y (headSpec ws rm) cc maxL ret e s m args below meth c s₁ → c.maxLocals = maxL → Pc args s →
      W p l e (headSpec ws rm).room s m args below meth c s.heap [] 0 0 (vx_MQ below Qc XC args s mc ms free) (entryFrame m args maxL)) : vx_Met l y ws rm Pc Qc XC mc ms free := by
  refine MetFree.of_bodyS (code := cc) (maxLocals := maxL) (ret := ret) hy ?_ ?_
  · intro args s m h hn
    obtain ⟨m9, meth, c, hn9, h1, h2, h3, h4, -, h5, h6, -⟩ := Cond.codeWith_spec (atoms_spec (ws := ws) h _ (by rw [hw]; exact List.mem_cons_self))
    cases hn.symm.trans hn9
    exact ⟨meth, c, h1, h2, h3, h4, h5, h6⟩
  · intro p e s m args below meth c s₁ B hml hP _
    have hh0 : s₁.heap = s.heap := by rw [B.state]; rfl
    obtain ⟨t, a1, o, b1, b2, b3⟩ := body p e s m args below meth c s₁ B hml hP s₁ hh0 (Stand.of_body B)
    exact ⟨t, o, a1, b1, b2, b3⟩
/-! ===== END ===== -/
end
section
/-! ===== BEGIN printed: names, fields, word lists, decode rows ===== -/
def RX0 : String := "StreetGraph"
def TX0 : u_T := fun k => match k with
  | 0 => ("StreetGraph", "begins", "[I", true)
  | 1 => ("StreetGraph", "ends", "[I", true)
  | 2 => ("StreetGraph", "lengths", "[J", true)
  | 3 => ("StreetGraph", "speeds", "[J", true)
  | 4 => ("StreetGraph", "opens", "[J", true)
  | 5 => ("StreetGraph", "closes", "[J", true)
  | 6 => ("StreetGraph", "pieceCount", "I", false)
  | 7 => ("StreetGraph", "barredBits", "[J", true)
  | 8 => ("StreetGraph", "barredCount", "I", false)
  | 9 => ("StreetGraph", "stopPieces", "[I", true)
  | 10 => ("StreetGraph", "stopSides", "[I", true)
  | 11 => ("StreetGraph", "stopMetres", "[J", true)
  | 12 => ("StreetGraph", "stopCount", "I", false)
  | 13 => ("StreetGraph", "entered", "[J", true)
  | 14 => ("StreetGraph", "done", "[J", true)
  | 15 => ("StreetGraph", "settled", "[Z", true)
  | 16 => ("StreetGraph", "stepsBack", "[I", true)
  | _ => ("StreetGraph", "stepCount", "I", false)
def tyX0 : Nat → FieldType := fun k => match k with
  | 0 => .array .int
  | 1 => .array .int
  | 2 => .array .long
  | 3 => .array .long
  | 4 => .array .long
  | 5 => .array .long
  | 6 => .int
  | 7 => .array .long
  | 8 => .int
  | 9 => .array .int
  | 10 => .array .int
  | 11 => .array .long
  | 12 => .int
  | 13 => .array .long
  | 14 => .array .long
  | 15 => .array .boolean
  | 16 => .array .int
  | _ => .int
abbrev wsX00 : List Cond := u_ws RX0 TX0 18
theorem nmX0 : ∀ a, a < 18 → ∀ b, b < 18 → a ≠ b → (TX0 a).2.1 ≠ (TX0 b).2.1 := by decide +kernel
theorem tyX0_ok : ∀ k, k < 18 → parseFieldDescriptor (TX0 k).2.2.1 = some (tyX0 k) := by decide +kernel
abbrev cX0_init : ByteArray := prog_1_method_1_code
def yX0_init : MethodName := ⟨RX0, "<init>", "()V"⟩
abbrev cX0_piece : ByteArray := prog_1_method_2_code
def yX0_piece : MethodName := ⟨RX0, "piece", "(IIJJ)I"⟩
abbrev cX0_turn : ByteArray := prog_1_method_3_code
def yX0_turn : MethodName := ⟨RX0, "turn", "(IIZ)I"⟩
abbrev cX0_stop : ByteArray := prog_1_method_4_code
def yX0_stop : MethodName := ⟨RX0, "stop", "(IIJ)I"⟩
abbrev cX0_way : ByteArray := prog_1_method_5_code
def yX0_way : MethodName := ⟨RX0, "way", "(IIJ)J"⟩
abbrev cX0_step : ByteArray := prog_1_method_6_code
def yX0_step : MethodName := ⟨RX0, "step", "(I)I"⟩
abbrev cX0_gate : ByteArray := prog_1_method_7_code
def yX0_gate : MethodName := ⟨RX0, "gate", "(IJJ)I"⟩
abbrev cX0_change : ByteArray := prog_1_method_8_code
def yX0_change : MethodName := ⟨RX0, "change", "(IJ)I"⟩
abbrev cX0_table : ByteArray := prog_1_method_9_code
def yX0_table : MethodName := ⟨RX0, "table", "(II)J"⟩
abbrev cX0_piece2 : ByteArray := prog_1_method_10_code
def yX0_piece2 : MethodName := ⟨RX0, "piece2", "(I)I"⟩
abbrev cX0_service : ByteArray := prog_1_method_11_code
def yX0_service : MethodName := ⟨RX0, "service", "(II)Z"⟩
abbrev cX0_isCrossing : ByteArray := prog_1_method_12_code
def yX0_isCrossing : MethodName := ⟨RX0, "isCrossing", "(I)Z"⟩
abbrev cX0_isPiece : ByteArray := prog_1_method_13_code
def yX0_isPiece : MethodName := ⟨RX0, "isPiece", "(I)Z"⟩
abbrev cX0_isStop : ByteArray := prog_1_method_14_code
def yX0_isStop : MethodName := ⟨RX0, "isStop", "(I)Z"⟩
abbrev cX0_wordOfTurn : ByteArray := prog_1_method_15_code
def yX0_wordOfTurn : MethodName := ⟨RX0, "wordOfTurn", "(II)I"⟩
abbrev cX0_bitOfTurn : ByteArray := prog_1_method_16_code
def yX0_bitOfTurn : MethodName := ⟨RX0, "bitOfTurn", "(I)J"⟩
abbrev cX0_isBarred : ByteArray := prog_1_method_17_code
def yX0_isBarred : MethodName := ⟨RX0, "isBarred", "(II)Z"⟩
abbrev cX0_mayGoOn : ByteArray := prog_1_method_18_code
def yX0_mayGoOn : MethodName := ⟨RX0, "mayGoOn", "(II)Z"⟩
abbrev cX0_mayGoOnFrom : ByteArray := prog_1_method_19_code
def yX0_mayGoOnFrom : MethodName := ⟨RX0, "mayGoOnFrom", "(I)Z"⟩
abbrev cX0_hasStopAtSide : ByteArray := prog_1_method_20_code
def yX0_hasStopAtSide : MethodName := ⟨RX0, "hasStopAtSide", "(II)Z"⟩
abbrev cX0_hasGate : ByteArray := prog_1_method_21_code
def yX0_hasGate : MethodName := ⟨RX0, "hasGate", "(I)Z"⟩
abbrev cX0_secondsFor : ByteArray := prog_1_method_22_code
def yX0_secondsFor : MethodName := ⟨RX0, "secondsFor", "(IJ)J"⟩
abbrev cX0_secondsAcross : ByteArray := prog_1_method_23_code
def yX0_secondsAcross : MethodName := ⟨RX0, "secondsAcross", "(I)J"⟩
abbrev cX0_entryAtOrAfter : ByteArray := prog_1_method_24_code
def yX0_entryAtOrAfter : MethodName := ⟨RX0, "entryAtOrAfter", "(IJ)J"⟩
abbrev cX0_isStraightOn : ByteArray := prog_1_method_25_code
def yX0_isStraightOn : MethodName := ⟨RX0, "isStraightOn", "(II)Z"⟩
abbrev cX0_leastArrival : ByteArray := prog_1_method_26_code
def yX0_leastArrival : MethodName := ⟨RX0, "leastArrival", "(IIJ)J"⟩
abbrev cX0_findLeastTimes : ByteArray := prog_1_method_27_code
def yX0_findLeastTimes : MethodName := ⟨RX0, "findLeastTimes", "(IJI)V"⟩
abbrev cX0_forgetLeastTimes : ByteArray := prog_1_method_28_code
def yX0_forgetLeastTimes : MethodName := ⟨RX0, "forgetLeastTimes", "()V"⟩
abbrev cX0_earliestUnsettled : ByteArray := prog_1_method_29_code
def yX0_earliestUnsettled : MethodName := ⟨RX0, "earliestUnsettled", "()I"⟩
abbrev cX0_goOnFrom : ByteArray := prog_1_method_30_code
def yX0_goOnFrom : MethodName := ⟨RX0, "goOnFrom", "(I)V"⟩
abbrev cX0_keepSteps : ByteArray := prog_1_method_31_code
def yX0_keepSteps : MethodName := ⟨RX0, "keepSteps", "(II)V"⟩
abbrev cX0_pieceBefore : ByteArray := prog_1_method_32_code
def yX0_pieceBefore : MethodName := ⟨RX0, "pieceBefore", "(I)I"⟩
def RX1 : String := "StreetGraphModel"
def TX1 : u_T := fun k => match k with
  | 0 => ("StreetGraphModel", "thrown", "I", false)
  | 1 => ("StreetGraphModel", "pieces", "I", false)
  | 2 => ("StreetGraphModel", "begins", "[I", true)
  | 3 => ("StreetGraphModel", "ends", "[I", true)
  | 4 => ("StreetGraphModel", "length", "[J", true)
  | 5 => ("StreetGraphModel", "speed", "[J", true)
  | 6 => ("StreetGraphModel", "open", "[J", true)
  | 7 => ("StreetGraphModel", "close", "[J", true)
  | 8 => ("StreetGraphModel", "barred", "[Z", true)
  | 9 => ("StreetGraphModel", "stops", "I", false)
  | 10 => ("StreetGraphModel", "on", "[I", true)
  | 11 => ("StreetGraphModel", "side", "[I", true)
  | 12 => ("StreetGraphModel", "at", "[J", true)
  | 13 => ("StreetGraphModel", "entered", "[J", true)
  | 14 => ("StreetGraphModel", "done", "[J", true)
  | 15 => ("StreetGraphModel", "steps", "I", false)
  | _ => ("StreetGraphModel", "back", "[I", true)
def tyX1 : Nat → FieldType := fun k => match k with
  | 0 => .int
  | 1 => .int
  | 2 => .array .int
  | 3 => .array .int
  | 4 => .array .long
  | 5 => .array .long
  | 6 => .array .long
  | 7 => .array .long
  | 8 => .array .boolean
  | 9 => .int
  | 10 => .array .int
  | 11 => .array .int
  | 12 => .array .long
  | 13 => .array .long
  | 14 => .array .long
  | 15 => .int
  | _ => .array .int
abbrev wsX10 : List Cond := u_ws RX1 TX1 17
theorem nmX1 : ∀ a, a < 17 → ∀ b, b < 17 → a ≠ b → (TX1 a).2.1 ≠ (TX1 b).2.1 := by decide +kernel
theorem tyX1_ok : ∀ k, k < 17 → parseFieldDescriptor (TX1 k).2.2.1 = some (tyX1 k) := by decide +kernel
abbrev cX1_init : ByteArray := prog_3_method_1_code
def yX1_init : MethodName := ⟨RX1, "<init>", "()V"⟩
abbrev cX1_thrown : ByteArray := prog_3_method_2_code
def yX1_thrown : MethodName := ⟨RX1, "thrown", "()I"⟩
abbrev cX1_in : ByteArray := prog_3_method_3_code
def yX1_in : MethodName := ⟨RX1, "in", "(JJJ)Z"⟩
abbrev cX1_isPiece : ByteArray := prog_3_method_4_code
def yX1_isPiece : MethodName := ⟨RX1, "isPiece", "(I)Z"⟩
abbrev cX1_isStop : ByteArray := prog_3_method_5_code
def yX1_isStop : MethodName := ⟨RX1, "isStop", "(I)Z"⟩
abbrev cX1_seconds : ByteArray := prog_3_method_6_code
def yX1_seconds : MethodName := ⟨RX1, "seconds", "(IJ)J"⟩
abbrev cX1_piece : ByteArray := prog_3_method_7_code
def yX1_piece : MethodName := ⟨RX1, "piece", "(IIJJ)I"⟩
abbrev cX1_piece2 : ByteArray := prog_3_method_8_code
def yX1_piece2 : MethodName := ⟨RX1, "piece2", "(I)I"⟩
abbrev cX1_turn : ByteArray := prog_3_method_9_code
def yX1_turn : MethodName := ⟨RX1, "turn", "(IIZ)I"⟩
abbrev cX1_stop : ByteArray := prog_3_method_10_code
def yX1_stop : MethodName := ⟨RX1, "stop", "(IIJ)I"⟩
abbrev cX1_gate : ByteArray := prog_3_method_11_code
def yX1_gate : MethodName := ⟨RX1, "gate", "(IJJ)I"⟩
abbrev cX1_change : ByteArray := prog_3_method_12_code
def yX1_change : MethodName := ⟨RX1, "change", "(IJ)I"⟩
abbrev cX1_leads : ByteArray := prog_3_method_13_code
def yX1_leads : MethodName := ⟨RX1, "leads", "(II)Z"⟩
abbrev cX1_entry : ByteArray := prog_3_method_14_code
def yX1_entry : MethodName := ⟨RX1, "entry", "(IJ)J"⟩
abbrev cX1_crossing : ByteArray := prog_3_method_15_code
def yX1_crossing : MethodName := ⟨RX1, "crossing", "(I)J"⟩
abbrev cX1_rest : ByteArray := prog_3_method_16_code
def yX1_rest : MethodName := ⟨RX1, "rest", "(IJ)J"⟩
abbrev cX1_reach : ByteArray := prog_3_method_17_code
def yX1_reach : MethodName := ⟨RX1, "reach", "(IJ)V"⟩
abbrev cX1_straight : ByteArray := prog_3_method_18_code
def yX1_straight : MethodName := ⟨RX1, "straight", "(IIJ)J"⟩
abbrev cX1_around : ByteArray := prog_3_method_19_code
def yX1_around : MethodName := ⟨RX1, "around", "(I)J"⟩
abbrev cX1_before : ByteArray := prog_3_method_20_code
def yX1_before : MethodName := ⟨RX1, "before", "(I)I"⟩
abbrev cX1_way : ByteArray := prog_3_method_21_code
def yX1_way : MethodName := ⟨RX1, "way", "(IIJ)J"⟩
abbrev cX1_step : ByteArray := prog_3_method_22_code
def yX1_step : MethodName := ⟨RX1, "step", "(I)I"⟩
abbrev cX1_table : ByteArray := prog_3_method_23_code
def yX1_table : MethodName := ⟨RX1, "table", "(II)J"⟩
abbrev cX1_service : ByteArray := prog_3_method_24_code
def yX1_service : MethodName := ⟨RX1, "service", "(II)Z"⟩
def RJx00060 : String := "java/lang/ArrayIndexOutOfBoundsException"
def TJx00060 : u_T := fun k => match k with
  | 0 => ("java/lang/Throwable", "cause", "Ljava/lang/Throwable;", false)
  | 1 => ("java/lang/Throwable", "stackTrace", "[Ljava/lang/StackTraceElement;", false)
  | 2 => ("java/lang/Throwable", "suppressedExceptions", "Ljava/util/List;", false)
  | 3 => ("java/lang/Throwable", "detailMessage", "Ljava/lang/String;", false)
  | 4 => ("java/lang/Throwable", "backtrace", "Ljava/lang/Object;", false)
  | _ => ("java/lang/Throwable", "depth", "I", false)
def tyJx00060 : Nat → FieldType := fun k => match k with
  | 0 => .object "java/lang/Throwable"
  | 1 => .array (.object "java/lang/StackTraceElement")
  | 2 => .object "java/util/List"
  | 3 => .object "java/lang/String"
  | 4 => .object "java/lang/Object"
  | _ => .int
abbrev wsJx000600 : List Cond := u_ws RJx00060 TJx00060 6
theorem nmJx00060 : ∀ a, a < 6 → ∀ b, b < 6 → a ≠ b → (TJx00060 a).2.1 ≠ (TJx00060 b).2.1 := by decide +kernel
theorem tyJx00060_ok : ∀ k, k < 6 → parseFieldDescriptor (TJx00060 k).2.2.1 = some (tyJx00060 k) := by decide +kernel
abbrev cJx00060_init_a7421 : ByteArray := prog_5_method_2_code
def yJx00060_init_a7421 : MethodName := ⟨RJx00060, "<init>", "(Ljava/lang/String;)V"⟩
def RJ9 : String := "java/lang/Math"
def TJ9 : u_T := fun k => match k with
  | _ => ("", "", "", false)
def tyJ9 : Nat → FieldType := fun k => match k with
  | _ => .int
abbrev wsJ90 : List Cond := u_ws RJ9 TJ9 0
theorem nmJ9 : ∀ a, a < 0 → ∀ b, b < 0 → a ≠ b → (TJ9 a).2.1 ≠ (TJ9 b).2.1 := by decide +kernel
theorem tyJ9_ok : ∀ k, k < 0 → parseFieldDescriptor (TJ9 k).2.2.1 = some (tyJ9 k) := by decide +kernel
abbrev cJ9_max_f86c9 : ByteArray := prog_8_method_66_code
def yJ9_max_f86c9 : MethodName := ⟨RJ9, "max", "(JJ)J"⟩
abbrev cJ9_min_f86c9 : ByteArray := prog_8_method_70_code
def yJ9_min_f86c9 : MethodName := ⟨RJ9, "min", "(JJ)J"⟩
def RJ0 : String := "java/lang/String"
def TJ0 : u_T := fun k => match k with
  | _ => ("", "", "", false)
def tyJ0 : Nat → FieldType := fun k => match k with
  | _ => .int
abbrev wsJ00 : List Cond := u_ws RJ0 TJ0 0
theorem nmJ0 : ∀ a, a < 0 → ∀ b, b < 0 → a ≠ b → (TJ0 a).2.1 ≠ (TJ0 b).2.1 := by decide +kernel
theorem tyJ0_ok : ∀ k, k < 0 → parseFieldDescriptor (TJ0 k).2.2.1 = some (tyJ0 k) := by decide +kernel
def RL : String := "StreetGraphLaw"
abbrev cL_piece : ByteArray := method_3_code
def yL_piece : MethodName := ⟨RL, "piece", "(LStreetGraph;IIJJ[J)I"⟩
abbrev cL_piece2 : ByteArray := method_4_code
def yL_piece2 : MethodName := ⟨RL, "piece2", "(LStreetGraph;I[J)I"⟩
abbrev cL_law : ByteArray := code
def yL_law : MethodName := ⟨RL, "law", "([I)Z"⟩
def wsX0_init : List Cond := .code yX0_init cX0_init 1 none :: ([.methodLink RX0 3 objectInit, .instanceMethod objectInit, .code objectInit ⟨#[0xb1]⟩ 1 none, .arrayClass .int, .fieldLink RX0 9 "StreetGraph" "begins" "[I", .fieldLink RX0 13 "StreetGraph" "ends" "[I", .arrayClass .long, .fieldLink RX0 16 "StreetGraph" "lengths" "[J", .fieldLink RX0 20 "StreetGraph" "speeds" "[J", .fieldLink RX0 23 "StreetGraph" "opens" "[J", .fieldLink RX0 26 "StreetGraph" "closes" "[J", .fieldLink RX0 29 "StreetGraph" "barredBits" "[J", .fieldLink RX0 32 "StreetGraph" "stopPieces" "[I", .fieldLink RX0 35 "StreetGraph" "stopSides" "[I", .fieldLink RX0 38 "StreetGraph" "stopMetres" "[J", .fieldLink RX0 41 "StreetGraph" "entered" "[J", .fieldLink RX0 44 "StreetGraph" "done" "[J", .arrayClass .boolean, .fieldLink RX0 47 "StreetGraph" "settled" "[Z", .fieldLink RX0 51 "StreetGraph" "stepsBack" "[I"] ++ wsX00)
def wsX0_isCrossing : List Cond := .code yX0_isCrossing cX0_isCrossing 1 (some .boolean) :: ([])
def wsX0_piece : List Cond := .code yX0_piece cX0_piece 7 (some .int) :: ([.classLink RX0 66 "java/lang/ArithmeticException", .initialized "java/lang/ArithmeticException", .constantLong RX0 58 (10000), .constantLong RX0 60 (1000), .fieldLink RX0 62 "StreetGraph" "pieceCount" "I", .fieldLink RX0 9 "StreetGraph" "begins" "[I", .fieldLink RX0 13 "StreetGraph" "ends" "[I", .fieldLink RX0 16 "StreetGraph" "lengths" "[J", .fieldLink RX0 20 "StreetGraph" "speeds" "[J", .methodLink RX0 54 yX0_isCrossing, .static yX0_isCrossing, .initialized RX0, .code yX0_isCrossing cX0_isCrossing 1 (some .boolean)] ++ wsX00 ++ (vx_atS RX0 70 "java/lang/ArithmeticException" ["java/lang/RuntimeException", "java/lang/Exception"]).filter goodWord)
def wsX0_isPiece : List Cond := .code yX0_isPiece cX0_isPiece 2 (some .boolean) :: ([.fieldLink RX0 62 "StreetGraph" "pieceCount" "I"] ++ wsX00)
def wsX0_wordOfTurn : List Cond := .code yX0_wordOfTurn cX0_wordOfTurn 2 (some .int) :: ([])
def wsX0_bitOfTurn : List Cond := .code yX0_bitOfTurn cX0_bitOfTurn 1 (some .long) :: ([])
def wsX0_isBarred : List Cond := .code yX0_isBarred cX0_isBarred 3 (some .boolean) :: ([.fieldLink RX0 29 "StreetGraph" "barredBits" "[J", .methodLink RX0 80 yX0_wordOfTurn, .static yX0_wordOfTurn, .initialized RX0, .code yX0_wordOfTurn cX0_wordOfTurn 2 (some .int), .methodLink RX0 84 yX0_bitOfTurn, .static yX0_bitOfTurn, .code yX0_bitOfTurn cX0_bitOfTurn 1 (some .long)] ++ wsX00)
def wsX0_turn : List Cond := .code yX0_turn cX0_turn 4 (some .int) :: ([.fieldLink RX0 13 "StreetGraph" "ends" "[I", .fieldLink RX0 9 "StreetGraph" "begins" "[I", .fieldLink RX0 29 "StreetGraph" "barredBits" "[J", .fieldLink RX0 88 "StreetGraph" "barredCount" "I", .methodLink RX0 73 yX0_isPiece, .instanceMethod yX0_isPiece, .selects RX0 yX0_isPiece yX0_isPiece, .initialized RX0, .code yX0_isPiece cX0_isPiece 2 (some .boolean), .fieldLink RX0 62 "StreetGraph" "pieceCount" "I", .methodLink RX0 76 yX0_isBarred, .instanceMethod yX0_isBarred, .selects RX0 yX0_isBarred yX0_isBarred, .code yX0_isBarred cX0_isBarred 3 (some .boolean), .methodLink RX0 80 yX0_wordOfTurn, .static yX0_wordOfTurn, .code yX0_wordOfTurn cX0_wordOfTurn 2 (some .int), .methodLink RX0 84 yX0_bitOfTurn, .static yX0_bitOfTurn, .code yX0_bitOfTurn cX0_bitOfTurn 1 (some .long)] ++ wsX00)
def wsX0_stop : List Cond := .code yX0_stop cX0_stop 5 (some .int) :: ([.fieldLink RX0 16 "StreetGraph" "lengths" "[J", .fieldLink RX0 91 "StreetGraph" "stopCount" "I", .fieldLink RX0 32 "StreetGraph" "stopPieces" "[I", .fieldLink RX0 35 "StreetGraph" "stopSides" "[I", .fieldLink RX0 38 "StreetGraph" "stopMetres" "[J", .methodLink RX0 73 yX0_isPiece, .instanceMethod yX0_isPiece, .selects RX0 yX0_isPiece yX0_isPiece, .initialized RX0, .code yX0_isPiece cX0_isPiece 2 (some .boolean), .fieldLink RX0 62 "StreetGraph" "pieceCount" "I"] ++ wsX00)
def wsX0_isStop : List Cond := .code yX0_isStop cX0_isStop 2 (some .boolean) :: ([.fieldLink RX0 91 "StreetGraph" "stopCount" "I"] ++ wsX00)
def wsX0_secondsAcross : List Cond := .code yX0_secondsAcross cX0_secondsAcross 2 (some .long) :: ([.fieldLink RX0 35 "StreetGraph" "stopSides" "[I", .constantLong RX0 143 (15)] ++ wsX00)
def wsX0_isStraightOn : List Cond := .code yX0_isStraightOn cX0_isStraightOn 3 (some .boolean) :: ([.fieldLink RX0 32 "StreetGraph" "stopPieces" "[I", .fieldLink RX0 38 "StreetGraph" "stopMetres" "[J"] ++ wsX00)
def wsX0_secondsFor : List Cond := .code yX0_secondsFor cX0_secondsFor 6 (some .long) :: ([.fieldLink RX0 20 "StreetGraph" "speeds" "[J", .methodLink RX0 135 Lib.MathLoose.max_long.x, .static Lib.MathLoose.max_long.x, .initialized "java/lang/Math", .code Lib.MathLoose.max_long.x Lib.MathLoose.max_long.code 4 (some .long), .constantLong RX0 141 (10)] ++ wsX00)
def wsX0_forgetLeastTimes : List Cond := .code yX0_forgetLeastTimes cX0_forgetLeastTimes 2 none :: ([.fieldLink RX0 62 "StreetGraph" "pieceCount" "I", .fieldLink RX0 41 "StreetGraph" "entered" "[J", .constantLong RX0 159 (4000000000000000000), .fieldLink RX0 44 "StreetGraph" "done" "[J", .fieldLink RX0 47 "StreetGraph" "settled" "[Z"] ++ wsX00)
def wsX0_earliestUnsettled : List Cond := .code yX0_earliestUnsettled cX0_earliestUnsettled 5 (some .int) :: ([.constantLong RX0 159 (4000000000000000000), .fieldLink RX0 62 "StreetGraph" "pieceCount" "I", .fieldLink RX0 47 "StreetGraph" "settled" "[Z", .fieldLink RX0 44 "StreetGraph" "done" "[J"] ++ wsX00)
def wsX0_mayGoOn : List Cond := .code yX0_mayGoOn cX0_mayGoOn 3 (some .boolean) :: ([.fieldLink RX0 13 "StreetGraph" "ends" "[I", .fieldLink RX0 9 "StreetGraph" "begins" "[I", .methodLink RX0 76 yX0_isBarred, .instanceMethod yX0_isBarred, .selects RX0 yX0_isBarred yX0_isBarred, .initialized RX0, .code yX0_isBarred cX0_isBarred 3 (some .boolean), .fieldLink RX0 29 "StreetGraph" "barredBits" "[J", .methodLink RX0 80 yX0_wordOfTurn, .static yX0_wordOfTurn, .code yX0_wordOfTurn cX0_wordOfTurn 2 (some .int), .methodLink RX0 84 yX0_bitOfTurn, .static yX0_bitOfTurn, .code yX0_bitOfTurn cX0_bitOfTurn 1 (some .long)] ++ wsX00)
def wsX0_hasGate : List Cond := .code yX0_hasGate cX0_hasGate 2 (some .boolean) :: ([.fieldLink RX0 26 "StreetGraph" "closes" "[J"] ++ wsX00)
def wsX0_entryAtOrAfter : List Cond := .code yX0_entryAtOrAfter cX0_entryAtOrAfter 6 (some .long) :: ([.constantLong RX0 116 (86400), .fieldLink RX0 23 "StreetGraph" "opens" "[J", .fieldLink RX0 26 "StreetGraph" "closes" "[J", .methodLink RX0 126 yX0_hasGate, .instanceMethod yX0_hasGate, .selects RX0 yX0_hasGate yX0_hasGate, .initialized RX0, .code yX0_hasGate cX0_hasGate 2 (some .boolean)] ++ wsX00)
def wsX0_goOnFrom_r1 : List Cond := [Cond.fieldLink RX0 62 "StreetGraph" "pieceCount" "I", Cond.fieldLink RX0 44 "StreetGraph" "done" "[J", Cond.fieldLink RX0 41 "StreetGraph" "entered" "[J", Cond.fieldLink RX0 16 "StreetGraph" "lengths" "[J", Cond.methodLink RX0 175 Lib.MathLoose.min_long.x, Cond.static Lib.MathLoose.min_long.x, Cond.initialized "java/lang/Math", Cond.code Lib.MathLoose.min_long.x Lib.MathLoose.min_long.code 4 (some .long), Cond.methodLink RX0 132 yX0_mayGoOn, Cond.instanceMethod yX0_mayGoOn, Cond.selects RX0 yX0_mayGoOn yX0_mayGoOn, Cond.initialized RX0, Cond.code yX0_mayGoOn cX0_mayGoOn 3 (some .boolean), Cond.fieldLink RX0 13 "StreetGraph" "ends" "[I", Cond.fieldLink RX0 9 "StreetGraph" "begins" "[I", Cond.methodLink RX0 76 yX0_isBarred, Cond.instanceMethod yX0_isBarred, Cond.selects RX0 yX0_isBarred yX0_isBarred, Cond.code yX0_isBarred cX0_isBarred 3 (some .boolean), Cond.fieldLink RX0 29 "StreetGraph" "barredBits" "[J", Cond.methodLink RX0 80 yX0_wordOfTurn, Cond.static yX0_wordOfTurn, Cond.code yX0_wordOfTurn cX0_wordOfTurn 2 (some .int), Cond.methodLink RX0 84 yX0_bitOfTurn]
def wsX0_goOnFrom_r2 : List Cond := [Cond.static yX0_bitOfTurn, Cond.code yX0_bitOfTurn cX0_bitOfTurn 1 (some .long), Cond.methodLink RX0 172 yX0_entryAtOrAfter, Cond.instanceMethod yX0_entryAtOrAfter, Cond.selects RX0 yX0_entryAtOrAfter yX0_entryAtOrAfter, Cond.code yX0_entryAtOrAfter cX0_entryAtOrAfter 6 (some .long), Cond.constantLong RX0 116 (86400), Cond.fieldLink RX0 23 "StreetGraph" "opens" "[J", Cond.fieldLink RX0 26 "StreetGraph" "closes" "[J", Cond.methodLink RX0 126 yX0_hasGate, Cond.instanceMethod yX0_hasGate, Cond.selects RX0 yX0_hasGate yX0_hasGate, Cond.code yX0_hasGate cX0_hasGate 2 (some .boolean), Cond.methodLink RX0 151 yX0_secondsFor, Cond.instanceMethod yX0_secondsFor, Cond.selects RX0 yX0_secondsFor yX0_secondsFor, Cond.code yX0_secondsFor cX0_secondsFor 6 (some .long), Cond.fieldLink RX0 20 "StreetGraph" "speeds" "[J", Cond.methodLink RX0 135 Lib.MathLoose.max_long.x, Cond.static Lib.MathLoose.max_long.x, Cond.code Lib.MathLoose.max_long.x Lib.MathLoose.max_long.code 4 (some .long), Cond.constantLong RX0 141 (10)]
def wsX0_goOnFrom : List Cond := .code yX0_goOnFrom cX0_goOnFrom 5 none :: ((wsX0_goOnFrom_r1 ++ wsX0_goOnFrom_r2) ++ wsX00)
def wsX0_findLeastTimes_r1 : List Cond := [Cond.fieldLink RX0 44 "StreetGraph" "done" "[J", Cond.fieldLink RX0 62 "StreetGraph" "pieceCount" "I", Cond.fieldLink RX0 41 "StreetGraph" "entered" "[J", Cond.fieldLink RX0 47 "StreetGraph" "settled" "[Z", Cond.methodLink RX0 161 yX0_forgetLeastTimes, Cond.instanceMethod yX0_forgetLeastTimes, Cond.selects RX0 yX0_forgetLeastTimes yX0_forgetLeastTimes, Cond.initialized RX0, Cond.code yX0_forgetLeastTimes cX0_forgetLeastTimes 2 none, Cond.constantLong RX0 159 (4000000000000000000), Cond.methodLink RX0 164 yX0_earliestUnsettled, Cond.instanceMethod yX0_earliestUnsettled, Cond.selects RX0 yX0_earliestUnsettled yX0_earliestUnsettled, Cond.code yX0_earliestUnsettled cX0_earliestUnsettled 5 (some .int), Cond.methodLink RX0 168 yX0_goOnFrom, Cond.instanceMethod yX0_goOnFrom, Cond.selects RX0 yX0_goOnFrom yX0_goOnFrom, Cond.code yX0_goOnFrom cX0_goOnFrom 5 none, Cond.fieldLink RX0 16 "StreetGraph" "lengths" "[J", Cond.methodLink RX0 175 Lib.MathLoose.min_long.x, Cond.static Lib.MathLoose.min_long.x, Cond.initialized "java/lang/Math", Cond.code Lib.MathLoose.min_long.x Lib.MathLoose.min_long.code 4 (some .long), Cond.methodLink RX0 132 yX0_mayGoOn]
def wsX0_findLeastTimes_r2 : List Cond := [Cond.instanceMethod yX0_mayGoOn, Cond.selects RX0 yX0_mayGoOn yX0_mayGoOn, Cond.code yX0_mayGoOn cX0_mayGoOn 3 (some .boolean), Cond.fieldLink RX0 13 "StreetGraph" "ends" "[I", Cond.fieldLink RX0 9 "StreetGraph" "begins" "[I", Cond.methodLink RX0 76 yX0_isBarred, Cond.instanceMethod yX0_isBarred, Cond.selects RX0 yX0_isBarred yX0_isBarred, Cond.code yX0_isBarred cX0_isBarred 3 (some .boolean), Cond.fieldLink RX0 29 "StreetGraph" "barredBits" "[J", Cond.methodLink RX0 80 yX0_wordOfTurn, Cond.static yX0_wordOfTurn, Cond.code yX0_wordOfTurn cX0_wordOfTurn 2 (some .int), Cond.methodLink RX0 84 yX0_bitOfTurn, Cond.static yX0_bitOfTurn, Cond.code yX0_bitOfTurn cX0_bitOfTurn 1 (some .long), Cond.methodLink RX0 172 yX0_entryAtOrAfter, Cond.instanceMethod yX0_entryAtOrAfter, Cond.selects RX0 yX0_entryAtOrAfter yX0_entryAtOrAfter, Cond.code yX0_entryAtOrAfter cX0_entryAtOrAfter 6 (some .long), Cond.constantLong RX0 116 (86400), Cond.fieldLink RX0 23 "StreetGraph" "opens" "[J", Cond.fieldLink RX0 26 "StreetGraph" "closes" "[J", Cond.methodLink RX0 126 yX0_hasGate]
def wsX0_findLeastTimes_r3 : List Cond := [Cond.instanceMethod yX0_hasGate, Cond.selects RX0 yX0_hasGate yX0_hasGate, Cond.code yX0_hasGate cX0_hasGate 2 (some .boolean), Cond.methodLink RX0 151 yX0_secondsFor, Cond.instanceMethod yX0_secondsFor, Cond.selects RX0 yX0_secondsFor yX0_secondsFor, Cond.code yX0_secondsFor cX0_secondsFor 6 (some .long), Cond.fieldLink RX0 20 "StreetGraph" "speeds" "[J", Cond.methodLink RX0 135 Lib.MathLoose.max_long.x, Cond.static Lib.MathLoose.max_long.x, Cond.code Lib.MathLoose.max_long.x Lib.MathLoose.max_long.code 4 (some .long), Cond.constantLong RX0 141 (10)]
def wsX0_findLeastTimes : List Cond := .code yX0_findLeastTimes cX0_findLeastTimes 7 none :: ((wsX0_findLeastTimes_r1 ++ (wsX0_findLeastTimes_r2 ++ wsX0_findLeastTimes_r3)) ++ wsX00)
def wsX0_leastArrival_r1 : List Cond := [Cond.fieldLink RX0 32 "StreetGraph" "stopPieces" "[I", Cond.fieldLink RX0 38 "StreetGraph" "stopMetres" "[J", Cond.fieldLink RX0 16 "StreetGraph" "lengths" "[J", Cond.fieldLink RX0 41 "StreetGraph" "entered" "[J", Cond.constantLong RX0 159 (4000000000000000000), Cond.constantLong RX0 110 (-1), Cond.methodLink RX0 145 yX0_secondsAcross, Cond.instanceMethod yX0_secondsAcross, Cond.selects RX0 yX0_secondsAcross yX0_secondsAcross, Cond.initialized RX0, Cond.code yX0_secondsAcross cX0_secondsAcross 2 (some .long), Cond.fieldLink RX0 35 "StreetGraph" "stopSides" "[I", Cond.constantLong RX0 143 (15), Cond.methodLink RX0 148 yX0_isStraightOn, Cond.instanceMethod yX0_isStraightOn, Cond.selects RX0 yX0_isStraightOn yX0_isStraightOn, Cond.code yX0_isStraightOn cX0_isStraightOn 3 (some .boolean), Cond.methodLink RX0 151 yX0_secondsFor, Cond.instanceMethod yX0_secondsFor, Cond.selects RX0 yX0_secondsFor yX0_secondsFor, Cond.code yX0_secondsFor cX0_secondsFor 6 (some .long), Cond.fieldLink RX0 20 "StreetGraph" "speeds" "[J", Cond.methodLink RX0 135 Lib.MathLoose.max_long.x, Cond.static Lib.MathLoose.max_long.x]
def wsX0_leastArrival_r2 : List Cond := [Cond.initialized "java/lang/Math", Cond.code Lib.MathLoose.max_long.x Lib.MathLoose.max_long.code 4 (some .long), Cond.constantLong RX0 141 (10), Cond.methodLink RX0 155 yX0_findLeastTimes, Cond.instanceMethod yX0_findLeastTimes, Cond.selects RX0 yX0_findLeastTimes yX0_findLeastTimes, Cond.code yX0_findLeastTimes cX0_findLeastTimes 7 none, Cond.fieldLink RX0 44 "StreetGraph" "done" "[J", Cond.fieldLink RX0 62 "StreetGraph" "pieceCount" "I", Cond.fieldLink RX0 47 "StreetGraph" "settled" "[Z", Cond.methodLink RX0 161 yX0_forgetLeastTimes, Cond.instanceMethod yX0_forgetLeastTimes, Cond.selects RX0 yX0_forgetLeastTimes yX0_forgetLeastTimes, Cond.code yX0_forgetLeastTimes cX0_forgetLeastTimes 2 none, Cond.methodLink RX0 164 yX0_earliestUnsettled, Cond.instanceMethod yX0_earliestUnsettled, Cond.selects RX0 yX0_earliestUnsettled yX0_earliestUnsettled, Cond.code yX0_earliestUnsettled cX0_earliestUnsettled 5 (some .int), Cond.methodLink RX0 168 yX0_goOnFrom, Cond.instanceMethod yX0_goOnFrom, Cond.selects RX0 yX0_goOnFrom yX0_goOnFrom, Cond.code yX0_goOnFrom cX0_goOnFrom 5 none, Cond.methodLink RX0 175 Lib.MathLoose.min_long.x, Cond.static Lib.MathLoose.min_long.x]
def wsX0_leastArrival_r3 : List Cond := [Cond.code Lib.MathLoose.min_long.x Lib.MathLoose.min_long.code 4 (some .long), Cond.methodLink RX0 132 yX0_mayGoOn, Cond.instanceMethod yX0_mayGoOn, Cond.selects RX0 yX0_mayGoOn yX0_mayGoOn, Cond.code yX0_mayGoOn cX0_mayGoOn 3 (some .boolean), Cond.fieldLink RX0 13 "StreetGraph" "ends" "[I", Cond.fieldLink RX0 9 "StreetGraph" "begins" "[I", Cond.methodLink RX0 76 yX0_isBarred, Cond.instanceMethod yX0_isBarred, Cond.selects RX0 yX0_isBarred yX0_isBarred, Cond.code yX0_isBarred cX0_isBarred 3 (some .boolean), Cond.fieldLink RX0 29 "StreetGraph" "barredBits" "[J", Cond.methodLink RX0 80 yX0_wordOfTurn, Cond.static yX0_wordOfTurn, Cond.code yX0_wordOfTurn cX0_wordOfTurn 2 (some .int), Cond.methodLink RX0 84 yX0_bitOfTurn, Cond.static yX0_bitOfTurn, Cond.code yX0_bitOfTurn cX0_bitOfTurn 1 (some .long), Cond.methodLink RX0 172 yX0_entryAtOrAfter, Cond.instanceMethod yX0_entryAtOrAfter, Cond.selects RX0 yX0_entryAtOrAfter yX0_entryAtOrAfter, Cond.code yX0_entryAtOrAfter cX0_entryAtOrAfter 6 (some .long), Cond.constantLong RX0 116 (86400), Cond.fieldLink RX0 23 "StreetGraph" "opens" "[J"]
def wsX0_leastArrival_r4 : List Cond := [Cond.fieldLink RX0 26 "StreetGraph" "closes" "[J", Cond.methodLink RX0 126 yX0_hasGate, Cond.instanceMethod yX0_hasGate, Cond.selects RX0 yX0_hasGate yX0_hasGate, Cond.code yX0_hasGate cX0_hasGate 2 (some .boolean)]
def wsX0_leastArrival : List Cond := .code yX0_leastArrival cX0_leastArrival 11 (some .long) :: ((wsX0_leastArrival_r1 ++ (wsX0_leastArrival_r2 ++ (wsX0_leastArrival_r3 ++ wsX0_leastArrival_r4))) ++ wsX00)
def wsX0_pieceBefore_r1 : List Cond := [Cond.fieldLink RX0 62 "StreetGraph" "pieceCount" "I", Cond.fieldLink RX0 44 "StreetGraph" "done" "[J", Cond.fieldLink RX0 41 "StreetGraph" "entered" "[J", Cond.methodLink RX0 132 yX0_mayGoOn, Cond.instanceMethod yX0_mayGoOn, Cond.selects RX0 yX0_mayGoOn yX0_mayGoOn, Cond.initialized RX0, Cond.code yX0_mayGoOn cX0_mayGoOn 3 (some .boolean), Cond.fieldLink RX0 13 "StreetGraph" "ends" "[I", Cond.fieldLink RX0 9 "StreetGraph" "begins" "[I", Cond.methodLink RX0 76 yX0_isBarred, Cond.instanceMethod yX0_isBarred, Cond.selects RX0 yX0_isBarred yX0_isBarred, Cond.code yX0_isBarred cX0_isBarred 3 (some .boolean), Cond.fieldLink RX0 29 "StreetGraph" "barredBits" "[J", Cond.methodLink RX0 80 yX0_wordOfTurn, Cond.static yX0_wordOfTurn, Cond.code yX0_wordOfTurn cX0_wordOfTurn 2 (some .int), Cond.methodLink RX0 84 yX0_bitOfTurn, Cond.static yX0_bitOfTurn, Cond.code yX0_bitOfTurn cX0_bitOfTurn 1 (some .long), Cond.methodLink RX0 172 yX0_entryAtOrAfter, Cond.instanceMethod yX0_entryAtOrAfter, Cond.selects RX0 yX0_entryAtOrAfter yX0_entryAtOrAfter]
def wsX0_pieceBefore_r2 : List Cond := [Cond.code yX0_entryAtOrAfter cX0_entryAtOrAfter 6 (some .long), Cond.constantLong RX0 116 (86400), Cond.fieldLink RX0 23 "StreetGraph" "opens" "[J", Cond.fieldLink RX0 26 "StreetGraph" "closes" "[J", Cond.methodLink RX0 126 yX0_hasGate, Cond.instanceMethod yX0_hasGate, Cond.selects RX0 yX0_hasGate yX0_hasGate, Cond.code yX0_hasGate cX0_hasGate 2 (some .boolean)]
def wsX0_pieceBefore : List Cond := .code yX0_pieceBefore cX0_pieceBefore 3 (some .int) :: ((wsX0_pieceBefore_r1 ++ wsX0_pieceBefore_r2) ++ wsX00)
def wsX0_keepSteps_r1 : List Cond := [Cond.fieldLink RX0 32 "StreetGraph" "stopPieces" "[I", Cond.fieldLink RX0 51 "StreetGraph" "stepsBack" "[I", Cond.fieldLink RX0 107 "StreetGraph" "stepCount" "I", Cond.methodLink RX0 148 yX0_isStraightOn, Cond.instanceMethod yX0_isStraightOn, Cond.selects RX0 yX0_isStraightOn yX0_isStraightOn, Cond.initialized RX0, Cond.code yX0_isStraightOn cX0_isStraightOn 3 (some .boolean), Cond.fieldLink RX0 38 "StreetGraph" "stopMetres" "[J", Cond.methodLink RX0 178 yX0_pieceBefore, Cond.instanceMethod yX0_pieceBefore, Cond.selects RX0 yX0_pieceBefore yX0_pieceBefore, Cond.code yX0_pieceBefore cX0_pieceBefore 3 (some .int), Cond.fieldLink RX0 62 "StreetGraph" "pieceCount" "I", Cond.fieldLink RX0 44 "StreetGraph" "done" "[J", Cond.fieldLink RX0 41 "StreetGraph" "entered" "[J", Cond.methodLink RX0 132 yX0_mayGoOn, Cond.instanceMethod yX0_mayGoOn, Cond.selects RX0 yX0_mayGoOn yX0_mayGoOn, Cond.code yX0_mayGoOn cX0_mayGoOn 3 (some .boolean), Cond.fieldLink RX0 13 "StreetGraph" "ends" "[I", Cond.fieldLink RX0 9 "StreetGraph" "begins" "[I", Cond.methodLink RX0 76 yX0_isBarred, Cond.instanceMethod yX0_isBarred]
def wsX0_keepSteps_r2 : List Cond := [Cond.selects RX0 yX0_isBarred yX0_isBarred, Cond.code yX0_isBarred cX0_isBarred 3 (some .boolean), Cond.fieldLink RX0 29 "StreetGraph" "barredBits" "[J", Cond.methodLink RX0 80 yX0_wordOfTurn, Cond.static yX0_wordOfTurn, Cond.code yX0_wordOfTurn cX0_wordOfTurn 2 (some .int), Cond.methodLink RX0 84 yX0_bitOfTurn, Cond.static yX0_bitOfTurn, Cond.code yX0_bitOfTurn cX0_bitOfTurn 1 (some .long), Cond.methodLink RX0 172 yX0_entryAtOrAfter, Cond.instanceMethod yX0_entryAtOrAfter, Cond.selects RX0 yX0_entryAtOrAfter yX0_entryAtOrAfter, Cond.code yX0_entryAtOrAfter cX0_entryAtOrAfter 6 (some .long), Cond.constantLong RX0 116 (86400), Cond.fieldLink RX0 23 "StreetGraph" "opens" "[J", Cond.fieldLink RX0 26 "StreetGraph" "closes" "[J", Cond.methodLink RX0 126 yX0_hasGate, Cond.instanceMethod yX0_hasGate, Cond.selects RX0 yX0_hasGate yX0_hasGate, Cond.code yX0_hasGate cX0_hasGate 2 (some .boolean)]
def wsX0_keepSteps : List Cond := .code yX0_keepSteps cX0_keepSteps 6 none :: ((wsX0_keepSteps_r1 ++ wsX0_keepSteps_r2) ++ wsX00)
def wsX0_way_r1 : List Cond := [Cond.constantLong RX0 97 (-11), Cond.constantLong RX0 99 (1000000000000), Cond.constantLong RX0 101 (-12), Cond.fieldLink RX0 107 "StreetGraph" "stepCount" "I", Cond.constantLong RX0 110 (-1), Cond.methodLink RX0 94 yX0_isStop, Cond.instanceMethod yX0_isStop, Cond.selects RX0 yX0_isStop yX0_isStop, Cond.initialized RX0, Cond.code yX0_isStop cX0_isStop 2 (some .boolean), Cond.fieldLink RX0 91 "StreetGraph" "stopCount" "I", Cond.methodLink RX0 103 yX0_leastArrival, Cond.instanceMethod yX0_leastArrival, Cond.selects RX0 yX0_leastArrival yX0_leastArrival, Cond.code yX0_leastArrival cX0_leastArrival 11 (some .long), Cond.fieldLink RX0 32 "StreetGraph" "stopPieces" "[I", Cond.fieldLink RX0 38 "StreetGraph" "stopMetres" "[J", Cond.fieldLink RX0 16 "StreetGraph" "lengths" "[J", Cond.fieldLink RX0 41 "StreetGraph" "entered" "[J", Cond.constantLong RX0 159 (4000000000000000000), Cond.methodLink RX0 145 yX0_secondsAcross, Cond.instanceMethod yX0_secondsAcross, Cond.selects RX0 yX0_secondsAcross yX0_secondsAcross, Cond.code yX0_secondsAcross cX0_secondsAcross 2 (some .long)]
def wsX0_way_r2 : List Cond := [Cond.fieldLink RX0 35 "StreetGraph" "stopSides" "[I", Cond.constantLong RX0 143 (15), Cond.methodLink RX0 148 yX0_isStraightOn, Cond.instanceMethod yX0_isStraightOn, Cond.selects RX0 yX0_isStraightOn yX0_isStraightOn, Cond.code yX0_isStraightOn cX0_isStraightOn 3 (some .boolean), Cond.methodLink RX0 151 yX0_secondsFor, Cond.instanceMethod yX0_secondsFor, Cond.selects RX0 yX0_secondsFor yX0_secondsFor, Cond.code yX0_secondsFor cX0_secondsFor 6 (some .long), Cond.fieldLink RX0 20 "StreetGraph" "speeds" "[J", Cond.methodLink RX0 135 Lib.MathLoose.max_long.x, Cond.static Lib.MathLoose.max_long.x, Cond.initialized "java/lang/Math", Cond.code Lib.MathLoose.max_long.x Lib.MathLoose.max_long.code 4 (some .long), Cond.constantLong RX0 141 (10), Cond.methodLink RX0 155 yX0_findLeastTimes, Cond.instanceMethod yX0_findLeastTimes, Cond.selects RX0 yX0_findLeastTimes yX0_findLeastTimes, Cond.code yX0_findLeastTimes cX0_findLeastTimes 7 none, Cond.fieldLink RX0 44 "StreetGraph" "done" "[J", Cond.fieldLink RX0 62 "StreetGraph" "pieceCount" "I", Cond.fieldLink RX0 47 "StreetGraph" "settled" "[Z", Cond.methodLink RX0 161 yX0_forgetLeastTimes]
def wsX0_way_r3 : List Cond := [Cond.instanceMethod yX0_forgetLeastTimes, Cond.selects RX0 yX0_forgetLeastTimes yX0_forgetLeastTimes, Cond.code yX0_forgetLeastTimes cX0_forgetLeastTimes 2 none, Cond.methodLink RX0 164 yX0_earliestUnsettled, Cond.instanceMethod yX0_earliestUnsettled, Cond.selects RX0 yX0_earliestUnsettled yX0_earliestUnsettled, Cond.code yX0_earliestUnsettled cX0_earliestUnsettled 5 (some .int), Cond.methodLink RX0 168 yX0_goOnFrom, Cond.instanceMethod yX0_goOnFrom, Cond.selects RX0 yX0_goOnFrom yX0_goOnFrom, Cond.code yX0_goOnFrom cX0_goOnFrom 5 none, Cond.methodLink RX0 175 Lib.MathLoose.min_long.x, Cond.static Lib.MathLoose.min_long.x, Cond.code Lib.MathLoose.min_long.x Lib.MathLoose.min_long.code 4 (some .long), Cond.methodLink RX0 132 yX0_mayGoOn, Cond.instanceMethod yX0_mayGoOn, Cond.selects RX0 yX0_mayGoOn yX0_mayGoOn, Cond.code yX0_mayGoOn cX0_mayGoOn 3 (some .boolean), Cond.fieldLink RX0 13 "StreetGraph" "ends" "[I", Cond.fieldLink RX0 9 "StreetGraph" "begins" "[I", Cond.methodLink RX0 76 yX0_isBarred, Cond.instanceMethod yX0_isBarred, Cond.selects RX0 yX0_isBarred yX0_isBarred, Cond.code yX0_isBarred cX0_isBarred 3 (some .boolean)]
def wsX0_way_r4 : List Cond := [Cond.fieldLink RX0 29 "StreetGraph" "barredBits" "[J", Cond.methodLink RX0 80 yX0_wordOfTurn, Cond.static yX0_wordOfTurn, Cond.code yX0_wordOfTurn cX0_wordOfTurn 2 (some .int), Cond.methodLink RX0 84 yX0_bitOfTurn, Cond.static yX0_bitOfTurn, Cond.code yX0_bitOfTurn cX0_bitOfTurn 1 (some .long), Cond.methodLink RX0 172 yX0_entryAtOrAfter, Cond.instanceMethod yX0_entryAtOrAfter, Cond.selects RX0 yX0_entryAtOrAfter yX0_entryAtOrAfter, Cond.code yX0_entryAtOrAfter cX0_entryAtOrAfter 6 (some .long), Cond.constantLong RX0 116 (86400), Cond.fieldLink RX0 23 "StreetGraph" "opens" "[J", Cond.fieldLink RX0 26 "StreetGraph" "closes" "[J", Cond.methodLink RX0 126 yX0_hasGate, Cond.instanceMethod yX0_hasGate, Cond.selects RX0 yX0_hasGate yX0_hasGate, Cond.code yX0_hasGate cX0_hasGate 2 (some .boolean), Cond.methodLink RX0 112 yX0_keepSteps, Cond.instanceMethod yX0_keepSteps, Cond.selects RX0 yX0_keepSteps yX0_keepSteps, Cond.code yX0_keepSteps cX0_keepSteps 6 none, Cond.fieldLink RX0 51 "StreetGraph" "stepsBack" "[I", Cond.methodLink RX0 178 yX0_pieceBefore]
def wsX0_way_r5 : List Cond := [Cond.instanceMethod yX0_pieceBefore, Cond.selects RX0 yX0_pieceBefore yX0_pieceBefore, Cond.code yX0_pieceBefore cX0_pieceBefore 3 (some .int)]
def wsX0_way : List Cond := .code yX0_way cX0_way 7 (some .long) :: ((wsX0_way_r1 ++ (wsX0_way_r2 ++ (wsX0_way_r3 ++ (wsX0_way_r4 ++ wsX0_way_r5)))) ++ wsX00)
def wsX0_step : List Cond := .code yX0_step cX0_step 2 (some .int) :: ([.fieldLink RX0 107 "StreetGraph" "stepCount" "I", .fieldLink RX0 51 "StreetGraph" "stepsBack" "[I"] ++ wsX00)
def wsX0_gate : List Cond := .code yX0_gate cX0_gate 7 (some .int) :: ([.constantLong RX0 116 (86400), .fieldLink RX0 23 "StreetGraph" "opens" "[J", .fieldLink RX0 26 "StreetGraph" "closes" "[J", .methodLink RX0 73 yX0_isPiece, .instanceMethod yX0_isPiece, .selects RX0 yX0_isPiece yX0_isPiece, .initialized RX0, .code yX0_isPiece cX0_isPiece 2 (some .boolean), .fieldLink RX0 62 "StreetGraph" "pieceCount" "I"] ++ wsX00)
def wsX0_change : List Cond := .code yX0_change cX0_change 5 (some .int) :: ([.constantLong RX0 60 (1000), .fieldLink RX0 20 "StreetGraph" "speeds" "[J", .methodLink RX0 73 yX0_isPiece, .instanceMethod yX0_isPiece, .selects RX0 yX0_isPiece yX0_isPiece, .initialized RX0, .code yX0_isPiece cX0_isPiece 2 (some .boolean), .fieldLink RX0 62 "StreetGraph" "pieceCount" "I"] ++ wsX00)
def wsX0_table_r1 : List Cond := [Cond.constantLong RX0 97 (-11), Cond.methodLink RX0 94 yX0_isStop, Cond.instanceMethod yX0_isStop, Cond.selects RX0 yX0_isStop yX0_isStop, Cond.initialized RX0, Cond.code yX0_isStop cX0_isStop 2 (some .boolean), Cond.fieldLink RX0 91 "StreetGraph" "stopCount" "I", Cond.methodLink RX0 103 yX0_leastArrival, Cond.instanceMethod yX0_leastArrival, Cond.selects RX0 yX0_leastArrival yX0_leastArrival, Cond.code yX0_leastArrival cX0_leastArrival 11 (some .long), Cond.fieldLink RX0 32 "StreetGraph" "stopPieces" "[I", Cond.fieldLink RX0 38 "StreetGraph" "stopMetres" "[J", Cond.fieldLink RX0 16 "StreetGraph" "lengths" "[J", Cond.fieldLink RX0 41 "StreetGraph" "entered" "[J", Cond.constantLong RX0 159 (4000000000000000000), Cond.constantLong RX0 110 (-1), Cond.methodLink RX0 145 yX0_secondsAcross, Cond.instanceMethod yX0_secondsAcross, Cond.selects RX0 yX0_secondsAcross yX0_secondsAcross, Cond.code yX0_secondsAcross cX0_secondsAcross 2 (some .long), Cond.fieldLink RX0 35 "StreetGraph" "stopSides" "[I", Cond.constantLong RX0 143 (15), Cond.methodLink RX0 148 yX0_isStraightOn]
def wsX0_table_r2 : List Cond := [Cond.instanceMethod yX0_isStraightOn, Cond.selects RX0 yX0_isStraightOn yX0_isStraightOn, Cond.code yX0_isStraightOn cX0_isStraightOn 3 (some .boolean), Cond.methodLink RX0 151 yX0_secondsFor, Cond.instanceMethod yX0_secondsFor, Cond.selects RX0 yX0_secondsFor yX0_secondsFor, Cond.code yX0_secondsFor cX0_secondsFor 6 (some .long), Cond.fieldLink RX0 20 "StreetGraph" "speeds" "[J", Cond.methodLink RX0 135 Lib.MathLoose.max_long.x, Cond.static Lib.MathLoose.max_long.x, Cond.initialized "java/lang/Math", Cond.code Lib.MathLoose.max_long.x Lib.MathLoose.max_long.code 4 (some .long), Cond.constantLong RX0 141 (10), Cond.methodLink RX0 155 yX0_findLeastTimes, Cond.instanceMethod yX0_findLeastTimes, Cond.selects RX0 yX0_findLeastTimes yX0_findLeastTimes, Cond.code yX0_findLeastTimes cX0_findLeastTimes 7 none, Cond.fieldLink RX0 44 "StreetGraph" "done" "[J", Cond.fieldLink RX0 62 "StreetGraph" "pieceCount" "I", Cond.fieldLink RX0 47 "StreetGraph" "settled" "[Z", Cond.methodLink RX0 161 yX0_forgetLeastTimes, Cond.instanceMethod yX0_forgetLeastTimes, Cond.selects RX0 yX0_forgetLeastTimes yX0_forgetLeastTimes, Cond.code yX0_forgetLeastTimes cX0_forgetLeastTimes 2 none]
def wsX0_table_r3 : List Cond := [Cond.methodLink RX0 164 yX0_earliestUnsettled, Cond.instanceMethod yX0_earliestUnsettled, Cond.selects RX0 yX0_earliestUnsettled yX0_earliestUnsettled, Cond.code yX0_earliestUnsettled cX0_earliestUnsettled 5 (some .int), Cond.methodLink RX0 168 yX0_goOnFrom, Cond.instanceMethod yX0_goOnFrom, Cond.selects RX0 yX0_goOnFrom yX0_goOnFrom, Cond.code yX0_goOnFrom cX0_goOnFrom 5 none, Cond.methodLink RX0 175 Lib.MathLoose.min_long.x, Cond.static Lib.MathLoose.min_long.x, Cond.code Lib.MathLoose.min_long.x Lib.MathLoose.min_long.code 4 (some .long), Cond.methodLink RX0 132 yX0_mayGoOn, Cond.instanceMethod yX0_mayGoOn, Cond.selects RX0 yX0_mayGoOn yX0_mayGoOn, Cond.code yX0_mayGoOn cX0_mayGoOn 3 (some .boolean), Cond.fieldLink RX0 13 "StreetGraph" "ends" "[I", Cond.fieldLink RX0 9 "StreetGraph" "begins" "[I", Cond.methodLink RX0 76 yX0_isBarred, Cond.instanceMethod yX0_isBarred, Cond.selects RX0 yX0_isBarred yX0_isBarred, Cond.code yX0_isBarred cX0_isBarred 3 (some .boolean), Cond.fieldLink RX0 29 "StreetGraph" "barredBits" "[J", Cond.methodLink RX0 80 yX0_wordOfTurn, Cond.static yX0_wordOfTurn]
def wsX0_table_r4 : List Cond := [Cond.code yX0_wordOfTurn cX0_wordOfTurn 2 (some .int), Cond.methodLink RX0 84 yX0_bitOfTurn, Cond.static yX0_bitOfTurn, Cond.code yX0_bitOfTurn cX0_bitOfTurn 1 (some .long), Cond.methodLink RX0 172 yX0_entryAtOrAfter, Cond.instanceMethod yX0_entryAtOrAfter, Cond.selects RX0 yX0_entryAtOrAfter yX0_entryAtOrAfter, Cond.code yX0_entryAtOrAfter cX0_entryAtOrAfter 6 (some .long), Cond.constantLong RX0 116 (86400), Cond.fieldLink RX0 23 "StreetGraph" "opens" "[J", Cond.fieldLink RX0 26 "StreetGraph" "closes" "[J", Cond.methodLink RX0 126 yX0_hasGate, Cond.instanceMethod yX0_hasGate, Cond.selects RX0 yX0_hasGate yX0_hasGate, Cond.code yX0_hasGate cX0_hasGate 2 (some .boolean)]
def wsX0_table : List Cond := .code yX0_table cX0_table 3 (some .long) :: ((wsX0_table_r1 ++ (wsX0_table_r2 ++ (wsX0_table_r3 ++ wsX0_table_r4))) ++ wsX00)
def wsX0_piece2 : List Cond := .code yX0_piece2 cX0_piece2 2 (some .int) :: ([.classLink RX0 118 RJx00060, .instantiable RJx00060 6, .initialized RJx00060, .fieldLink RX0 9 "StreetGraph" "begins" "[I", .fieldLink RX0 13 "StreetGraph" "ends" "[I", .methodLink RX0 73 yX0_isPiece, .instanceMethod yX0_isPiece, .selects RX0 yX0_isPiece yX0_isPiece, .initialized RX0, .code yX0_isPiece cX0_isPiece 2 (some .boolean), .fieldLink RX0 62 "StreetGraph" "pieceCount" "I"] ++ wsJx000600 ++ wsX00)
def wsX0_hasStopAtSide : List Cond := .code yX0_hasStopAtSide cX0_hasStopAtSide 4 (some .boolean) :: ([.fieldLink RX0 91 "StreetGraph" "stopCount" "I", .fieldLink RX0 32 "StreetGraph" "stopPieces" "[I", .fieldLink RX0 35 "StreetGraph" "stopSides" "[I"] ++ wsX00)
def wsX0_mayGoOnFrom : List Cond := .code yX0_mayGoOnFrom cX0_mayGoOnFrom 3 (some .boolean) :: ([.fieldLink RX0 62 "StreetGraph" "pieceCount" "I", .methodLink RX0 132 yX0_mayGoOn, .instanceMethod yX0_mayGoOn, .selects RX0 yX0_mayGoOn yX0_mayGoOn, .initialized RX0, .code yX0_mayGoOn cX0_mayGoOn 3 (some .boolean), .fieldLink RX0 13 "StreetGraph" "ends" "[I", .fieldLink RX0 9 "StreetGraph" "begins" "[I", .methodLink RX0 76 yX0_isBarred, .instanceMethod yX0_isBarred, .selects RX0 yX0_isBarred yX0_isBarred, .code yX0_isBarred cX0_isBarred 3 (some .boolean), .fieldLink RX0 29 "StreetGraph" "barredBits" "[J", .methodLink RX0 80 yX0_wordOfTurn, .static yX0_wordOfTurn, .code yX0_wordOfTurn cX0_wordOfTurn 2 (some .int), .methodLink RX0 84 yX0_bitOfTurn, .static yX0_bitOfTurn, .code yX0_bitOfTurn cX0_bitOfTurn 1 (some .long)] ++ wsX00)
def wsX0_service_r1 : List Cond := [Cond.methodLink RX0 73 yX0_isPiece, Cond.instanceMethod yX0_isPiece, Cond.selects RX0 yX0_isPiece yX0_isPiece, Cond.initialized RX0, Cond.code yX0_isPiece cX0_isPiece 2 (some .boolean), Cond.fieldLink RX0 62 "StreetGraph" "pieceCount" "I", Cond.methodLink RX0 123 yX0_hasStopAtSide, Cond.instanceMethod yX0_hasStopAtSide, Cond.selects RX0 yX0_hasStopAtSide yX0_hasStopAtSide, Cond.code yX0_hasStopAtSide cX0_hasStopAtSide 4 (some .boolean), Cond.fieldLink RX0 91 "StreetGraph" "stopCount" "I", Cond.fieldLink RX0 32 "StreetGraph" "stopPieces" "[I", Cond.fieldLink RX0 35 "StreetGraph" "stopSides" "[I", Cond.methodLink RX0 126 yX0_hasGate, Cond.instanceMethod yX0_hasGate, Cond.selects RX0 yX0_hasGate yX0_hasGate, Cond.code yX0_hasGate cX0_hasGate 2 (some .boolean), Cond.fieldLink RX0 26 "StreetGraph" "closes" "[J", Cond.methodLink RX0 129 yX0_mayGoOnFrom, Cond.instanceMethod yX0_mayGoOnFrom, Cond.selects RX0 yX0_mayGoOnFrom yX0_mayGoOnFrom, Cond.code yX0_mayGoOnFrom cX0_mayGoOnFrom 3 (some .boolean), Cond.methodLink RX0 132 yX0_mayGoOn, Cond.instanceMethod yX0_mayGoOn]
def wsX0_service_r2 : List Cond := [Cond.selects RX0 yX0_mayGoOn yX0_mayGoOn, Cond.code yX0_mayGoOn cX0_mayGoOn 3 (some .boolean), Cond.fieldLink RX0 13 "StreetGraph" "ends" "[I", Cond.fieldLink RX0 9 "StreetGraph" "begins" "[I", Cond.methodLink RX0 76 yX0_isBarred, Cond.instanceMethod yX0_isBarred, Cond.selects RX0 yX0_isBarred yX0_isBarred, Cond.code yX0_isBarred cX0_isBarred 3 (some .boolean), Cond.fieldLink RX0 29 "StreetGraph" "barredBits" "[J", Cond.methodLink RX0 80 yX0_wordOfTurn, Cond.static yX0_wordOfTurn, Cond.code yX0_wordOfTurn cX0_wordOfTurn 2 (some .int), Cond.methodLink RX0 84 yX0_bitOfTurn, Cond.static yX0_bitOfTurn, Cond.code yX0_bitOfTurn cX0_bitOfTurn 1 (some .long)]
def wsX0_service : List Cond := .code yX0_service cX0_service 3 (some .boolean) :: ((wsX0_service_r1 ++ wsX0_service_r2) ++ wsX00)
def wsX1_init : List Cond := .code yX1_init cX1_init 1 none :: ([.methodLink RX1 1 objectInit, .instanceMethod objectInit, .code objectInit ⟨#[0xb1]⟩ 1 none, .arrayClass .int, .fieldLink RX1 7 "StreetGraphModel" "begins" "[I", .fieldLink RX1 13 "StreetGraphModel" "ends" "[I", .arrayClass .long, .fieldLink RX1 16 "StreetGraphModel" "length" "[J", .fieldLink RX1 20 "StreetGraphModel" "speed" "[J", .fieldLink RX1 23 "StreetGraphModel" "open" "[J", .fieldLink RX1 26 "StreetGraphModel" "close" "[J", .arrayClass .boolean, .fieldLink RX1 29 "StreetGraphModel" "barred" "[Z", .fieldLink RX1 33 "StreetGraphModel" "on" "[I", .fieldLink RX1 36 "StreetGraphModel" "side" "[I", .fieldLink RX1 39 "StreetGraphModel" "at" "[J", .fieldLink RX1 42 "StreetGraphModel" "entered" "[J", .fieldLink RX1 45 "StreetGraphModel" "done" "[J", .fieldLink RX1 48 "StreetGraphModel" "back" "[I"] ++ wsX10)
def wsX1_thrown : List Cond := .code yX1_thrown cX1_thrown 1 (some .int) :: ([.fieldLink RX1 51 "StreetGraphModel" "thrown" "I"] ++ wsX10)
def wsX1_in : List Cond := .code yX1_in cX1_in 6 (some .boolean) :: ([])
def wsX1_isPiece : List Cond := .code yX1_isPiece cX1_isPiece 2 (some .boolean) :: ([.fieldLink RX1 55 "StreetGraphModel" "pieces" "I"] ++ wsX10)
def wsX1_isStop : List Cond := .code yX1_isStop cX1_isStop 2 (some .boolean) :: ([.fieldLink RX1 58 "StreetGraphModel" "stops" "I"] ++ wsX10)
def wsX1_seconds : List Cond := .code yX1_seconds cX1_seconds 8 (some .long) :: ([.constantLong RX1 61 (10), .fieldLink RX1 20 "StreetGraphModel" "speed" "[J"] ++ wsX10)
def wsX1_piece : List Cond := .code yX1_piece cX1_piece 7 (some .int) :: ([.fieldLink RX1 51 "StreetGraphModel" "thrown" "I", .constantLong RX1 63 (59), .constantLong RX1 69 (10000), .constantLong RX1 71 (1000), .fieldLink RX1 55 "StreetGraphModel" "pieces" "I", .fieldLink RX1 7 "StreetGraphModel" "begins" "[I", .fieldLink RX1 13 "StreetGraphModel" "ends" "[I", .fieldLink RX1 16 "StreetGraphModel" "length" "[J", .fieldLink RX1 20 "StreetGraphModel" "speed" "[J", .methodLink RX1 65 yX1_in, .static yX1_in, .initialized RX1, .code yX1_in cX1_in 6 (some .boolean)] ++ wsX10)
def wsX1_piece2 : List Cond := .code yX1_piece2 cX1_piece2 2 (some .int) :: ([.fieldLink RX1 51 "StreetGraphModel" "thrown" "I", .fieldLink RX1 7 "StreetGraphModel" "begins" "[I", .fieldLink RX1 13 "StreetGraphModel" "ends" "[I", .methodLink RX1 73 yX1_isPiece, .instanceMethod yX1_isPiece, .selects RX1 yX1_isPiece yX1_isPiece, .initialized RX1, .code yX1_isPiece cX1_isPiece 2 (some .boolean), .fieldLink RX1 55 "StreetGraphModel" "pieces" "I"] ++ wsX10)
def wsX1_turn : List Cond := .code yX1_turn cX1_turn 6 (some .int) :: ([.fieldLink RX1 51 "StreetGraphModel" "thrown" "I", .fieldLink RX1 13 "StreetGraphModel" "ends" "[I", .fieldLink RX1 7 "StreetGraphModel" "begins" "[I", .fieldLink RX1 29 "StreetGraphModel" "barred" "[Z", .methodLink RX1 73 yX1_isPiece, .instanceMethod yX1_isPiece, .selects RX1 yX1_isPiece yX1_isPiece, .initialized RX1, .code yX1_isPiece cX1_isPiece 2 (some .boolean), .fieldLink RX1 55 "StreetGraphModel" "pieces" "I"] ++ wsX10)
def wsX1_stop : List Cond := .code yX1_stop cX1_stop 5 (some .int) :: ([.fieldLink RX1 51 "StreetGraphModel" "thrown" "I", .fieldLink RX1 16 "StreetGraphModel" "length" "[J", .fieldLink RX1 58 "StreetGraphModel" "stops" "I", .fieldLink RX1 33 "StreetGraphModel" "on" "[I", .fieldLink RX1 36 "StreetGraphModel" "side" "[I", .fieldLink RX1 39 "StreetGraphModel" "at" "[J", .methodLink RX1 73 yX1_isPiece, .instanceMethod yX1_isPiece, .selects RX1 yX1_isPiece yX1_isPiece, .initialized RX1, .code yX1_isPiece cX1_isPiece 2 (some .boolean), .fieldLink RX1 55 "StreetGraphModel" "pieces" "I", .methodLink RX1 65 yX1_in, .static yX1_in, .code yX1_in cX1_in 6 (some .boolean)] ++ wsX10)
def wsX1_gate : List Cond := .code yX1_gate cX1_gate 7 (some .int) :: ([.fieldLink RX1 51 "StreetGraphModel" "thrown" "I", .constantLong RX1 77 (86400), .fieldLink RX1 23 "StreetGraphModel" "open" "[J", .fieldLink RX1 26 "StreetGraphModel" "close" "[J", .methodLink RX1 73 yX1_isPiece, .instanceMethod yX1_isPiece, .selects RX1 yX1_isPiece yX1_isPiece, .initialized RX1, .code yX1_isPiece cX1_isPiece 2 (some .boolean), .fieldLink RX1 55 "StreetGraphModel" "pieces" "I"] ++ wsX10)
def wsX1_change : List Cond := .code yX1_change cX1_change 5 (some .int) :: ([.fieldLink RX1 51 "StreetGraphModel" "thrown" "I", .constantLong RX1 71 (1000), .fieldLink RX1 20 "StreetGraphModel" "speed" "[J", .methodLink RX1 73 yX1_isPiece, .instanceMethod yX1_isPiece, .selects RX1 yX1_isPiece yX1_isPiece, .initialized RX1, .code yX1_isPiece cX1_isPiece 2 (some .boolean), .fieldLink RX1 55 "StreetGraphModel" "pieces" "I", .methodLink RX1 65 yX1_in, .static yX1_in, .code yX1_in cX1_in 6 (some .boolean)] ++ wsX10)
def wsX1_leads : List Cond := .code yX1_leads cX1_leads 3 (some .boolean) :: ([.fieldLink RX1 13 "StreetGraphModel" "ends" "[I", .fieldLink RX1 7 "StreetGraphModel" "begins" "[I", .fieldLink RX1 29 "StreetGraphModel" "barred" "[Z"] ++ wsX10)
def wsX1_entry : List Cond := .code yX1_entry cX1_entry 6 (some .long) :: ([.fieldLink RX1 26 "StreetGraphModel" "close" "[J", .constantLong RX1 77 (86400), .fieldLink RX1 23 "StreetGraphModel" "open" "[J"] ++ wsX10)
def wsX1_crossing : List Cond := .code yX1_crossing cX1_crossing 2 (some .long) :: ([.fieldLink RX1 36 "StreetGraphModel" "side" "[I", .constantLong RX1 79 (15)] ++ wsX10)
def wsX1_rest : List Cond := .code yX1_rest cX1_rest 4 (some .long) :: ([.fieldLink RX1 33 "StreetGraphModel" "on" "[I", .fieldLink RX1 16 "StreetGraphModel" "length" "[J", .fieldLink RX1 39 "StreetGraphModel" "at" "[J", .methodLink RX1 81 yX1_crossing, .instanceMethod yX1_crossing, .selects RX1 yX1_crossing yX1_crossing, .initialized RX1, .code yX1_crossing cX1_crossing 2 (some .long), .fieldLink RX1 36 "StreetGraphModel" "side" "[I", .constantLong RX1 79 (15), .methodLink RX1 85 yX1_seconds, .instanceMethod yX1_seconds, .selects RX1 yX1_seconds yX1_seconds, .code yX1_seconds cX1_seconds 8 (some .long), .constantLong RX1 61 (10), .fieldLink RX1 20 "StreetGraphModel" "speed" "[J"] ++ wsX10)
def wsX1_reach_r1 : List Cond := [Cond.fieldLink RX1 42 "StreetGraphModel" "entered" "[J", Cond.constantLong RX1 89 (4000000000000000000), Cond.fieldLink RX1 45 "StreetGraphModel" "done" "[J", Cond.fieldLink RX1 33 "StreetGraphModel" "on" "[I", Cond.fieldLink RX1 55 "StreetGraphModel" "pieces" "I", Cond.fieldLink RX1 16 "StreetGraphModel" "length" "[J", Cond.methodLink RX1 91 yX1_rest, Cond.instanceMethod yX1_rest, Cond.selects RX1 yX1_rest yX1_rest, Cond.initialized RX1, Cond.code yX1_rest cX1_rest 4 (some .long), Cond.fieldLink RX1 39 "StreetGraphModel" "at" "[J", Cond.methodLink RX1 81 yX1_crossing, Cond.instanceMethod yX1_crossing, Cond.selects RX1 yX1_crossing yX1_crossing, Cond.code yX1_crossing cX1_crossing 2 (some .long), Cond.fieldLink RX1 36 "StreetGraphModel" "side" "[I", Cond.constantLong RX1 79 (15), Cond.methodLink RX1 85 yX1_seconds, Cond.instanceMethod yX1_seconds, Cond.selects RX1 yX1_seconds yX1_seconds, Cond.code yX1_seconds cX1_seconds 8 (some .long), Cond.constantLong RX1 61 (10), Cond.fieldLink RX1 20 "StreetGraphModel" "speed" "[J"]
def wsX1_reach_r2 : List Cond := [Cond.methodLink RX1 94 yX1_leads, Cond.instanceMethod yX1_leads, Cond.selects RX1 yX1_leads yX1_leads, Cond.code yX1_leads cX1_leads 3 (some .boolean), Cond.fieldLink RX1 13 "StreetGraphModel" "ends" "[I", Cond.fieldLink RX1 7 "StreetGraphModel" "begins" "[I", Cond.fieldLink RX1 29 "StreetGraphModel" "barred" "[Z", Cond.methodLink RX1 98 yX1_entry, Cond.instanceMethod yX1_entry, Cond.selects RX1 yX1_entry yX1_entry, Cond.code yX1_entry cX1_entry 6 (some .long), Cond.fieldLink RX1 26 "StreetGraphModel" "close" "[J", Cond.constantLong RX1 77 (86400), Cond.fieldLink RX1 23 "StreetGraphModel" "open" "[J"]
def wsX1_reach : List Cond := .code yX1_reach cX1_reach 11 none :: ((wsX1_reach_r1 ++ wsX1_reach_r2) ++ wsX10)
def wsX1_straight : List Cond := .code yX1_straight cX1_straight 6 (some .long) :: ([.fieldLink RX1 33 "StreetGraphModel" "on" "[I", .fieldLink RX1 39 "StreetGraphModel" "at" "[J", .constantLong RX1 89 (4000000000000000000), .methodLink RX1 81 yX1_crossing, .instanceMethod yX1_crossing, .selects RX1 yX1_crossing yX1_crossing, .initialized RX1, .code yX1_crossing cX1_crossing 2 (some .long), .fieldLink RX1 36 "StreetGraphModel" "side" "[I", .constantLong RX1 79 (15), .methodLink RX1 85 yX1_seconds, .instanceMethod yX1_seconds, .selects RX1 yX1_seconds yX1_seconds, .code yX1_seconds cX1_seconds 8 (some .long), .constantLong RX1 61 (10), .fieldLink RX1 20 "StreetGraphModel" "speed" "[J"] ++ wsX10)
def wsX1_around : List Cond := .code yX1_around cX1_around 3 (some .long) :: ([.fieldLink RX1 33 "StreetGraphModel" "on" "[I", .fieldLink RX1 42 "StreetGraphModel" "entered" "[J", .constantLong RX1 89 (4000000000000000000), .fieldLink RX1 39 "StreetGraphModel" "at" "[J", .methodLink RX1 85 yX1_seconds, .instanceMethod yX1_seconds, .selects RX1 yX1_seconds yX1_seconds, .initialized RX1, .code yX1_seconds cX1_seconds 8 (some .long), .constantLong RX1 61 (10), .fieldLink RX1 20 "StreetGraphModel" "speed" "[J", .methodLink RX1 81 yX1_crossing, .instanceMethod yX1_crossing, .selects RX1 yX1_crossing yX1_crossing, .code yX1_crossing cX1_crossing 2 (some .long), .fieldLink RX1 36 "StreetGraphModel" "side" "[I", .constantLong RX1 79 (15)] ++ wsX10)
def wsX1_before : List Cond := .code yX1_before cX1_before 4 (some .int) :: ([.fieldLink RX1 55 "StreetGraphModel" "pieces" "I", .fieldLink RX1 45 "StreetGraphModel" "done" "[J", .constantLong RX1 89 (4000000000000000000), .fieldLink RX1 42 "StreetGraphModel" "entered" "[J", .methodLink RX1 94 yX1_leads, .instanceMethod yX1_leads, .selects RX1 yX1_leads yX1_leads, .initialized RX1, .code yX1_leads cX1_leads 3 (some .boolean), .fieldLink RX1 13 "StreetGraphModel" "ends" "[I", .fieldLink RX1 7 "StreetGraphModel" "begins" "[I", .fieldLink RX1 29 "StreetGraphModel" "barred" "[Z", .methodLink RX1 98 yX1_entry, .instanceMethod yX1_entry, .selects RX1 yX1_entry yX1_entry, .code yX1_entry cX1_entry 6 (some .long), .fieldLink RX1 26 "StreetGraphModel" "close" "[J", .constantLong RX1 77 (86400), .fieldLink RX1 23 "StreetGraphModel" "open" "[J"] ++ wsX10)
def wsX1_way_r1 : List Cond := [Cond.fieldLink RX1 51 "StreetGraphModel" "thrown" "I", Cond.constantLong RX1 104 (-11), Cond.constantLong RX1 106 (1000000000000), Cond.constantLong RX1 108 (-12), Cond.fieldLink RX1 121 "StreetGraphModel" "steps" "I", Cond.constantLong RX1 89 (4000000000000000000), Cond.constantLong RX1 124 (-1), Cond.fieldLink RX1 48 "StreetGraphModel" "back" "[I", Cond.fieldLink RX1 33 "StreetGraphModel" "on" "[I", Cond.fieldLink RX1 45 "StreetGraphModel" "done" "[J", Cond.methodLink RX1 101 yX1_isStop, Cond.instanceMethod yX1_isStop, Cond.selects RX1 yX1_isStop yX1_isStop, Cond.initialized RX1, Cond.code yX1_isStop cX1_isStop 2 (some .boolean), Cond.fieldLink RX1 58 "StreetGraphModel" "stops" "I", Cond.methodLink RX1 65 yX1_in, Cond.static yX1_in, Cond.code yX1_in cX1_in 6 (some .boolean), Cond.methodLink RX1 110 yX1_reach, Cond.instanceMethod yX1_reach, Cond.selects RX1 yX1_reach yX1_reach, Cond.code yX1_reach cX1_reach 11 none, Cond.fieldLink RX1 42 "StreetGraphModel" "entered" "[J"]
def wsX1_way_r2 : List Cond := [Cond.fieldLink RX1 55 "StreetGraphModel" "pieces" "I", Cond.fieldLink RX1 16 "StreetGraphModel" "length" "[J", Cond.methodLink RX1 91 yX1_rest, Cond.instanceMethod yX1_rest, Cond.selects RX1 yX1_rest yX1_rest, Cond.code yX1_rest cX1_rest 4 (some .long), Cond.fieldLink RX1 39 "StreetGraphModel" "at" "[J", Cond.methodLink RX1 81 yX1_crossing, Cond.instanceMethod yX1_crossing, Cond.selects RX1 yX1_crossing yX1_crossing, Cond.code yX1_crossing cX1_crossing 2 (some .long), Cond.fieldLink RX1 36 "StreetGraphModel" "side" "[I", Cond.constantLong RX1 79 (15), Cond.methodLink RX1 85 yX1_seconds, Cond.instanceMethod yX1_seconds, Cond.selects RX1 yX1_seconds yX1_seconds, Cond.code yX1_seconds cX1_seconds 8 (some .long), Cond.constantLong RX1 61 (10), Cond.fieldLink RX1 20 "StreetGraphModel" "speed" "[J", Cond.methodLink RX1 94 yX1_leads, Cond.instanceMethod yX1_leads, Cond.selects RX1 yX1_leads yX1_leads, Cond.code yX1_leads cX1_leads 3 (some .boolean), Cond.fieldLink RX1 13 "StreetGraphModel" "ends" "[I"]
def wsX1_way_r3 : List Cond := [Cond.fieldLink RX1 7 "StreetGraphModel" "begins" "[I", Cond.fieldLink RX1 29 "StreetGraphModel" "barred" "[Z", Cond.methodLink RX1 98 yX1_entry, Cond.instanceMethod yX1_entry, Cond.selects RX1 yX1_entry yX1_entry, Cond.code yX1_entry cX1_entry 6 (some .long), Cond.fieldLink RX1 26 "StreetGraphModel" "close" "[J", Cond.constantLong RX1 77 (86400), Cond.fieldLink RX1 23 "StreetGraphModel" "open" "[J", Cond.methodLink RX1 114 yX1_straight, Cond.instanceMethod yX1_straight, Cond.selects RX1 yX1_straight yX1_straight, Cond.code yX1_straight cX1_straight 6 (some .long), Cond.methodLink RX1 118 yX1_around, Cond.instanceMethod yX1_around, Cond.selects RX1 yX1_around yX1_around, Cond.code yX1_around cX1_around 3 (some .long), Cond.methodLink RX1 126 yX1_before, Cond.instanceMethod yX1_before, Cond.selects RX1 yX1_before yX1_before, Cond.code yX1_before cX1_before 4 (some .int)]
def wsX1_way : List Cond := .code yX1_way cX1_way 11 (some .long) :: ((wsX1_way_r1 ++ (wsX1_way_r2 ++ wsX1_way_r3)) ++ wsX10)
def wsX1_step : List Cond := .code yX1_step cX1_step 2 (some .int) :: ([.fieldLink RX1 51 "StreetGraphModel" "thrown" "I", .fieldLink RX1 121 "StreetGraphModel" "steps" "I", .fieldLink RX1 48 "StreetGraphModel" "back" "[I"] ++ wsX10)
def wsX1_table_r1 : List Cond := [Cond.fieldLink RX1 51 "StreetGraphModel" "thrown" "I", Cond.constantLong RX1 104 (-11), Cond.constantLong RX1 89 (4000000000000000000), Cond.constantLong RX1 124 (-1), Cond.methodLink RX1 101 yX1_isStop, Cond.instanceMethod yX1_isStop, Cond.selects RX1 yX1_isStop yX1_isStop, Cond.initialized RX1, Cond.code yX1_isStop cX1_isStop 2 (some .boolean), Cond.fieldLink RX1 58 "StreetGraphModel" "stops" "I", Cond.methodLink RX1 110 yX1_reach, Cond.instanceMethod yX1_reach, Cond.selects RX1 yX1_reach yX1_reach, Cond.code yX1_reach cX1_reach 11 none, Cond.fieldLink RX1 42 "StreetGraphModel" "entered" "[J", Cond.fieldLink RX1 45 "StreetGraphModel" "done" "[J", Cond.fieldLink RX1 33 "StreetGraphModel" "on" "[I", Cond.fieldLink RX1 55 "StreetGraphModel" "pieces" "I", Cond.fieldLink RX1 16 "StreetGraphModel" "length" "[J", Cond.methodLink RX1 91 yX1_rest, Cond.instanceMethod yX1_rest, Cond.selects RX1 yX1_rest yX1_rest, Cond.code yX1_rest cX1_rest 4 (some .long), Cond.fieldLink RX1 39 "StreetGraphModel" "at" "[J"]
def wsX1_table_r2 : List Cond := [Cond.methodLink RX1 81 yX1_crossing, Cond.instanceMethod yX1_crossing, Cond.selects RX1 yX1_crossing yX1_crossing, Cond.code yX1_crossing cX1_crossing 2 (some .long), Cond.fieldLink RX1 36 "StreetGraphModel" "side" "[I", Cond.constantLong RX1 79 (15), Cond.methodLink RX1 85 yX1_seconds, Cond.instanceMethod yX1_seconds, Cond.selects RX1 yX1_seconds yX1_seconds, Cond.code yX1_seconds cX1_seconds 8 (some .long), Cond.constantLong RX1 61 (10), Cond.fieldLink RX1 20 "StreetGraphModel" "speed" "[J", Cond.methodLink RX1 94 yX1_leads, Cond.instanceMethod yX1_leads, Cond.selects RX1 yX1_leads yX1_leads, Cond.code yX1_leads cX1_leads 3 (some .boolean), Cond.fieldLink RX1 13 "StreetGraphModel" "ends" "[I", Cond.fieldLink RX1 7 "StreetGraphModel" "begins" "[I", Cond.fieldLink RX1 29 "StreetGraphModel" "barred" "[Z", Cond.methodLink RX1 98 yX1_entry, Cond.instanceMethod yX1_entry, Cond.selects RX1 yX1_entry yX1_entry, Cond.code yX1_entry cX1_entry 6 (some .long), Cond.fieldLink RX1 26 "StreetGraphModel" "close" "[J"]
def wsX1_table_r3 : List Cond := [Cond.constantLong RX1 77 (86400), Cond.fieldLink RX1 23 "StreetGraphModel" "open" "[J", Cond.methodLink RX1 114 yX1_straight, Cond.instanceMethod yX1_straight, Cond.selects RX1 yX1_straight yX1_straight, Cond.code yX1_straight cX1_straight 6 (some .long), Cond.methodLink RX1 118 yX1_around, Cond.instanceMethod yX1_around, Cond.selects RX1 yX1_around yX1_around, Cond.code yX1_around cX1_around 3 (some .long)]
def wsX1_table : List Cond := .code yX1_table cX1_table 9 (some .long) :: ((wsX1_table_r1 ++ (wsX1_table_r2 ++ wsX1_table_r3)) ++ wsX10)
def wsX1_service : List Cond := .code yX1_service cX1_service 5 (some .boolean) :: ([.fieldLink RX1 51 "StreetGraphModel" "thrown" "I", .fieldLink RX1 26 "StreetGraphModel" "close" "[J", .fieldLink RX1 58 "StreetGraphModel" "stops" "I", .fieldLink RX1 33 "StreetGraphModel" "on" "[I", .fieldLink RX1 36 "StreetGraphModel" "side" "[I", .fieldLink RX1 55 "StreetGraphModel" "pieces" "I", .methodLink RX1 73 yX1_isPiece, .instanceMethod yX1_isPiece, .selects RX1 yX1_isPiece yX1_isPiece, .initialized RX1, .code yX1_isPiece cX1_isPiece 2 (some .boolean), .methodLink RX1 94 yX1_leads, .instanceMethod yX1_leads, .selects RX1 yX1_leads yX1_leads, .code yX1_leads cX1_leads 3 (some .boolean), .fieldLink RX1 13 "StreetGraphModel" "ends" "[I", .fieldLink RX1 7 "StreetGraphModel" "begins" "[I", .fieldLink RX1 29 "StreetGraphModel" "barred" "[Z"] ++ wsX10)
def wsJx00060_init_a7421 : List Cond := .code yJx00060_init_a7421 cJx00060_init_a7421 2 none :: ([])
def wsJ9_max_f86c9 : List Cond := .code yJ9_max_f86c9 cJ9_max_f86c9 4 (some .long) :: ([])
def wsJ9_min_f86c9 : List Cond := .code yJ9_min_f86c9 cJ9_min_f86c9 4 (some .long) :: ([])
def wsL_piece : List Cond := .codeWith yL_piece cL_piece 9 (some .int) [(0, 14, 17, 13)] :: ([.classLink RL 13 "java/lang/ArithmeticException", .methodLink RL 7 yX0_piece, .instanceMethod yX0_piece, .selects RX0 yX0_piece yX0_piece, .initialized RX0, .code yX0_piece cX0_piece 7 (some .int), .classLink RX0 66 "java/lang/ArithmeticException", .initialized "java/lang/ArithmeticException", .constantLong RX0 58 (10000), .constantLong RX0 60 (1000), .fieldLink RX0 62 "StreetGraph" "pieceCount" "I", .fieldLink RX0 9 "StreetGraph" "begins" "[I", .fieldLink RX0 13 "StreetGraph" "ends" "[I", .fieldLink RX0 16 "StreetGraph" "lengths" "[J", .fieldLink RX0 20 "StreetGraph" "speeds" "[J", .methodLink RX0 54 yX0_isCrossing, .static yX0_isCrossing, .code yX0_isCrossing cX0_isCrossing 1 (some .boolean)] ++ wsX00 ++ (vx_atS RX0 70 "java/lang/ArithmeticException" ["java/lang/RuntimeException", "java/lang/Exception"]).filter goodWord)
def wsL_piece2 : List Cond := .codeWith yL_piece2 cL_piece2 4 (some .int) [(0, 9, 12, 19)] :: ([.methodLink RL 15 yX0_piece2, .instanceMethod yX0_piece2, .selects RX0 yX0_piece2 yX0_piece2, .initialized RX0, .code yX0_piece2 cX0_piece2 2 (some .int), .classLink RX0 118 RJx00060, .instantiable RJx00060 6, .initialized RJx00060, .fieldLink RX0 9 "StreetGraph" "begins" "[I", .fieldLink RX0 13 "StreetGraph" "ends" "[I", .methodLink RX0 73 yX0_isPiece, .instanceMethod yX0_isPiece, .selects RX0 yX0_isPiece yX0_isPiece, .code yX0_isPiece cX0_isPiece 2 (some .boolean), .fieldLink RX0 62 "StreetGraph" "pieceCount" "I"] ++ wsJx000600 ++ wsX00)
def wsL_law0_r1 : List Cond := [Cond.classLink RL 8 RX0, Cond.instantiable RX0 18, Cond.initialized RX0, Cond.classLink RL 22 RX1, Cond.instantiable RX1 17, Cond.initialized RX1, Cond.arrayClass .long, Cond.constantLong RL 25 (4294967295), Cond.methodLink RL 21 yX0_init, Cond.instanceMethod yX0_init, Cond.code yX0_init cX0_init 1 none, Cond.methodLink RX0 3 objectInit, Cond.instanceMethod objectInit, Cond.code objectInit ⟨#[0xb1]⟩ 1 none, Cond.arrayClass .int, Cond.fieldLink RX0 9 "StreetGraph" "begins" "[I", Cond.fieldLink RX0 13 "StreetGraph" "ends" "[I", Cond.fieldLink RX0 16 "StreetGraph" "lengths" "[J", Cond.fieldLink RX0 20 "StreetGraph" "speeds" "[J", Cond.fieldLink RX0 23 "StreetGraph" "opens" "[J", Cond.fieldLink RX0 26 "StreetGraph" "closes" "[J", Cond.fieldLink RX0 29 "StreetGraph" "barredBits" "[J", Cond.fieldLink RX0 32 "StreetGraph" "stopPieces" "[I", Cond.fieldLink RX0 35 "StreetGraph" "stopSides" "[I"]
def wsL_law0_r2 : List Cond := [Cond.fieldLink RX0 38 "StreetGraph" "stopMetres" "[J", Cond.fieldLink RX0 41 "StreetGraph" "entered" "[J", Cond.fieldLink RX0 44 "StreetGraph" "done" "[J", Cond.arrayClass .boolean, Cond.fieldLink RX0 47 "StreetGraph" "settled" "[Z", Cond.fieldLink RX0 51 "StreetGraph" "stepsBack" "[I", Cond.methodLink RL 24 yX1_init, Cond.instanceMethod yX1_init, Cond.code yX1_init cX1_init 1 none, Cond.methodLink RX1 1 objectInit, Cond.fieldLink RX1 7 "StreetGraphModel" "begins" "[I", Cond.fieldLink RX1 13 "StreetGraphModel" "ends" "[I", Cond.fieldLink RX1 16 "StreetGraphModel" "length" "[J", Cond.fieldLink RX1 20 "StreetGraphModel" "speed" "[J", Cond.fieldLink RX1 23 "StreetGraphModel" "open" "[J", Cond.fieldLink RX1 26 "StreetGraphModel" "close" "[J", Cond.fieldLink RX1 29 "StreetGraphModel" "barred" "[Z", Cond.fieldLink RX1 33 "StreetGraphModel" "on" "[I", Cond.fieldLink RX1 36 "StreetGraphModel" "side" "[I", Cond.fieldLink RX1 39 "StreetGraphModel" "at" "[J", Cond.fieldLink RX1 42 "StreetGraphModel" "entered" "[J", Cond.fieldLink RX1 45 "StreetGraphModel" "done" "[J", Cond.fieldLink RX1 48 "StreetGraphModel" "back" "[I", Cond.methodLink RL 27 yL_piece]
def wsL_law0_r3 : List Cond := [Cond.static yL_piece, Cond.initialized RL, Cond.codeWith yL_piece cL_piece 9 (some .int) [(0, 14, 17, 13)], Cond.classLink RL 13 "java/lang/ArithmeticException", Cond.methodLink RL 7 yX0_piece, Cond.instanceMethod yX0_piece, Cond.selects RX0 yX0_piece yX0_piece, Cond.code yX0_piece cX0_piece 7 (some .int), Cond.classLink RX0 66 "java/lang/ArithmeticException", Cond.initialized "java/lang/ArithmeticException", Cond.constantLong RX0 58 (10000), Cond.constantLong RX0 60 (1000), Cond.fieldLink RX0 62 "StreetGraph" "pieceCount" "I", Cond.methodLink RX0 54 yX0_isCrossing, Cond.static yX0_isCrossing, Cond.code yX0_isCrossing cX0_isCrossing 1 (some .boolean), Cond.methodLink RL 32 yX1_piece, Cond.instanceMethod yX1_piece, Cond.selects RX1 yX1_piece yX1_piece, Cond.code yX1_piece cX1_piece 7 (some .int), Cond.fieldLink RX1 51 "StreetGraphModel" "thrown" "I", Cond.constantLong RX1 63 (59), Cond.constantLong RX1 69 (10000), Cond.constantLong RX1 71 (1000)]
def wsL_law0_r4 : List Cond := [Cond.fieldLink RX1 55 "StreetGraphModel" "pieces" "I", Cond.methodLink RX1 65 yX1_in, Cond.static yX1_in, Cond.code yX1_in cX1_in 6 (some .boolean), Cond.methodLink RL 33 yX1_thrown, Cond.instanceMethod yX1_thrown, Cond.selects RX1 yX1_thrown yX1_thrown, Cond.code yX1_thrown cX1_thrown 1 (some .int), Cond.methodLink RL 37 yX0_turn, Cond.instanceMethod yX0_turn, Cond.selects RX0 yX0_turn yX0_turn, Cond.code yX0_turn cX0_turn 4 (some .int), Cond.fieldLink RX0 88 "StreetGraph" "barredCount" "I", Cond.methodLink RX0 73 yX0_isPiece, Cond.instanceMethod yX0_isPiece, Cond.selects RX0 yX0_isPiece yX0_isPiece, Cond.code yX0_isPiece cX0_isPiece 2 (some .boolean), Cond.methodLink RX0 76 yX0_isBarred, Cond.instanceMethod yX0_isBarred, Cond.selects RX0 yX0_isBarred yX0_isBarred, Cond.code yX0_isBarred cX0_isBarred 3 (some .boolean), Cond.methodLink RX0 80 yX0_wordOfTurn, Cond.static yX0_wordOfTurn, Cond.code yX0_wordOfTurn cX0_wordOfTurn 2 (some .int)]
def wsL_law0_r5 : List Cond := [Cond.methodLink RX0 84 yX0_bitOfTurn, Cond.static yX0_bitOfTurn, Cond.code yX0_bitOfTurn cX0_bitOfTurn 1 (some .long), Cond.methodLink RL 41 yX1_turn, Cond.instanceMethod yX1_turn, Cond.selects RX1 yX1_turn yX1_turn, Cond.code yX1_turn cX1_turn 6 (some .int), Cond.methodLink RX1 73 yX1_isPiece, Cond.instanceMethod yX1_isPiece, Cond.selects RX1 yX1_isPiece yX1_isPiece, Cond.code yX1_isPiece cX1_isPiece 2 (some .boolean), Cond.methodLink RL 42 yX0_stop, Cond.instanceMethod yX0_stop, Cond.selects RX0 yX0_stop yX0_stop, Cond.code yX0_stop cX0_stop 5 (some .int), Cond.fieldLink RX0 91 "StreetGraph" "stopCount" "I", Cond.methodLink RL 46 yX1_stop, Cond.instanceMethod yX1_stop, Cond.selects RX1 yX1_stop yX1_stop, Cond.code yX1_stop cX1_stop 5 (some .int), Cond.fieldLink RX1 58 "StreetGraphModel" "stops" "I", Cond.methodLink RL 47 yX0_way, Cond.instanceMethod yX0_way, Cond.selects RX0 yX0_way yX0_way]
def wsL_law0_r6 : List Cond := [Cond.code yX0_way cX0_way 7 (some .long), Cond.constantLong RX0 97 (-11), Cond.constantLong RX0 99 (1000000000000), Cond.constantLong RX0 101 (-12), Cond.fieldLink RX0 107 "StreetGraph" "stepCount" "I", Cond.constantLong RX0 110 (-1), Cond.methodLink RX0 94 yX0_isStop, Cond.instanceMethod yX0_isStop, Cond.selects RX0 yX0_isStop yX0_isStop, Cond.code yX0_isStop cX0_isStop 2 (some .boolean), Cond.methodLink RX0 103 yX0_leastArrival, Cond.instanceMethod yX0_leastArrival, Cond.selects RX0 yX0_leastArrival yX0_leastArrival, Cond.code yX0_leastArrival cX0_leastArrival 11 (some .long), Cond.constantLong RX0 159 (4000000000000000000), Cond.methodLink RX0 145 yX0_secondsAcross, Cond.instanceMethod yX0_secondsAcross, Cond.selects RX0 yX0_secondsAcross yX0_secondsAcross, Cond.code yX0_secondsAcross cX0_secondsAcross 2 (some .long), Cond.constantLong RX0 143 (15), Cond.methodLink RX0 148 yX0_isStraightOn, Cond.instanceMethod yX0_isStraightOn, Cond.selects RX0 yX0_isStraightOn yX0_isStraightOn, Cond.code yX0_isStraightOn cX0_isStraightOn 3 (some .boolean)]
def wsL_law0_r7 : List Cond := [Cond.methodLink RX0 151 yX0_secondsFor, Cond.instanceMethod yX0_secondsFor, Cond.selects RX0 yX0_secondsFor yX0_secondsFor, Cond.code yX0_secondsFor cX0_secondsFor 6 (some .long), Cond.methodLink RX0 135 Lib.MathLoose.max_long.x, Cond.static Lib.MathLoose.max_long.x, Cond.initialized "java/lang/Math", Cond.code Lib.MathLoose.max_long.x Lib.MathLoose.max_long.code 4 (some .long), Cond.constantLong RX0 141 (10), Cond.methodLink RX0 155 yX0_findLeastTimes, Cond.instanceMethod yX0_findLeastTimes, Cond.selects RX0 yX0_findLeastTimes yX0_findLeastTimes, Cond.code yX0_findLeastTimes cX0_findLeastTimes 7 none, Cond.methodLink RX0 161 yX0_forgetLeastTimes, Cond.instanceMethod yX0_forgetLeastTimes, Cond.selects RX0 yX0_forgetLeastTimes yX0_forgetLeastTimes, Cond.code yX0_forgetLeastTimes cX0_forgetLeastTimes 2 none, Cond.methodLink RX0 164 yX0_earliestUnsettled, Cond.instanceMethod yX0_earliestUnsettled, Cond.selects RX0 yX0_earliestUnsettled yX0_earliestUnsettled, Cond.code yX0_earliestUnsettled cX0_earliestUnsettled 5 (some .int), Cond.methodLink RX0 168 yX0_goOnFrom, Cond.instanceMethod yX0_goOnFrom, Cond.selects RX0 yX0_goOnFrom yX0_goOnFrom]
def wsL_law0_r8 : List Cond := [Cond.code yX0_goOnFrom cX0_goOnFrom 5 none, Cond.methodLink RX0 175 Lib.MathLoose.min_long.x, Cond.static Lib.MathLoose.min_long.x, Cond.code Lib.MathLoose.min_long.x Lib.MathLoose.min_long.code 4 (some .long), Cond.methodLink RX0 132 yX0_mayGoOn, Cond.instanceMethod yX0_mayGoOn, Cond.selects RX0 yX0_mayGoOn yX0_mayGoOn, Cond.code yX0_mayGoOn cX0_mayGoOn 3 (some .boolean), Cond.methodLink RX0 172 yX0_entryAtOrAfter, Cond.instanceMethod yX0_entryAtOrAfter, Cond.selects RX0 yX0_entryAtOrAfter yX0_entryAtOrAfter, Cond.code yX0_entryAtOrAfter cX0_entryAtOrAfter 6 (some .long), Cond.constantLong RX0 116 (86400), Cond.methodLink RX0 126 yX0_hasGate, Cond.instanceMethod yX0_hasGate, Cond.selects RX0 yX0_hasGate yX0_hasGate, Cond.code yX0_hasGate cX0_hasGate 2 (some .boolean), Cond.methodLink RX0 112 yX0_keepSteps, Cond.instanceMethod yX0_keepSteps, Cond.selects RX0 yX0_keepSteps yX0_keepSteps, Cond.code yX0_keepSteps cX0_keepSteps 6 none, Cond.methodLink RX0 178 yX0_pieceBefore, Cond.instanceMethod yX0_pieceBefore, Cond.selects RX0 yX0_pieceBefore yX0_pieceBefore]
def wsL_law0_r9 : List Cond := [Cond.code yX0_pieceBefore cX0_pieceBefore 3 (some .int), Cond.methodLink RL 51 yX1_way, Cond.instanceMethod yX1_way, Cond.selects RX1 yX1_way yX1_way, Cond.code yX1_way cX1_way 11 (some .long), Cond.constantLong RX1 104 (-11), Cond.constantLong RX1 106 (1000000000000), Cond.constantLong RX1 108 (-12), Cond.fieldLink RX1 121 "StreetGraphModel" "steps" "I", Cond.constantLong RX1 89 (4000000000000000000), Cond.constantLong RX1 124 (-1), Cond.methodLink RX1 101 yX1_isStop, Cond.instanceMethod yX1_isStop, Cond.selects RX1 yX1_isStop yX1_isStop, Cond.code yX1_isStop cX1_isStop 2 (some .boolean), Cond.methodLink RX1 110 yX1_reach, Cond.instanceMethod yX1_reach, Cond.selects RX1 yX1_reach yX1_reach, Cond.code yX1_reach cX1_reach 11 none, Cond.methodLink RX1 91 yX1_rest, Cond.instanceMethod yX1_rest, Cond.selects RX1 yX1_rest yX1_rest, Cond.code yX1_rest cX1_rest 4 (some .long), Cond.methodLink RX1 81 yX1_crossing]
def wsL_law0_r10 : List Cond := [Cond.instanceMethod yX1_crossing, Cond.selects RX1 yX1_crossing yX1_crossing, Cond.code yX1_crossing cX1_crossing 2 (some .long), Cond.constantLong RX1 79 (15), Cond.methodLink RX1 85 yX1_seconds, Cond.instanceMethod yX1_seconds, Cond.selects RX1 yX1_seconds yX1_seconds, Cond.code yX1_seconds cX1_seconds 8 (some .long), Cond.constantLong RX1 61 (10), Cond.methodLink RX1 94 yX1_leads, Cond.instanceMethod yX1_leads, Cond.selects RX1 yX1_leads yX1_leads, Cond.code yX1_leads cX1_leads 3 (some .boolean), Cond.methodLink RX1 98 yX1_entry, Cond.instanceMethod yX1_entry, Cond.selects RX1 yX1_entry yX1_entry, Cond.code yX1_entry cX1_entry 6 (some .long), Cond.constantLong RX1 77 (86400), Cond.methodLink RX1 114 yX1_straight, Cond.instanceMethod yX1_straight, Cond.selects RX1 yX1_straight yX1_straight, Cond.code yX1_straight cX1_straight 6 (some .long), Cond.methodLink RX1 118 yX1_around, Cond.instanceMethod yX1_around]
def wsL_law0_r11 : List Cond := [Cond.selects RX1 yX1_around yX1_around, Cond.code yX1_around cX1_around 3 (some .long), Cond.methodLink RX1 126 yX1_before, Cond.instanceMethod yX1_before, Cond.selects RX1 yX1_before yX1_before, Cond.code yX1_before cX1_before 4 (some .int), Cond.methodLink RL 52 yX0_step, Cond.instanceMethod yX0_step, Cond.selects RX0 yX0_step yX0_step, Cond.code yX0_step cX0_step 2 (some .int), Cond.methodLink RL 55 yX1_step, Cond.instanceMethod yX1_step, Cond.selects RX1 yX1_step yX1_step, Cond.code yX1_step cX1_step 2 (some .int), Cond.methodLink RL 56 yX0_gate, Cond.instanceMethod yX0_gate, Cond.selects RX0 yX0_gate yX0_gate, Cond.code yX0_gate cX0_gate 7 (some .int), Cond.methodLink RL 60 yX1_gate, Cond.instanceMethod yX1_gate, Cond.selects RX1 yX1_gate yX1_gate, Cond.code yX1_gate cX1_gate 7 (some .int), Cond.methodLink RL 61 yX0_change, Cond.instanceMethod yX0_change]
def wsL_law0_r12 : List Cond := [Cond.selects RX0 yX0_change yX0_change, Cond.code yX0_change cX0_change 5 (some .int), Cond.methodLink RL 65 yX1_change, Cond.instanceMethod yX1_change, Cond.selects RX1 yX1_change yX1_change, Cond.code yX1_change cX1_change 5 (some .int), Cond.methodLink RL 66 yX0_table, Cond.instanceMethod yX0_table, Cond.selects RX0 yX0_table yX0_table, Cond.code yX0_table cX0_table 3 (some .long), Cond.methodLink RL 70 yX1_table, Cond.instanceMethod yX1_table, Cond.selects RX1 yX1_table yX1_table, Cond.code yX1_table cX1_table 9 (some .long), Cond.methodLink RL 71 yL_piece2, Cond.static yL_piece2, Cond.codeWith yL_piece2 cL_piece2 4 (some .int) [(0, 9, 12, 19)], Cond.methodLink RL 15 yX0_piece2, Cond.instanceMethod yX0_piece2, Cond.selects RX0 yX0_piece2 yX0_piece2, Cond.code yX0_piece2 cX0_piece2 2 (some .int), Cond.classLink RX0 118 RJx00060, Cond.instantiable RJx00060 6, Cond.initialized RJx00060]
def wsL_law0_r13 : List Cond := [Cond.methodLink RL 74 yX1_piece2, Cond.instanceMethod yX1_piece2, Cond.selects RX1 yX1_piece2 yX1_piece2, Cond.code yX1_piece2 cX1_piece2 2 (some .int), Cond.methodLink RL 75 yX0_service, Cond.instanceMethod yX0_service, Cond.selects RX0 yX0_service yX0_service, Cond.code yX0_service cX0_service 3 (some .boolean), Cond.methodLink RX0 123 yX0_hasStopAtSide, Cond.instanceMethod yX0_hasStopAtSide, Cond.selects RX0 yX0_hasStopAtSide yX0_hasStopAtSide, Cond.code yX0_hasStopAtSide cX0_hasStopAtSide 4 (some .boolean), Cond.methodLink RX0 129 yX0_mayGoOnFrom, Cond.instanceMethod yX0_mayGoOnFrom, Cond.selects RX0 yX0_mayGoOnFrom yX0_mayGoOnFrom, Cond.code yX0_mayGoOnFrom cX0_mayGoOnFrom 3 (some .boolean), Cond.methodLink RL 79 yX1_service, Cond.instanceMethod yX1_service, Cond.selects RX1 yX1_service yX1_service, Cond.code yX1_service cX1_service 5 (some .boolean)]
def wsL_law0 : List Cond := (wsL_law0_r1 ++ (wsL_law0_r2 ++ (wsL_law0_r3 ++ (wsL_law0_r4 ++ (wsL_law0_r5 ++ (wsL_law0_r6 ++ (wsL_law0_r7 ++ (wsL_law0_r8 ++ (wsL_law0_r9 ++ (wsL_law0_r10 ++ (wsL_law0_r11 ++ (wsL_law0_r12 ++ wsL_law0_r13)))))))))))) ++ wsX00 ++ wsX10 ++ wsJx000600 ++ ([] : List Cond)
def wsL_law : List Cond := wsL_law0 ++ (vx_atS RX0 70 "java/lang/ArithmeticException" ["java/lang/RuntimeException", "java/lang/Exception"]).filter goodWord
set_option maxRecDepth 20000 in
theorem wsL_law_in0 : ∀ w ∈ wsL_law0, w ∈ lw_tbl := fun w h => (goodIn_p wsL_law0 [44, 47, 343, 238, 241, 404, 408, 400, 109, 113, 117, 120, 123, 422, 418, 127, 426, 131, 135, 142, 146, 151, 155, 158, 163, 167, 172, 176, 192, 180, 184, 188, 197, 201, 439, 443, 450, 455, 459, 464, 469, 473, 477, 481, 486, 205, 490, 209, 430, 213, 435, 218, 494, 317, 414, 222, 226, 230, 498] (by decide +kernel) (by decide +kernel) w h).1
theorem wsL_law_x0 : ∀ w ∈ (vx_atS RX0 70 "java/lang/ArithmeticException" ["java/lang/RuntimeException", "java/lang/Exception"]).filter goodWord, w ∈ lw_tbl := by decide +kernel
theorem wsL_law_in : ∀ w ∈ wsL_law, w ∈ lw_tbl := fun w h => (List.mem_append.mp h).elim (fun h => wsL_law_in0 w h) (fun h => wsL_law_x0 w h)
theorem inlX0 : ∀ w ∈ wsX00, w ∈ wsL_law := fun _ h => List.mem_append_left _ (List.mem_append_left _ (List.mem_append_left _ (List.mem_append_left _ (List.mem_append_right _ h))))
theorem inX0 : ∀ w ∈ wsX00, w ∈ lw_tbl := fun w h => wsL_law_in w (inlX0 w h)
theorem inlX1 : ∀ w ∈ wsX10, w ∈ wsL_law := fun _ h => List.mem_append_left _ (List.mem_append_left _ (List.mem_append_left _ (List.mem_append_right _ h)))
theorem inX1 : ∀ w ∈ wsX10, w ∈ lw_tbl := fun w h => wsL_law_in w (inlX1 w h)
theorem inlJx00060 : ∀ w ∈ wsJx000600, w ∈ wsL_law := fun _ h => List.mem_append_left _ (List.mem_append_left _ (List.mem_append_right _ h))
theorem inJx00060 : ∀ w ∈ wsJx000600, w ∈ lw_tbl := fun w h => wsL_law_in w (inlJx00060 w h)
theorem inJ9 : ∀ w ∈ wsJ90, w ∈ lw_tbl := by decide +kernel
theorem inJ0 : ∀ w ∈ wsJ00, w ∈ lw_tbl := by decide +kernel
abbrev vwCl : List vw_C := [(RJx00060, TJx00060, 6), (RX0, TX0, 18), (RX1, TX1, 17)]
end
section
theorem dX0_init_0 : decode cX0_init 0 = .ok (.aload_n 0, 1) := by decide +kernel
theorem dX0_init_1 : decode cX0_init 1 = .ok (.invokespecial 3, 3) := by decide +kernel
theorem dX0_init_4 : decode cX0_init 4 = .ok (.aload_n 0, 1) := by decide +kernel
theorem dX0_init_5 : decode cX0_init 5 = .ok (.bipush 120, 2) := by decide +kernel
theorem dX0_init_7 : decode cX0_init 7 = .ok (.newarray .int, 2) := by decide +kernel
theorem dX0_init_9 : decode cX0_init 9 = .ok (.putfield 9, 3) := by decide +kernel
theorem dX0_init_12 : decode cX0_init 12 = .ok (.aload_n 0, 1) := by decide +kernel
theorem dX0_init_13 : decode cX0_init 13 = .ok (.bipush 120, 2) := by decide +kernel
theorem dX0_init_15 : decode cX0_init 15 = .ok (.newarray .int, 2) := by decide +kernel
theorem dX0_init_17 : decode cX0_init 17 = .ok (.putfield 13, 3) := by decide +kernel
theorem dX0_init_20 : decode cX0_init 20 = .ok (.aload_n 0, 1) := by decide +kernel
theorem dX0_init_21 : decode cX0_init 21 = .ok (.bipush 120, 2) := by decide +kernel
theorem dX0_init_23 : decode cX0_init 23 = .ok (.newarray .long, 2) := by decide +kernel
theorem dX0_init_25 : decode cX0_init 25 = .ok (.putfield 16, 3) := by decide +kernel
theorem dX0_init_28 : decode cX0_init 28 = .ok (.aload_n 0, 1) := by decide +kernel
theorem dX0_init_29 : decode cX0_init 29 = .ok (.bipush 120, 2) := by decide +kernel
theorem dX0_init_31 : decode cX0_init 31 = .ok (.newarray .long, 2) := by decide +kernel
theorem dX0_init_33 : decode cX0_init 33 = .ok (.putfield 20, 3) := by decide +kernel
theorem dX0_init_36 : decode cX0_init 36 = .ok (.aload_n 0, 1) := by decide +kernel
theorem dX0_init_37 : decode cX0_init 37 = .ok (.bipush 120, 2) := by decide +kernel
theorem dX0_init_39 : decode cX0_init 39 = .ok (.newarray .long, 2) := by decide +kernel
theorem dX0_init_41 : decode cX0_init 41 = .ok (.putfield 23, 3) := by decide +kernel
theorem dX0_init_44 : decode cX0_init 44 = .ok (.aload_n 0, 1) := by decide +kernel
theorem dX0_init_45 : decode cX0_init 45 = .ok (.bipush 120, 2) := by decide +kernel
theorem dX0_init_47 : decode cX0_init 47 = .ok (.newarray .long, 2) := by decide +kernel
theorem dX0_init_49 : decode cX0_init 49 = .ok (.putfield 26, 3) := by decide +kernel
theorem dX0_init_52 : decode cX0_init 52 = .ok (.aload_n 0, 1) := by decide +kernel
theorem dX0_init_53 : decode cX0_init 53 = .ok (.sipush 240, 3) := by decide +kernel
theorem dX0_init_56 : decode cX0_init 56 = .ok (.newarray .long, 2) := by decide +kernel
theorem dX0_init_58 : decode cX0_init 58 = .ok (.putfield 29, 3) := by decide +kernel
theorem dX0_init_61 : decode cX0_init 61 = .ok (.aload_n 0, 1) := by decide +kernel
theorem dX0_init_62 : decode cX0_init 62 = .ok (.bipush 100, 2) := by decide +kernel
theorem dX0_init_64 : decode cX0_init 64 = .ok (.newarray .int, 2) := by decide +kernel
theorem dX0_init_66 : decode cX0_init 66 = .ok (.putfield 32, 3) := by decide +kernel
theorem dX0_init_69 : decode cX0_init 69 = .ok (.aload_n 0, 1) := by decide +kernel
theorem dX0_init_70 : decode cX0_init 70 = .ok (.bipush 100, 2) := by decide +kernel
theorem dX0_init_72 : decode cX0_init 72 = .ok (.newarray .int, 2) := by decide +kernel
theorem dX0_init_74 : decode cX0_init 74 = .ok (.putfield 35, 3) := by decide +kernel
theorem dX0_init_77 : decode cX0_init 77 = .ok (.aload_n 0, 1) := by decide +kernel
theorem dX0_init_78 : decode cX0_init 78 = .ok (.bipush 100, 2) := by decide +kernel
theorem dX0_init_80 : decode cX0_init 80 = .ok (.newarray .long, 2) := by decide +kernel
theorem dX0_init_82 : decode cX0_init 82 = .ok (.putfield 38, 3) := by decide +kernel
theorem dX0_init_85 : decode cX0_init 85 = .ok (.aload_n 0, 1) := by decide +kernel
theorem dX0_init_86 : decode cX0_init 86 = .ok (.bipush 120, 2) := by decide +kernel
theorem dX0_init_88 : decode cX0_init 88 = .ok (.newarray .long, 2) := by decide +kernel
theorem dX0_init_90 : decode cX0_init 90 = .ok (.putfield 41, 3) := by decide +kernel
theorem dX0_init_93 : decode cX0_init 93 = .ok (.aload_n 0, 1) := by decide +kernel
theorem dX0_init_94 : decode cX0_init 94 = .ok (.bipush 120, 2) := by decide +kernel
theorem dX0_init_96 : decode cX0_init 96 = .ok (.newarray .long, 2) := by decide +kernel
theorem dX0_init_98 : decode cX0_init 98 = .ok (.putfield 44, 3) := by decide +kernel
theorem dX0_init_101 : decode cX0_init 101 = .ok (.aload_n 0, 1) := by decide +kernel
theorem dX0_init_102 : decode cX0_init 102 = .ok (.bipush 120, 2) := by decide +kernel
theorem dX0_init_104 : decode cX0_init 104 = .ok (.newarray .boolean, 2) := by decide +kernel
theorem dX0_init_106 : decode cX0_init 106 = .ok (.putfield 47, 3) := by decide +kernel
theorem dX0_init_109 : decode cX0_init 109 = .ok (.aload_n 0, 1) := by decide +kernel
theorem dX0_init_110 : decode cX0_init 110 = .ok (.bipush 121, 2) := by decide +kernel
theorem dX0_init_112 : decode cX0_init 112 = .ok (.newarray .int, 2) := by decide +kernel
theorem dX0_init_114 : decode cX0_init 114 = .ok (.putfield 51, 3) := by decide +kernel
theorem dX0_init_117 : decode cX0_init 117 = .ok (.return_, 1) := by decide +kernel
set_option maxRecDepth 20000 in
theorem ggX0_piece_X0_isCrossing : GoodIn wsX0_piece wsX0_isCrossing := goodIn_r _ [13] (by decide +kernel) (by decide +kernel)
set_option maxRecDepth 20000 in
theorem gX0_piece_X0_isCrossing : GoodIn wsX0_piece (va_wsS RX0 54 yX0_isCrossing wsX0_isCrossing) := goodIn_app (goodIn_of _ (by decide +kernel)) ggX0_piece_X0_isCrossing
theorem dX0_piece_0 : decode cX0_piece 0 = .ok (.iload_n 1, 1) := by decide +kernel
theorem dX0_piece_1 : decode cX0_piece 1 = .ok (.invokestatic 54, 3) := by decide +kernel
theorem dX0_piece_4 : decode cX0_piece 4 = .ok (.ifCond .eq 10, 3) := by decide +kernel
theorem dX0_piece_7 : decode cX0_piece 7 = .ok (.iload_n 2, 1) := by decide +kernel
theorem dX0_piece_8 : decode cX0_piece 8 = .ok (.invokestatic 54, 3) := by decide +kernel
theorem dX0_piece_11 : decode cX0_piece 11 = .ok (.ifCond .ne 6, 3) := by decide +kernel
theorem dX0_piece_14 : decode cX0_piece 14 = .ok (.bipush (-11), 2) := by decide +kernel
theorem dX0_piece_16 : decode cX0_piece 16 = .ok (.ireturn, 1) := by decide +kernel
theorem dX0_piece_17 : decode cX0_piece 17 = .ok (.lload_n 3, 1) := by decide +kernel
theorem dX0_piece_18 : decode cX0_piece 18 = .ok (.lconst 1, 1) := by decide +kernel
theorem dX0_piece_19 : decode cX0_piece 19 = .ok (.lcmp, 1) := by decide +kernel
theorem dX0_piece_20 : decode cX0_piece 20 = .ok (.ifCond .lt 27, 3) := by decide +kernel
theorem dX0_piece_23 : decode cX0_piece 23 = .ok (.lload_n 3, 1) := by decide +kernel
theorem dX0_piece_24 : decode cX0_piece 24 = .ok (.ldc2_w 58, 3) := by decide +kernel
theorem dX0_piece_27 : decode cX0_piece 27 = .ok (.lcmp, 1) := by decide +kernel
theorem dX0_piece_28 : decode cX0_piece 28 = .ok (.ifCond .gt 19, 3) := by decide +kernel
theorem dX0_piece_31 : decode cX0_piece 31 = .ok (.lload 5, 2) := by decide +kernel
theorem dX0_piece_33 : decode cX0_piece 33 = .ok (.lconst 0, 1) := by decide +kernel
theorem dX0_piece_34 : decode cX0_piece 34 = .ok (.lcmp, 1) := by decide +kernel
theorem dX0_piece_35 : decode cX0_piece 35 = .ok (.ifCond .lt 12, 3) := by decide +kernel
theorem dX0_piece_38 : decode cX0_piece 38 = .ok (.lload 5, 2) := by decide +kernel
theorem dX0_piece_40 : decode cX0_piece 40 = .ok (.ldc2_w 60, 3) := by decide +kernel
theorem dX0_piece_43 : decode cX0_piece 43 = .ok (.lcmp, 1) := by decide +kernel
theorem dX0_piece_44 : decode cX0_piece 44 = .ok (.ifCond .le 6, 3) := by decide +kernel
theorem dX0_piece_47 : decode cX0_piece 47 = .ok (.bipush (-12), 2) := by decide +kernel
theorem dX0_piece_49 : decode cX0_piece 49 = .ok (.ireturn, 1) := by decide +kernel
theorem dX0_piece_50 : decode cX0_piece 50 = .ok (.aload_n 0, 1) := by decide +kernel
theorem dX0_piece_51 : decode cX0_piece 51 = .ok (.getfield 62, 3) := by decide +kernel
theorem dX0_piece_54 : decode cX0_piece 54 = .ok (.bipush 120, 2) := by decide +kernel
theorem dX0_piece_56 : decode cX0_piece 56 = .ok (.if_icmp .lt 6, 3) := by decide +kernel
theorem dX0_piece_59 : decode cX0_piece 59 = .ok (.bipush (-14), 2) := by decide +kernel
theorem dX0_piece_61 : decode cX0_piece 61 = .ok (.ireturn, 1) := by decide +kernel
theorem dX0_piece_62 : decode cX0_piece 62 = .ok (.lload 5, 2) := by decide +kernel
theorem dX0_piece_64 : decode cX0_piece 64 = .ok (.lconst 0, 1) := by decide +kernel
theorem dX0_piece_65 : decode cX0_piece 65 = .ok (.lcmp, 1) := by decide +kernel
theorem dX0_piece_66 : decode cX0_piece 66 = .ok (.ifCond .ne 13, 3) := by decide +kernel
theorem dX0_piece_69 : decode cX0_piece 69 = .ok (.new 66, 3) := by decide +kernel
theorem dX0_piece_72 : decode cX0_piece 72 = .ok (.dup, 1) := by decide +kernel
theorem dX0_piece_73 : decode cX0_piece 73 = .ok (.ldc 68, 2) := by decide +kernel
theorem dX0_piece_75 : decode cX0_piece 75 = .ok (.invokespecial 70, 3) := by decide +kernel
theorem dX0_piece_78 : decode cX0_piece 78 = .ok (.athrow, 1) := by decide +kernel
theorem dX0_piece_79 : decode cX0_piece 79 = .ok (.aload_n 0, 1) := by decide +kernel
theorem dX0_piece_80 : decode cX0_piece 80 = .ok (.getfield 9, 3) := by decide +kernel
theorem dX0_piece_83 : decode cX0_piece 83 = .ok (.aload_n 0, 1) := by decide +kernel
theorem dX0_piece_84 : decode cX0_piece 84 = .ok (.getfield 62, 3) := by decide +kernel
theorem dX0_piece_87 : decode cX0_piece 87 = .ok (.iload_n 1, 1) := by decide +kernel
theorem dX0_piece_88 : decode cX0_piece 88 = .ok (.iastore, 1) := by decide +kernel
theorem dX0_piece_89 : decode cX0_piece 89 = .ok (.aload_n 0, 1) := by decide +kernel
theorem dX0_piece_90 : decode cX0_piece 90 = .ok (.getfield 13, 3) := by decide +kernel
theorem dX0_piece_93 : decode cX0_piece 93 = .ok (.aload_n 0, 1) := by decide +kernel
theorem dX0_piece_94 : decode cX0_piece 94 = .ok (.getfield 62, 3) := by decide +kernel
theorem dX0_piece_97 : decode cX0_piece 97 = .ok (.iload_n 2, 1) := by decide +kernel
theorem dX0_piece_98 : decode cX0_piece 98 = .ok (.iastore, 1) := by decide +kernel
theorem dX0_piece_99 : decode cX0_piece 99 = .ok (.aload_n 0, 1) := by decide +kernel
theorem dX0_piece_100 : decode cX0_piece 100 = .ok (.getfield 16, 3) := by decide +kernel
theorem dX0_piece_103 : decode cX0_piece 103 = .ok (.aload_n 0, 1) := by decide +kernel
theorem dX0_piece_104 : decode cX0_piece 104 = .ok (.getfield 62, 3) := by decide +kernel
theorem dX0_piece_107 : decode cX0_piece 107 = .ok (.lload_n 3, 1) := by decide +kernel
theorem dX0_piece_108 : decode cX0_piece 108 = .ok (.lastore, 1) := by decide +kernel
theorem dX0_piece_109 : decode cX0_piece 109 = .ok (.aload_n 0, 1) := by decide +kernel
theorem dX0_piece_110 : decode cX0_piece 110 = .ok (.getfield 20, 3) := by decide +kernel
theorem dX0_piece_113 : decode cX0_piece 113 = .ok (.aload_n 0, 1) := by decide +kernel
theorem dX0_piece_114 : decode cX0_piece 114 = .ok (.getfield 62, 3) := by decide +kernel
theorem dX0_piece_117 : decode cX0_piece 117 = .ok (.lload 5, 2) := by decide +kernel
theorem dX0_piece_119 : decode cX0_piece 119 = .ok (.lastore, 1) := by decide +kernel
theorem dX0_piece_120 : decode cX0_piece 120 = .ok (.aload_n 0, 1) := by decide +kernel
theorem dX0_piece_121 : decode cX0_piece 121 = .ok (.dup, 1) := by decide +kernel
theorem dX0_piece_122 : decode cX0_piece 122 = .ok (.getfield 62, 3) := by decide +kernel
theorem dX0_piece_125 : decode cX0_piece 125 = .ok (.iconst 1, 1) := by decide +kernel
theorem dX0_piece_126 : decode cX0_piece 126 = .ok (.iadd, 1) := by decide +kernel
theorem dX0_piece_127 : decode cX0_piece 127 = .ok (.putfield 62, 3) := by decide +kernel
theorem dX0_piece_130 : decode cX0_piece 130 = .ok (.aload_n 0, 1) := by decide +kernel
theorem dX0_piece_131 : decode cX0_piece 131 = .ok (.getfield 62, 3) := by decide +kernel
theorem dX0_piece_134 : decode cX0_piece 134 = .ok (.iconst 1, 1) := by decide +kernel
theorem dX0_piece_135 : decode cX0_piece 135 = .ok (.isub, 1) := by decide +kernel
theorem dX0_piece_136 : decode cX0_piece 136 = .ok (.ireturn, 1) := by decide +kernel
set_option maxRecDepth 20000 in
theorem ggX0_turn_X0_isPiece : GoodIn wsX0_turn wsX0_isPiece := goodIn_r _ [9, 10, 21, 22, 23, 24, 25, 26, 27, 28, 29, 30, 31, 32, 33, 34, 35, 36, 37, 38] (by decide +kernel) (by decide +kernel)
set_option maxRecDepth 20000 in
theorem gX0_turn_X0_isPiece : GoodIn wsX0_turn (wsV RX0 73 RX0 yX0_isPiece wsX0_isPiece) := goodIn_app (goodIn_of _ (by decide +kernel)) ggX0_turn_X0_isPiece
set_option maxRecDepth 20000 in
theorem ggX0_turn_X0_isBarred : GoodIn wsX0_turn wsX0_isBarred := goodIn_r _ [14, 3, 15, 16, 8, 17, 18, 19, 20, 21, 22, 23, 24, 25, 26, 27, 28, 29, 30, 31, 32, 33, 34, 35, 36, 37, 38] (by decide +kernel) (by decide +kernel)
set_option maxRecDepth 20000 in
theorem gX0_turn_X0_isBarred : GoodIn wsX0_turn (wsV RX0 76 RX0 yX0_isBarred wsX0_isBarred) := goodIn_app (goodIn_of _ (by decide +kernel)) ggX0_turn_X0_isBarred
set_option maxRecDepth 20000 in
theorem ggX0_turn_X0_wordOfTurn : GoodIn wsX0_turn wsX0_wordOfTurn := goodIn_r _ [17] (by decide +kernel) (by decide +kernel)
set_option maxRecDepth 20000 in
theorem gX0_turn_X0_wordOfTurn : GoodIn wsX0_turn (va_wsS RX0 80 yX0_wordOfTurn wsX0_wordOfTurn) := goodIn_app (goodIn_of _ (by decide +kernel)) ggX0_turn_X0_wordOfTurn
set_option maxRecDepth 20000 in
theorem ggX0_turn_X0_bitOfTurn : GoodIn wsX0_turn wsX0_bitOfTurn := goodIn_r _ [20] (by decide +kernel) (by decide +kernel)
set_option maxRecDepth 20000 in
theorem gX0_turn_X0_bitOfTurn : GoodIn wsX0_turn (va_wsS RX0 84 yX0_bitOfTurn wsX0_bitOfTurn) := goodIn_app (goodIn_of _ (by decide +kernel)) ggX0_turn_X0_bitOfTurn
theorem dX0_turn_0 : decode cX0_turn 0 = .ok (.aload_n 0, 1) := by decide +kernel
theorem dX0_turn_1 : decode cX0_turn 1 = .ok (.iload_n 1, 1) := by decide +kernel
theorem dX0_turn_2 : decode cX0_turn 2 = .ok (.invokevirtual 73, 3) := by decide +kernel
theorem dX0_turn_5 : decode cX0_turn 5 = .ok (.ifCond .eq 11, 3) := by decide +kernel
theorem dX0_turn_8 : decode cX0_turn 8 = .ok (.aload_n 0, 1) := by decide +kernel
theorem dX0_turn_9 : decode cX0_turn 9 = .ok (.iload_n 2, 1) := by decide +kernel
theorem dX0_turn_10 : decode cX0_turn 10 = .ok (.invokevirtual 73, 3) := by decide +kernel
theorem dX0_turn_13 : decode cX0_turn 13 = .ok (.ifCond .ne 6, 3) := by decide +kernel
theorem dX0_turn_16 : decode cX0_turn 16 = .ok (.bipush (-11), 2) := by decide +kernel
theorem dX0_turn_18 : decode cX0_turn 18 = .ok (.ireturn, 1) := by decide +kernel
theorem dX0_turn_19 : decode cX0_turn 19 = .ok (.aload_n 0, 1) := by decide +kernel
theorem dX0_turn_20 : decode cX0_turn 20 = .ok (.getfield 13, 3) := by decide +kernel
theorem dX0_turn_23 : decode cX0_turn 23 = .ok (.iload_n 1, 1) := by decide +kernel
theorem dX0_turn_24 : decode cX0_turn 24 = .ok (.iaload, 1) := by decide +kernel
theorem dX0_turn_25 : decode cX0_turn 25 = .ok (.aload_n 0, 1) := by decide +kernel
theorem dX0_turn_26 : decode cX0_turn 26 = .ok (.getfield 9, 3) := by decide +kernel
theorem dX0_turn_29 : decode cX0_turn 29 = .ok (.iload_n 2, 1) := by decide +kernel
theorem dX0_turn_30 : decode cX0_turn 30 = .ok (.iaload, 1) := by decide +kernel
theorem dX0_turn_31 : decode cX0_turn 31 = .ok (.if_icmp .eq 6, 3) := by decide +kernel
theorem dX0_turn_34 : decode cX0_turn 34 = .ok (.bipush (-13), 2) := by decide +kernel
theorem dX0_turn_36 : decode cX0_turn 36 = .ok (.ireturn, 1) := by decide +kernel
theorem dX0_turn_37 : decode cX0_turn 37 = .ok (.aload_n 0, 1) := by decide +kernel
theorem dX0_turn_38 : decode cX0_turn 38 = .ok (.iload_n 1, 1) := by decide +kernel
theorem dX0_turn_39 : decode cX0_turn 39 = .ok (.iload_n 2, 1) := by decide +kernel
theorem dX0_turn_40 : decode cX0_turn 40 = .ok (.invokevirtual 76, 3) := by decide +kernel
theorem dX0_turn_43 : decode cX0_turn 43 = .ok (.iload_n 3, 1) := by decide +kernel
theorem dX0_turn_44 : decode cX0_turn 44 = .ok (.if_icmp .eq 38, 3) := by decide +kernel
theorem dX0_turn_47 : decode cX0_turn 47 = .ok (.aload_n 0, 1) := by decide +kernel
theorem dX0_turn_48 : decode cX0_turn 48 = .ok (.getfield 29, 3) := by decide +kernel
theorem dX0_turn_51 : decode cX0_turn 51 = .ok (.iload_n 1, 1) := by decide +kernel
theorem dX0_turn_52 : decode cX0_turn 52 = .ok (.iload_n 2, 1) := by decide +kernel
theorem dX0_turn_53 : decode cX0_turn 53 = .ok (.invokestatic 80, 3) := by decide +kernel
theorem dX0_turn_56 : decode cX0_turn 56 = .ok (.dup2, 1) := by decide +kernel
theorem dX0_turn_57 : decode cX0_turn 57 = .ok (.laload, 1) := by decide +kernel
theorem dX0_turn_58 : decode cX0_turn 58 = .ok (.iload_n 2, 1) := by decide +kernel
theorem dX0_turn_59 : decode cX0_turn 59 = .ok (.invokestatic 84, 3) := by decide +kernel
theorem dX0_turn_62 : decode cX0_turn 62 = .ok (.lxor, 1) := by decide +kernel
theorem dX0_turn_63 : decode cX0_turn 63 = .ok (.lastore, 1) := by decide +kernel
theorem dX0_turn_64 : decode cX0_turn 64 = .ok (.aload_n 0, 1) := by decide +kernel
theorem dX0_turn_65 : decode cX0_turn 65 = .ok (.dup, 1) := by decide +kernel
theorem dX0_turn_66 : decode cX0_turn 66 = .ok (.getfield 88, 3) := by decide +kernel
theorem dX0_turn_69 : decode cX0_turn 69 = .ok (.iload_n 3, 1) := by decide +kernel
theorem dX0_turn_70 : decode cX0_turn 70 = .ok (.ifCond .eq 7, 3) := by decide +kernel
theorem dX0_turn_73 : decode cX0_turn 73 = .ok (.iconst 1, 1) := by decide +kernel
theorem dX0_turn_74 : decode cX0_turn 74 = .ok (.goto 4, 3) := by decide +kernel
theorem dX0_turn_77 : decode cX0_turn 77 = .ok (.iconst (-1), 1) := by decide +kernel
theorem dX0_turn_78 : decode cX0_turn 78 = .ok (.iadd, 1) := by decide +kernel
theorem dX0_turn_79 : decode cX0_turn 79 = .ok (.putfield 88, 3) := by decide +kernel
theorem dX0_turn_82 : decode cX0_turn 82 = .ok (.aload_n 0, 1) := by decide +kernel
theorem dX0_turn_83 : decode cX0_turn 83 = .ok (.getfield 88, 3) := by decide +kernel
theorem dX0_turn_86 : decode cX0_turn 86 = .ok (.ireturn, 1) := by decide +kernel
set_option maxRecDepth 20000 in
theorem ggX0_stop_X0_isPiece : GoodIn wsX0_stop wsX0_isPiece := goodIn_r _ [10, 11, 12, 13, 14, 15, 16, 17, 18, 19, 20, 21, 22, 23, 24, 25, 26, 27, 28, 29] (by decide +kernel) (by decide +kernel)
set_option maxRecDepth 20000 in
theorem gX0_stop_X0_isPiece : GoodIn wsX0_stop (wsV RX0 73 RX0 yX0_isPiece wsX0_isPiece) := goodIn_app (goodIn_of _ (by decide +kernel)) ggX0_stop_X0_isPiece
theorem dX0_stop_0 : decode cX0_stop 0 = .ok (.aload_n 0, 1) := by decide +kernel
theorem dX0_stop_1 : decode cX0_stop 1 = .ok (.iload_n 1, 1) := by decide +kernel
theorem dX0_stop_2 : decode cX0_stop 2 = .ok (.invokevirtual 73, 3) := by decide +kernel
theorem dX0_stop_5 : decode cX0_stop 5 = .ok (.ifCond .ne 6, 3) := by decide +kernel
theorem dX0_stop_8 : decode cX0_stop 8 = .ok (.bipush (-11), 2) := by decide +kernel
theorem dX0_stop_10 : decode cX0_stop 10 = .ok (.ireturn, 1) := by decide +kernel
theorem dX0_stop_11 : decode cX0_stop 11 = .ok (.iload_n 2, 1) := by decide +kernel
theorem dX0_stop_12 : decode cX0_stop 12 = .ok (.ifCond .lt 25, 3) := by decide +kernel
theorem dX0_stop_15 : decode cX0_stop 15 = .ok (.iload_n 2, 1) := by decide +kernel
theorem dX0_stop_16 : decode cX0_stop 16 = .ok (.iconst 1, 1) := by decide +kernel
theorem dX0_stop_17 : decode cX0_stop 17 = .ok (.if_icmp .gt 20, 3) := by decide +kernel
theorem dX0_stop_20 : decode cX0_stop 20 = .ok (.lload_n 3, 1) := by decide +kernel
theorem dX0_stop_21 : decode cX0_stop 21 = .ok (.lconst 0, 1) := by decide +kernel
theorem dX0_stop_22 : decode cX0_stop 22 = .ok (.lcmp, 1) := by decide +kernel
theorem dX0_stop_23 : decode cX0_stop 23 = .ok (.ifCond .lt 14, 3) := by decide +kernel
theorem dX0_stop_26 : decode cX0_stop 26 = .ok (.lload_n 3, 1) := by decide +kernel
theorem dX0_stop_27 : decode cX0_stop 27 = .ok (.aload_n 0, 1) := by decide +kernel
theorem dX0_stop_28 : decode cX0_stop 28 = .ok (.getfield 16, 3) := by decide +kernel
theorem dX0_stop_31 : decode cX0_stop 31 = .ok (.iload_n 1, 1) := by decide +kernel
theorem dX0_stop_32 : decode cX0_stop 32 = .ok (.laload, 1) := by decide +kernel
theorem dX0_stop_33 : decode cX0_stop 33 = .ok (.lcmp, 1) := by decide +kernel
theorem dX0_stop_34 : decode cX0_stop 34 = .ok (.ifCond .le 6, 3) := by decide +kernel
theorem dX0_stop_37 : decode cX0_stop 37 = .ok (.bipush (-12), 2) := by decide +kernel
theorem dX0_stop_39 : decode cX0_stop 39 = .ok (.ireturn, 1) := by decide +kernel
theorem dX0_stop_40 : decode cX0_stop 40 = .ok (.aload_n 0, 1) := by decide +kernel
theorem dX0_stop_41 : decode cX0_stop 41 = .ok (.getfield 91, 3) := by decide +kernel
theorem dX0_stop_44 : decode cX0_stop 44 = .ok (.bipush 100, 2) := by decide +kernel
theorem dX0_stop_46 : decode cX0_stop 46 = .ok (.if_icmp .lt 6, 3) := by decide +kernel
theorem dX0_stop_49 : decode cX0_stop 49 = .ok (.bipush (-14), 2) := by decide +kernel
theorem dX0_stop_51 : decode cX0_stop 51 = .ok (.ireturn, 1) := by decide +kernel
theorem dX0_stop_52 : decode cX0_stop 52 = .ok (.aload_n 0, 1) := by decide +kernel
theorem dX0_stop_53 : decode cX0_stop 53 = .ok (.getfield 32, 3) := by decide +kernel
theorem dX0_stop_56 : decode cX0_stop 56 = .ok (.aload_n 0, 1) := by decide +kernel
theorem dX0_stop_57 : decode cX0_stop 57 = .ok (.getfield 91, 3) := by decide +kernel
theorem dX0_stop_60 : decode cX0_stop 60 = .ok (.iload_n 1, 1) := by decide +kernel
theorem dX0_stop_61 : decode cX0_stop 61 = .ok (.iastore, 1) := by decide +kernel
theorem dX0_stop_62 : decode cX0_stop 62 = .ok (.aload_n 0, 1) := by decide +kernel
theorem dX0_stop_63 : decode cX0_stop 63 = .ok (.getfield 35, 3) := by decide +kernel
theorem dX0_stop_66 : decode cX0_stop 66 = .ok (.aload_n 0, 1) := by decide +kernel
theorem dX0_stop_67 : decode cX0_stop 67 = .ok (.getfield 91, 3) := by decide +kernel
theorem dX0_stop_70 : decode cX0_stop 70 = .ok (.iload_n 2, 1) := by decide +kernel
theorem dX0_stop_71 : decode cX0_stop 71 = .ok (.iastore, 1) := by decide +kernel
theorem dX0_stop_72 : decode cX0_stop 72 = .ok (.aload_n 0, 1) := by decide +kernel
theorem dX0_stop_73 : decode cX0_stop 73 = .ok (.getfield 38, 3) := by decide +kernel
theorem dX0_stop_76 : decode cX0_stop 76 = .ok (.aload_n 0, 1) := by decide +kernel
theorem dX0_stop_77 : decode cX0_stop 77 = .ok (.getfield 91, 3) := by decide +kernel
theorem dX0_stop_80 : decode cX0_stop 80 = .ok (.lload_n 3, 1) := by decide +kernel
theorem dX0_stop_81 : decode cX0_stop 81 = .ok (.lastore, 1) := by decide +kernel
theorem dX0_stop_82 : decode cX0_stop 82 = .ok (.aload_n 0, 1) := by decide +kernel
theorem dX0_stop_83 : decode cX0_stop 83 = .ok (.dup, 1) := by decide +kernel
theorem dX0_stop_84 : decode cX0_stop 84 = .ok (.getfield 91, 3) := by decide +kernel
theorem dX0_stop_87 : decode cX0_stop 87 = .ok (.iconst 1, 1) := by decide +kernel
theorem dX0_stop_88 : decode cX0_stop 88 = .ok (.iadd, 1) := by decide +kernel
theorem dX0_stop_89 : decode cX0_stop 89 = .ok (.putfield 91, 3) := by decide +kernel
theorem dX0_stop_92 : decode cX0_stop 92 = .ok (.aload_n 0, 1) := by decide +kernel
theorem dX0_stop_93 : decode cX0_stop 93 = .ok (.getfield 91, 3) := by decide +kernel
theorem dX0_stop_96 : decode cX0_stop 96 = .ok (.iconst 1, 1) := by decide +kernel
theorem dX0_stop_97 : decode cX0_stop 97 = .ok (.isub, 1) := by decide +kernel
theorem dX0_stop_98 : decode cX0_stop 98 = .ok (.ireturn, 1) := by decide +kernel
set_option maxRecDepth 20000 in
theorem ggX0_way_X0_isStop : GoodIn wsX0_way wsX0_isStop := goodIn_r _ [10, 11, 100, 101, 102, 103, 104, 105, 106, 107, 108, 109, 110, 111, 112, 113, 114, 115, 116, 117] (by decide +kernel) (by decide +kernel)
set_option maxRecDepth 20000 in
theorem gX0_way_X0_isStop : GoodIn wsX0_way (wsV RX0 94 RX0 yX0_isStop wsX0_isStop) := goodIn_app (goodIn_of _ (by decide +kernel)) ggX0_way_X0_isStop
set_option maxRecDepth 20000 in
theorem ggX0_way_X0_leastArrival : GoodIn wsX0_way wsX0_leastArrival := goodIn_r _ [15, 16, 17, 18, 19, 20, 5, 21, 22, 23, 9, 24, 25, 26, 27, 28, 29, 30, 31, 32, 33, 34, 35, 36, 37, 38, 39, 40, 41, 42, 43, 44, 45, 46, 47, 48, 49, 50, 51, 52, 53, 54, 55, 56, 57, 58, 59, 60, 61, 62, 63, 64, 65, 66, 67, 68, 69, 70, 71, 72, 73, 74, 75, 76, 77, 78, 79, 80, 81, 82, 83, 84, 85, 86, 87, 88, 89, 90, 100, 101, 102, 103, 104, 105, 106, 107, 108, 109, 110, 111, 112, 113, 114, 115, 116, 117] (by decide +kernel) (by decide +kernel)
set_option maxRecDepth 20000 in
theorem gX0_way_X0_leastArrival : GoodIn wsX0_way (wsV RX0 103 RX0 yX0_leastArrival wsX0_leastArrival) := goodIn_app (goodIn_of _ (by decide +kernel)) ggX0_way_X0_leastArrival
set_option maxRecDepth 20000 in
theorem ggX0_way_X0_keepSteps : GoodIn wsX0_way wsX0_keepSteps := goodIn_r _ [94, 16, 95, 4, 27, 28, 29, 9, 30, 17, 96, 97, 98, 99, 46, 45, 19, 63, 64, 65, 66, 67, 68, 69, 70, 71, 72, 73, 74, 75, 76, 77, 78, 79, 80, 81, 82, 83, 84, 85, 86, 87, 88, 89, 90, 100, 101, 102, 103, 104, 105, 106, 107, 108, 109, 110, 111, 112, 113, 114, 115, 116, 117] (by decide +kernel) (by decide +kernel)
set_option maxRecDepth 20000 in
theorem gX0_way_X0_keepSteps : GoodIn wsX0_way (wsV RX0 112 RX0 yX0_keepSteps wsX0_keepSteps) := goodIn_app (goodIn_of _ (by decide +kernel)) ggX0_way_X0_keepSteps
theorem dX0_way_0 : decode cX0_way 0 = .ok (.aload_n 0, 1) := by decide +kernel
theorem dX0_way_1 : decode cX0_way 1 = .ok (.iload_n 1, 1) := by decide +kernel
theorem dX0_way_2 : decode cX0_way 2 = .ok (.invokevirtual 94, 3) := by decide +kernel
theorem dX0_way_5 : decode cX0_way 5 = .ok (.ifCond .eq 11, 3) := by decide +kernel
theorem dX0_way_8 : decode cX0_way 8 = .ok (.aload_n 0, 1) := by decide +kernel
theorem dX0_way_9 : decode cX0_way 9 = .ok (.iload_n 2, 1) := by decide +kernel
theorem dX0_way_10 : decode cX0_way 10 = .ok (.invokevirtual 94, 3) := by decide +kernel
theorem dX0_way_13 : decode cX0_way 13 = .ok (.ifCond .ne 7, 3) := by decide +kernel
theorem dX0_way_16 : decode cX0_way 16 = .ok (.ldc2_w 97, 3) := by decide +kernel
theorem dX0_way_19 : decode cX0_way 19 = .ok (.lreturn, 1) := by decide +kernel
theorem dX0_way_20 : decode cX0_way 20 = .ok (.lload_n 3, 1) := by decide +kernel
theorem dX0_way_21 : decode cX0_way 21 = .ok (.lconst 0, 1) := by decide +kernel
theorem dX0_way_22 : decode cX0_way 22 = .ok (.lcmp, 1) := by decide +kernel
theorem dX0_way_23 : decode cX0_way 23 = .ok (.ifCond .lt 11, 3) := by decide +kernel
theorem dX0_way_26 : decode cX0_way 26 = .ok (.lload_n 3, 1) := by decide +kernel
theorem dX0_way_27 : decode cX0_way 27 = .ok (.ldc2_w 99, 3) := by decide +kernel
theorem dX0_way_30 : decode cX0_way 30 = .ok (.lcmp, 1) := by decide +kernel
theorem dX0_way_31 : decode cX0_way 31 = .ok (.ifCond .le 7, 3) := by decide +kernel
theorem dX0_way_34 : decode cX0_way 34 = .ok (.ldc2_w 101, 3) := by decide +kernel
theorem dX0_way_37 : decode cX0_way 37 = .ok (.lreturn, 1) := by decide +kernel
theorem dX0_way_38 : decode cX0_way 38 = .ok (.aload_n 0, 1) := by decide +kernel
theorem dX0_way_39 : decode cX0_way 39 = .ok (.iload_n 1, 1) := by decide +kernel
theorem dX0_way_40 : decode cX0_way 40 = .ok (.iload_n 2, 1) := by decide +kernel
theorem dX0_way_41 : decode cX0_way 41 = .ok (.lload_n 3, 1) := by decide +kernel
theorem dX0_way_42 : decode cX0_way 42 = .ok (.invokevirtual 103, 3) := by decide +kernel
theorem dX0_way_45 : decode cX0_way 45 = .ok (.lstore 5, 2) := by decide +kernel
theorem dX0_way_47 : decode cX0_way 47 = .ok (.aload_n 0, 1) := by decide +kernel
theorem dX0_way_48 : decode cX0_way 48 = .ok (.iconst 0, 1) := by decide +kernel
theorem dX0_way_49 : decode cX0_way 49 = .ok (.putfield 107, 3) := by decide +kernel
theorem dX0_way_52 : decode cX0_way 52 = .ok (.lload 5, 2) := by decide +kernel
theorem dX0_way_54 : decode cX0_way 54 = .ok (.ldc2_w 110, 3) := by decide +kernel
theorem dX0_way_57 : decode cX0_way 57 = .ok (.lcmp, 1) := by decide +kernel
theorem dX0_way_58 : decode cX0_way 58 = .ok (.ifCond .eq 9, 3) := by decide +kernel
theorem dX0_way_61 : decode cX0_way 61 = .ok (.aload_n 0, 1) := by decide +kernel
theorem dX0_way_62 : decode cX0_way 62 = .ok (.iload_n 1, 1) := by decide +kernel
theorem dX0_way_63 : decode cX0_way 63 = .ok (.iload_n 2, 1) := by decide +kernel
theorem dX0_way_64 : decode cX0_way 64 = .ok (.invokevirtual 112, 3) := by decide +kernel
theorem dX0_way_67 : decode cX0_way 67 = .ok (.lload 5, 2) := by decide +kernel
theorem dX0_way_69 : decode cX0_way 69 = .ok (.lreturn, 1) := by decide +kernel
theorem dX0_step_0 : decode cX0_step 0 = .ok (.iload_n 1, 1) := by decide +kernel
theorem dX0_step_1 : decode cX0_step 1 = .ok (.ifCond .lt 11, 3) := by decide +kernel
theorem dX0_step_4 : decode cX0_step 4 = .ok (.iload_n 1, 1) := by decide +kernel
theorem dX0_step_5 : decode cX0_step 5 = .ok (.aload_n 0, 1) := by decide +kernel
theorem dX0_step_6 : decode cX0_step 6 = .ok (.getfield 107, 3) := by decide +kernel
theorem dX0_step_9 : decode cX0_step 9 = .ok (.if_icmp .lt 5, 3) := by decide +kernel
theorem dX0_step_12 : decode cX0_step 12 = .ok (.iconst (-1), 1) := by decide +kernel
theorem dX0_step_13 : decode cX0_step 13 = .ok (.ireturn, 1) := by decide +kernel
theorem dX0_step_14 : decode cX0_step 14 = .ok (.aload_n 0, 1) := by decide +kernel
theorem dX0_step_15 : decode cX0_step 15 = .ok (.getfield 51, 3) := by decide +kernel
theorem dX0_step_18 : decode cX0_step 18 = .ok (.aload_n 0, 1) := by decide +kernel
theorem dX0_step_19 : decode cX0_step 19 = .ok (.getfield 107, 3) := by decide +kernel
theorem dX0_step_22 : decode cX0_step 22 = .ok (.iconst 1, 1) := by decide +kernel
theorem dX0_step_23 : decode cX0_step 23 = .ok (.isub, 1) := by decide +kernel
theorem dX0_step_24 : decode cX0_step 24 = .ok (.iload_n 1, 1) := by decide +kernel
theorem dX0_step_25 : decode cX0_step 25 = .ok (.isub, 1) := by decide +kernel
theorem dX0_step_26 : decode cX0_step 26 = .ok (.iaload, 1) := by decide +kernel
theorem dX0_step_27 : decode cX0_step 27 = .ok (.ireturn, 1) := by decide +kernel
set_option maxRecDepth 20000 in
theorem ggX0_gate_X0_isPiece : GoodIn wsX0_gate wsX0_isPiece := goodIn_r _ [8, 9, 10, 11, 12, 13, 14, 15, 16, 17, 18, 19, 20, 21, 22, 23, 24, 25, 26, 27] (by decide +kernel) (by decide +kernel)
set_option maxRecDepth 20000 in
theorem gX0_gate_X0_isPiece : GoodIn wsX0_gate (wsV RX0 73 RX0 yX0_isPiece wsX0_isPiece) := goodIn_app (goodIn_of _ (by decide +kernel)) ggX0_gate_X0_isPiece
theorem dX0_gate_0 : decode cX0_gate 0 = .ok (.aload_n 0, 1) := by decide +kernel
theorem dX0_gate_1 : decode cX0_gate 1 = .ok (.iload_n 1, 1) := by decide +kernel
theorem dX0_gate_2 : decode cX0_gate 2 = .ok (.invokevirtual 73, 3) := by decide +kernel
theorem dX0_gate_5 : decode cX0_gate 5 = .ok (.ifCond .ne 6, 3) := by decide +kernel
theorem dX0_gate_8 : decode cX0_gate 8 = .ok (.bipush (-11), 2) := by decide +kernel
theorem dX0_gate_10 : decode cX0_gate 10 = .ok (.ireturn, 1) := by decide +kernel
theorem dX0_gate_11 : decode cX0_gate 11 = .ok (.lload_n 2, 1) := by decide +kernel
theorem dX0_gate_12 : decode cX0_gate 12 = .ok (.lconst 0, 1) := by decide +kernel
theorem dX0_gate_13 : decode cX0_gate 13 = .ok (.lcmp, 1) := by decide +kernel
theorem dX0_gate_14 : decode cX0_gate 14 = .ok (.ifCond .ne 14, 3) := by decide +kernel
theorem dX0_gate_17 : decode cX0_gate 17 = .ok (.lload 4, 2) := by decide +kernel
theorem dX0_gate_19 : decode cX0_gate 19 = .ok (.lconst 0, 1) := by decide +kernel
theorem dX0_gate_20 : decode cX0_gate 20 = .ok (.lcmp, 1) := by decide +kernel
theorem dX0_gate_21 : decode cX0_gate 21 = .ok (.ifCond .ne 7, 3) := by decide +kernel
theorem dX0_gate_24 : decode cX0_gate 24 = .ok (.iconst 1, 1) := by decide +kernel
theorem dX0_gate_25 : decode cX0_gate 25 = .ok (.goto 4, 3) := by decide +kernel
theorem dX0_gate_28 : decode cX0_gate 28 = .ok (.iconst 0, 1) := by decide +kernel
theorem dX0_gate_29 : decode cX0_gate 29 = .ok (.istore 6, 2) := by decide +kernel
theorem dX0_gate_31 : decode cX0_gate 31 = .ok (.iload 6, 2) := by decide +kernel
theorem dX0_gate_33 : decode cX0_gate 33 = .ok (.ifCond .ne 28, 3) := by decide +kernel
theorem dX0_gate_36 : decode cX0_gate 36 = .ok (.lload_n 2, 1) := by decide +kernel
theorem dX0_gate_37 : decode cX0_gate 37 = .ok (.lconst 0, 1) := by decide +kernel
theorem dX0_gate_38 : decode cX0_gate 38 = .ok (.lcmp, 1) := by decide +kernel
theorem dX0_gate_39 : decode cX0_gate 39 = .ok (.ifCond .lt 19, 3) := by decide +kernel
theorem dX0_gate_42 : decode cX0_gate 42 = .ok (.lload_n 2, 1) := by decide +kernel
theorem dX0_gate_43 : decode cX0_gate 43 = .ok (.lload 4, 2) := by decide +kernel
theorem dX0_gate_45 : decode cX0_gate 45 = .ok (.lcmp, 1) := by decide +kernel
theorem dX0_gate_46 : decode cX0_gate 46 = .ok (.ifCond .ge 12, 3) := by decide +kernel
theorem dX0_gate_49 : decode cX0_gate 49 = .ok (.lload 4, 2) := by decide +kernel
theorem dX0_gate_51 : decode cX0_gate 51 = .ok (.ldc2_w 116, 3) := by decide +kernel
theorem dX0_gate_54 : decode cX0_gate 54 = .ok (.lcmp, 1) := by decide +kernel
theorem dX0_gate_55 : decode cX0_gate 55 = .ok (.ifCond .le 6, 3) := by decide +kernel
theorem dX0_gate_58 : decode cX0_gate 58 = .ok (.bipush (-12), 2) := by decide +kernel
theorem dX0_gate_60 : decode cX0_gate 60 = .ok (.ireturn, 1) := by decide +kernel
theorem dX0_gate_61 : decode cX0_gate 61 = .ok (.aload_n 0, 1) := by decide +kernel
theorem dX0_gate_62 : decode cX0_gate 62 = .ok (.getfield 23, 3) := by decide +kernel
theorem dX0_gate_65 : decode cX0_gate 65 = .ok (.iload_n 1, 1) := by decide +kernel
theorem dX0_gate_66 : decode cX0_gate 66 = .ok (.lload_n 2, 1) := by decide +kernel
theorem dX0_gate_67 : decode cX0_gate 67 = .ok (.lastore, 1) := by decide +kernel
theorem dX0_gate_68 : decode cX0_gate 68 = .ok (.aload_n 0, 1) := by decide +kernel
theorem dX0_gate_69 : decode cX0_gate 69 = .ok (.getfield 26, 3) := by decide +kernel
theorem dX0_gate_72 : decode cX0_gate 72 = .ok (.iload_n 1, 1) := by decide +kernel
theorem dX0_gate_73 : decode cX0_gate 73 = .ok (.lload 4, 2) := by decide +kernel
theorem dX0_gate_75 : decode cX0_gate 75 = .ok (.lastore, 1) := by decide +kernel
theorem dX0_gate_76 : decode cX0_gate 76 = .ok (.iload 6, 2) := by decide +kernel
theorem dX0_gate_78 : decode cX0_gate 78 = .ok (.ifCond .eq 7, 3) := by decide +kernel
theorem dX0_gate_81 : decode cX0_gate 81 = .ok (.iconst 0, 1) := by decide +kernel
theorem dX0_gate_82 : decode cX0_gate 82 = .ok (.goto 4, 3) := by decide +kernel
theorem dX0_gate_85 : decode cX0_gate 85 = .ok (.iconst 1, 1) := by decide +kernel
theorem dX0_gate_86 : decode cX0_gate 86 = .ok (.ireturn, 1) := by decide +kernel
set_option maxRecDepth 20000 in
theorem ggX0_change_X0_isPiece : GoodIn wsX0_change wsX0_isPiece := goodIn_r _ [7, 8, 9, 10, 11, 12, 13, 14, 15, 16, 17, 18, 19, 20, 21, 22, 23, 24, 25, 26] (by decide +kernel) (by decide +kernel)
set_option maxRecDepth 20000 in
theorem gX0_change_X0_isPiece : GoodIn wsX0_change (wsV RX0 73 RX0 yX0_isPiece wsX0_isPiece) := goodIn_app (goodIn_of _ (by decide +kernel)) ggX0_change_X0_isPiece
theorem dX0_change_0 : decode cX0_change 0 = .ok (.aload_n 0, 1) := by decide +kernel
theorem dX0_change_1 : decode cX0_change 1 = .ok (.iload_n 1, 1) := by decide +kernel
theorem dX0_change_2 : decode cX0_change 2 = .ok (.invokevirtual 73, 3) := by decide +kernel
theorem dX0_change_5 : decode cX0_change 5 = .ok (.ifCond .ne 6, 3) := by decide +kernel
theorem dX0_change_8 : decode cX0_change 8 = .ok (.bipush (-11), 2) := by decide +kernel
theorem dX0_change_10 : decode cX0_change 10 = .ok (.ireturn, 1) := by decide +kernel
theorem dX0_change_11 : decode cX0_change 11 = .ok (.lload_n 2, 1) := by decide +kernel
theorem dX0_change_12 : decode cX0_change 12 = .ok (.lconst 1, 1) := by decide +kernel
theorem dX0_change_13 : decode cX0_change 13 = .ok (.lcmp, 1) := by decide +kernel
theorem dX0_change_14 : decode cX0_change 14 = .ok (.ifCond .lt 11, 3) := by decide +kernel
theorem dX0_change_17 : decode cX0_change 17 = .ok (.lload_n 2, 1) := by decide +kernel
theorem dX0_change_18 : decode cX0_change 18 = .ok (.ldc2_w 60, 3) := by decide +kernel
theorem dX0_change_21 : decode cX0_change 21 = .ok (.lcmp, 1) := by decide +kernel
theorem dX0_change_22 : decode cX0_change 22 = .ok (.ifCond .le 6, 3) := by decide +kernel
theorem dX0_change_25 : decode cX0_change 25 = .ok (.bipush (-12), 2) := by decide +kernel
theorem dX0_change_27 : decode cX0_change 27 = .ok (.ireturn, 1) := by decide +kernel
theorem dX0_change_28 : decode cX0_change 28 = .ok (.aload_n 0, 1) := by decide +kernel
theorem dX0_change_29 : decode cX0_change 29 = .ok (.getfield 20, 3) := by decide +kernel
theorem dX0_change_32 : decode cX0_change 32 = .ok (.iload_n 1, 1) := by decide +kernel
theorem dX0_change_33 : decode cX0_change 33 = .ok (.laload, 1) := by decide +kernel
theorem dX0_change_34 : decode cX0_change 34 = .ok (.l2i, 1) := by decide +kernel
theorem dX0_change_35 : decode cX0_change 35 = .ok (.istore 4, 2) := by decide +kernel
theorem dX0_change_37 : decode cX0_change 37 = .ok (.aload_n 0, 1) := by decide +kernel
theorem dX0_change_38 : decode cX0_change 38 = .ok (.getfield 20, 3) := by decide +kernel
theorem dX0_change_41 : decode cX0_change 41 = .ok (.iload_n 1, 1) := by decide +kernel
theorem dX0_change_42 : decode cX0_change 42 = .ok (.lload_n 2, 1) := by decide +kernel
theorem dX0_change_43 : decode cX0_change 43 = .ok (.lastore, 1) := by decide +kernel
theorem dX0_change_44 : decode cX0_change 44 = .ok (.iload 4, 2) := by decide +kernel
theorem dX0_change_46 : decode cX0_change 46 = .ok (.ireturn, 1) := by decide +kernel
set_option maxRecDepth 20000 in
theorem ggX0_table_X0_isStop : GoodIn wsX0_table wsX0_isStop := goodIn_r _ [6, 7, 88, 89, 90, 91, 92, 93, 94, 95, 96, 97, 98, 99, 100, 101, 102, 103, 104, 105] (by decide +kernel) (by decide +kernel)
set_option maxRecDepth 20000 in
theorem gX0_table_X0_isStop : GoodIn wsX0_table (wsV RX0 94 RX0 yX0_isStop wsX0_isStop) := goodIn_app (goodIn_of _ (by decide +kernel)) ggX0_table_X0_isStop
set_option maxRecDepth 20000 in
theorem ggX0_table_X0_leastArrival : GoodIn wsX0_table wsX0_leastArrival := goodIn_r _ [11, 12, 13, 14, 15, 16, 17, 18, 19, 20, 5, 21, 22, 23, 24, 25, 26, 27, 28, 29, 30, 31, 32, 33, 34, 35, 36, 37, 38, 39, 40, 41, 42, 43, 44, 45, 46, 47, 48, 49, 50, 51, 52, 53, 54, 55, 56, 57, 58, 59, 60, 61, 62, 63, 64, 65, 66, 67, 68, 69, 70, 71, 72, 73, 74, 75, 76, 77, 78, 79, 80, 81, 82, 83, 84, 85, 86, 87, 88, 89, 90, 91, 92, 93, 94, 95, 96, 97, 98, 99, 100, 101, 102, 103, 104, 105] (by decide +kernel) (by decide +kernel)
set_option maxRecDepth 20000 in
theorem gX0_table_X0_leastArrival : GoodIn wsX0_table (wsV RX0 103 RX0 yX0_leastArrival wsX0_leastArrival) := goodIn_app (goodIn_of _ (by decide +kernel)) ggX0_table_X0_leastArrival
theorem dX0_table_0 : decode cX0_table 0 = .ok (.aload_n 0, 1) := by decide +kernel
theorem dX0_table_1 : decode cX0_table 1 = .ok (.iload_n 1, 1) := by decide +kernel
theorem dX0_table_2 : decode cX0_table 2 = .ok (.invokevirtual 94, 3) := by decide +kernel
theorem dX0_table_5 : decode cX0_table 5 = .ok (.ifCond .eq 11, 3) := by decide +kernel
theorem dX0_table_8 : decode cX0_table 8 = .ok (.aload_n 0, 1) := by decide +kernel
theorem dX0_table_9 : decode cX0_table 9 = .ok (.iload_n 2, 1) := by decide +kernel
theorem dX0_table_10 : decode cX0_table 10 = .ok (.invokevirtual 94, 3) := by decide +kernel
theorem dX0_table_13 : decode cX0_table 13 = .ok (.ifCond .ne 7, 3) := by decide +kernel
theorem dX0_table_16 : decode cX0_table 16 = .ok (.ldc2_w 97, 3) := by decide +kernel
theorem dX0_table_19 : decode cX0_table 19 = .ok (.lreturn, 1) := by decide +kernel
theorem dX0_table_20 : decode cX0_table 20 = .ok (.aload_n 0, 1) := by decide +kernel
theorem dX0_table_21 : decode cX0_table 21 = .ok (.iload_n 1, 1) := by decide +kernel
theorem dX0_table_22 : decode cX0_table 22 = .ok (.iload_n 2, 1) := by decide +kernel
theorem dX0_table_23 : decode cX0_table 23 = .ok (.lconst 0, 1) := by decide +kernel
theorem dX0_table_24 : decode cX0_table 24 = .ok (.invokevirtual 103, 3) := by decide +kernel
theorem dX0_table_27 : decode cX0_table 27 = .ok (.lreturn, 1) := by decide +kernel
set_option maxRecDepth 20000 in
theorem ggX0_piece2_X0_isPiece : GoodIn wsX0_piece2 wsX0_isPiece := goodIn_r _ [10, 11, 18, 19, 20, 21, 22, 23, 24, 25, 26, 27, 28, 29, 30, 31, 32, 33, 34, 35] (by decide +kernel) (by decide +kernel)
set_option maxRecDepth 20000 in
theorem gX0_piece2_X0_isPiece : GoodIn wsX0_piece2 (wsV RX0 73 RX0 yX0_isPiece wsX0_isPiece) := goodIn_app (goodIn_of _ (by decide +kernel)) ggX0_piece2_X0_isPiece
theorem dX0_piece2_0 : decode cX0_piece2 0 = .ok (.aload_n 0, 1) := by decide +kernel
theorem dX0_piece2_1 : decode cX0_piece2 1 = .ok (.iload_n 1, 1) := by decide +kernel
theorem dX0_piece2_2 : decode cX0_piece2 2 = .ok (.invokevirtual 73, 3) := by decide +kernel
theorem dX0_piece2_5 : decode cX0_piece2 5 = .ok (.ifCond .ne 13, 3) := by decide +kernel
theorem dX0_piece2_8 : decode cX0_piece2 8 = .ok (.new 118, 3) := by decide +kernel
theorem dX0_piece2_11 : decode cX0_piece2 11 = .ok (.dup, 1) := by decide +kernel
theorem dX0_piece2_12 : decode cX0_piece2 12 = .ok (.ldc 120, 2) := by decide +kernel
theorem dX0_piece2_14 : decode cX0_piece2 14 = .ok (.invokespecial 122, 3) := by decide +kernel
theorem dX0_piece2_17 : decode cX0_piece2 17 = .ok (.athrow, 1) := by decide +kernel
theorem dX0_piece2_18 : decode cX0_piece2 18 = .ok (.bipush 60, 2) := by decide +kernel
theorem dX0_piece2_20 : decode cX0_piece2 20 = .ok (.aload_n 0, 1) := by decide +kernel
theorem dX0_piece2_21 : decode cX0_piece2 21 = .ok (.getfield 9, 3) := by decide +kernel
theorem dX0_piece2_24 : decode cX0_piece2 24 = .ok (.iload_n 1, 1) := by decide +kernel
theorem dX0_piece2_25 : decode cX0_piece2 25 = .ok (.iaload, 1) := by decide +kernel
theorem dX0_piece2_26 : decode cX0_piece2 26 = .ok (.imul, 1) := by decide +kernel
theorem dX0_piece2_27 : decode cX0_piece2 27 = .ok (.aload_n 0, 1) := by decide +kernel
theorem dX0_piece2_28 : decode cX0_piece2 28 = .ok (.getfield 13, 3) := by decide +kernel
theorem dX0_piece2_31 : decode cX0_piece2 31 = .ok (.iload_n 1, 1) := by decide +kernel
theorem dX0_piece2_32 : decode cX0_piece2 32 = .ok (.iaload, 1) := by decide +kernel
theorem dX0_piece2_33 : decode cX0_piece2 33 = .ok (.iadd, 1) := by decide +kernel
theorem dX0_piece2_34 : decode cX0_piece2 34 = .ok (.ireturn, 1) := by decide +kernel
set_option maxRecDepth 20000 in
theorem ggX0_service_X0_isPiece : GoodIn wsX0_service wsX0_isPiece := goodIn_r _ [5, 6, 40, 41, 42, 43, 44, 45, 46, 47, 48, 49, 50, 51, 52, 53, 54, 55, 56, 57] (by decide +kernel) (by decide +kernel)
set_option maxRecDepth 20000 in
theorem gX0_service_X0_isPiece : GoodIn wsX0_service (wsV RX0 73 RX0 yX0_isPiece wsX0_isPiece) := goodIn_app (goodIn_of _ (by decide +kernel)) ggX0_service_X0_isPiece
set_option maxRecDepth 20000 in
theorem ggX0_service_X0_hasStopAtSide : GoodIn wsX0_service wsX0_hasStopAtSide := goodIn_r _ [10, 11, 12, 13, 40, 41, 42, 43, 44, 45, 46, 47, 48, 49, 50, 51, 52, 53, 54, 55, 56, 57] (by decide +kernel) (by decide +kernel)
set_option maxRecDepth 20000 in
theorem gX0_service_X0_hasStopAtSide : GoodIn wsX0_service (wsV RX0 123 RX0 yX0_hasStopAtSide wsX0_hasStopAtSide) := goodIn_app (goodIn_of _ (by decide +kernel)) ggX0_service_X0_hasStopAtSide
set_option maxRecDepth 20000 in
theorem ggX0_service_X0_hasGate : GoodIn wsX0_service wsX0_hasGate := goodIn_r _ [17, 18, 40, 41, 42, 43, 44, 45, 46, 47, 48, 49, 50, 51, 52, 53, 54, 55, 56, 57] (by decide +kernel) (by decide +kernel)
set_option maxRecDepth 20000 in
theorem gX0_service_X0_hasGate : GoodIn wsX0_service (wsV RX0 126 RX0 yX0_hasGate wsX0_hasGate) := goodIn_app (goodIn_of _ (by decide +kernel)) ggX0_service_X0_hasGate
set_option maxRecDepth 20000 in
theorem ggX0_service_X0_mayGoOnFrom : GoodIn wsX0_service wsX0_mayGoOnFrom := goodIn_r _ [22, 6, 23, 24, 25, 4, 26, 27, 28, 29, 30, 31, 32, 33, 34, 35, 36, 37, 38, 39, 40, 41, 42, 43, 44, 45, 46, 47, 48, 49, 50, 51, 52, 53, 54, 55, 56, 57] (by decide +kernel) (by decide +kernel)
set_option maxRecDepth 20000 in
theorem gX0_service_X0_mayGoOnFrom : GoodIn wsX0_service (wsV RX0 129 RX0 yX0_mayGoOnFrom wsX0_mayGoOnFrom) := goodIn_app (goodIn_of _ (by decide +kernel)) ggX0_service_X0_mayGoOnFrom
theorem dX0_service_0 : decode cX0_service 0 = .ok (.aload_n 0, 1) := by decide +kernel
theorem dX0_service_1 : decode cX0_service 1 = .ok (.iload_n 1, 1) := by decide +kernel
theorem dX0_service_2 : decode cX0_service 2 = .ok (.invokevirtual 73, 3) := by decide +kernel
theorem dX0_service_5 : decode cX0_service 5 = .ok (.ifCond .ne 5, 3) := by decide +kernel
theorem dX0_service_8 : decode cX0_service 8 = .ok (.iconst 0, 1) := by decide +kernel
theorem dX0_service_9 : decode cX0_service 9 = .ok (.ireturn, 1) := by decide +kernel
theorem dX0_service_10 : decode cX0_service 10 = .ok (.iload_n 2, 1) := by decide +kernel
theorem dX0_service_11 : decode cX0_service 11 = .ok (.tableswitch 48 0 3 #[29, 29, 36, 42], 29) := by decide +kernel
theorem dX0_service_40 : decode cX0_service 40 = .ok (.aload_n 0, 1) := by decide +kernel
theorem dX0_service_41 : decode cX0_service 41 = .ok (.iload_n 1, 1) := by decide +kernel
theorem dX0_service_42 : decode cX0_service 42 = .ok (.iload_n 2, 1) := by decide +kernel
theorem dX0_service_43 : decode cX0_service 43 = .ok (.invokevirtual 123, 3) := by decide +kernel
theorem dX0_service_46 : decode cX0_service 46 = .ok (.ireturn, 1) := by decide +kernel
theorem dX0_service_47 : decode cX0_service 47 = .ok (.aload_n 0, 1) := by decide +kernel
theorem dX0_service_48 : decode cX0_service 48 = .ok (.iload_n 1, 1) := by decide +kernel
theorem dX0_service_49 : decode cX0_service 49 = .ok (.invokevirtual 126, 3) := by decide +kernel
theorem dX0_service_52 : decode cX0_service 52 = .ok (.ireturn, 1) := by decide +kernel
theorem dX0_service_53 : decode cX0_service 53 = .ok (.aload_n 0, 1) := by decide +kernel
theorem dX0_service_54 : decode cX0_service 54 = .ok (.iload_n 1, 1) := by decide +kernel
theorem dX0_service_55 : decode cX0_service 55 = .ok (.invokevirtual 129, 3) := by decide +kernel
theorem dX0_service_58 : decode cX0_service 58 = .ok (.ireturn, 1) := by decide +kernel
theorem dX0_service_59 : decode cX0_service 59 = .ok (.iconst 0, 1) := by decide +kernel
theorem dX0_service_60 : decode cX0_service 60 = .ok (.ireturn, 1) := by decide +kernel
theorem dX0_isCrossing_0 : decode cX0_isCrossing 0 = .ok (.iload_n 0, 1) := by decide +kernel
theorem dX0_isCrossing_1 : decode cX0_isCrossing 1 = .ok (.ifCond .lt 13, 3) := by decide +kernel
theorem dX0_isCrossing_4 : decode cX0_isCrossing 4 = .ok (.iload_n 0, 1) := by decide +kernel
theorem dX0_isCrossing_5 : decode cX0_isCrossing 5 = .ok (.bipush 60, 2) := by decide +kernel
theorem dX0_isCrossing_7 : decode cX0_isCrossing 7 = .ok (.if_icmp .ge 7, 3) := by decide +kernel
theorem dX0_isCrossing_10 : decode cX0_isCrossing 10 = .ok (.iconst 1, 1) := by decide +kernel
theorem dX0_isCrossing_11 : decode cX0_isCrossing 11 = .ok (.goto 4, 3) := by decide +kernel
theorem dX0_isCrossing_14 : decode cX0_isCrossing 14 = .ok (.iconst 0, 1) := by decide +kernel
theorem dX0_isCrossing_15 : decode cX0_isCrossing 15 = .ok (.ireturn, 1) := by decide +kernel
theorem dX0_isPiece_0 : decode cX0_isPiece 0 = .ok (.iload_n 1, 1) := by decide +kernel
theorem dX0_isPiece_1 : decode cX0_isPiece 1 = .ok (.ifCond .lt 15, 3) := by decide +kernel
theorem dX0_isPiece_4 : decode cX0_isPiece 4 = .ok (.iload_n 1, 1) := by decide +kernel
theorem dX0_isPiece_5 : decode cX0_isPiece 5 = .ok (.aload_n 0, 1) := by decide +kernel
theorem dX0_isPiece_6 : decode cX0_isPiece 6 = .ok (.getfield 62, 3) := by decide +kernel
theorem dX0_isPiece_9 : decode cX0_isPiece 9 = .ok (.if_icmp .ge 7, 3) := by decide +kernel
theorem dX0_isPiece_12 : decode cX0_isPiece 12 = .ok (.iconst 1, 1) := by decide +kernel
theorem dX0_isPiece_13 : decode cX0_isPiece 13 = .ok (.goto 4, 3) := by decide +kernel
theorem dX0_isPiece_16 : decode cX0_isPiece 16 = .ok (.iconst 0, 1) := by decide +kernel
theorem dX0_isPiece_17 : decode cX0_isPiece 17 = .ok (.ireturn, 1) := by decide +kernel
theorem dX0_isStop_0 : decode cX0_isStop 0 = .ok (.iload_n 1, 1) := by decide +kernel
theorem dX0_isStop_1 : decode cX0_isStop 1 = .ok (.ifCond .lt 15, 3) := by decide +kernel
theorem dX0_isStop_4 : decode cX0_isStop 4 = .ok (.iload_n 1, 1) := by decide +kernel
theorem dX0_isStop_5 : decode cX0_isStop 5 = .ok (.aload_n 0, 1) := by decide +kernel
theorem dX0_isStop_6 : decode cX0_isStop 6 = .ok (.getfield 91, 3) := by decide +kernel
theorem dX0_isStop_9 : decode cX0_isStop 9 = .ok (.if_icmp .ge 7, 3) := by decide +kernel
theorem dX0_isStop_12 : decode cX0_isStop 12 = .ok (.iconst 1, 1) := by decide +kernel
theorem dX0_isStop_13 : decode cX0_isStop 13 = .ok (.goto 4, 3) := by decide +kernel
theorem dX0_isStop_16 : decode cX0_isStop 16 = .ok (.iconst 0, 1) := by decide +kernel
theorem dX0_isStop_17 : decode cX0_isStop 17 = .ok (.ireturn, 1) := by decide +kernel
theorem dX0_wordOfTurn_0 : decode cX0_wordOfTurn 0 = .ok (.iload_n 0, 1) := by decide +kernel
theorem dX0_wordOfTurn_1 : decode cX0_wordOfTurn 1 = .ok (.iconst 2, 1) := by decide +kernel
theorem dX0_wordOfTurn_2 : decode cX0_wordOfTurn 2 = .ok (.imul, 1) := by decide +kernel
theorem dX0_wordOfTurn_3 : decode cX0_wordOfTurn 3 = .ok (.iload_n 1, 1) := by decide +kernel
theorem dX0_wordOfTurn_4 : decode cX0_wordOfTurn 4 = .ok (.bipush 64, 2) := by decide +kernel
theorem dX0_wordOfTurn_6 : decode cX0_wordOfTurn 6 = .ok (.idiv, 1) := by decide +kernel
theorem dX0_wordOfTurn_7 : decode cX0_wordOfTurn 7 = .ok (.iadd, 1) := by decide +kernel
theorem dX0_wordOfTurn_8 : decode cX0_wordOfTurn 8 = .ok (.ireturn, 1) := by decide +kernel
theorem dX0_bitOfTurn_0 : decode cX0_bitOfTurn 0 = .ok (.lconst 1, 1) := by decide +kernel
theorem dX0_bitOfTurn_1 : decode cX0_bitOfTurn 1 = .ok (.iload_n 0, 1) := by decide +kernel
theorem dX0_bitOfTurn_2 : decode cX0_bitOfTurn 2 = .ok (.bipush 64, 2) := by decide +kernel
theorem dX0_bitOfTurn_4 : decode cX0_bitOfTurn 4 = .ok (.irem, 1) := by decide +kernel
theorem dX0_bitOfTurn_5 : decode cX0_bitOfTurn 5 = .ok (.lshl, 1) := by decide +kernel
end
section
theorem dX0_bitOfTurn_6 : decode cX0_bitOfTurn 6 = .ok (.lreturn, 1) := by decide +kernel
set_option maxRecDepth 20000 in
theorem ggX0_isBarred_X0_wordOfTurn : GoodIn wsX0_isBarred wsX0_wordOfTurn := goodIn_r _ [5] (by decide +kernel) (by decide +kernel)
set_option maxRecDepth 20000 in
theorem gX0_isBarred_X0_wordOfTurn : GoodIn wsX0_isBarred (va_wsS RX0 80 yX0_wordOfTurn wsX0_wordOfTurn) := goodIn_app (goodIn_of _ (by decide +kernel)) ggX0_isBarred_X0_wordOfTurn
set_option maxRecDepth 20000 in
theorem ggX0_isBarred_X0_bitOfTurn : GoodIn wsX0_isBarred wsX0_bitOfTurn := goodIn_r _ [8] (by decide +kernel) (by decide +kernel)
set_option maxRecDepth 20000 in
theorem gX0_isBarred_X0_bitOfTurn : GoodIn wsX0_isBarred (va_wsS RX0 84 yX0_bitOfTurn wsX0_bitOfTurn) := goodIn_app (goodIn_of _ (by decide +kernel)) ggX0_isBarred_X0_bitOfTurn
theorem dX0_isBarred_0 : decode cX0_isBarred 0 = .ok (.aload_n 0, 1) := by decide +kernel
theorem dX0_isBarred_1 : decode cX0_isBarred 1 = .ok (.getfield 29, 3) := by decide +kernel
theorem dX0_isBarred_4 : decode cX0_isBarred 4 = .ok (.iload_n 1, 1) := by decide +kernel
theorem dX0_isBarred_5 : decode cX0_isBarred 5 = .ok (.iload_n 2, 1) := by decide +kernel
theorem dX0_isBarred_6 : decode cX0_isBarred 6 = .ok (.invokestatic 80, 3) := by decide +kernel
theorem dX0_isBarred_9 : decode cX0_isBarred 9 = .ok (.laload, 1) := by decide +kernel
theorem dX0_isBarred_10 : decode cX0_isBarred 10 = .ok (.iload_n 2, 1) := by decide +kernel
theorem dX0_isBarred_11 : decode cX0_isBarred 11 = .ok (.invokestatic 84, 3) := by decide +kernel
theorem dX0_isBarred_14 : decode cX0_isBarred 14 = .ok (.land, 1) := by decide +kernel
theorem dX0_isBarred_15 : decode cX0_isBarred 15 = .ok (.lconst 0, 1) := by decide +kernel
theorem dX0_isBarred_16 : decode cX0_isBarred 16 = .ok (.lcmp, 1) := by decide +kernel
theorem dX0_isBarred_17 : decode cX0_isBarred 17 = .ok (.ifCond .eq 7, 3) := by decide +kernel
theorem dX0_isBarred_20 : decode cX0_isBarred 20 = .ok (.iconst 1, 1) := by decide +kernel
theorem dX0_isBarred_21 : decode cX0_isBarred 21 = .ok (.goto 4, 3) := by decide +kernel
theorem dX0_isBarred_24 : decode cX0_isBarred 24 = .ok (.iconst 0, 1) := by decide +kernel
theorem dX0_isBarred_25 : decode cX0_isBarred 25 = .ok (.ireturn, 1) := by decide +kernel
set_option maxRecDepth 20000 in
theorem ggX0_mayGoOn_X0_isBarred : GoodIn wsX0_mayGoOn wsX0_isBarred := goodIn_r _ [7, 8, 9, 10, 6, 11, 12, 13, 14, 15, 16, 17, 18, 19, 20, 21, 22, 23, 24, 25, 26, 27, 28, 29, 30, 31, 32] (by decide +kernel) (by decide +kernel)
set_option maxRecDepth 20000 in
theorem gX0_mayGoOn_X0_isBarred : GoodIn wsX0_mayGoOn (wsV RX0 76 RX0 yX0_isBarred wsX0_isBarred) := goodIn_app (goodIn_of _ (by decide +kernel)) ggX0_mayGoOn_X0_isBarred
theorem dX0_mayGoOn_0 : decode cX0_mayGoOn 0 = .ok (.aload_n 0, 1) := by decide +kernel
theorem dX0_mayGoOn_1 : decode cX0_mayGoOn 1 = .ok (.getfield 13, 3) := by decide +kernel
theorem dX0_mayGoOn_4 : decode cX0_mayGoOn 4 = .ok (.iload_n 1, 1) := by decide +kernel
theorem dX0_mayGoOn_5 : decode cX0_mayGoOn 5 = .ok (.iaload, 1) := by decide +kernel
theorem dX0_mayGoOn_6 : decode cX0_mayGoOn 6 = .ok (.aload_n 0, 1) := by decide +kernel
theorem dX0_mayGoOn_7 : decode cX0_mayGoOn 7 = .ok (.getfield 9, 3) := by decide +kernel
theorem dX0_mayGoOn_10 : decode cX0_mayGoOn 10 = .ok (.iload_n 2, 1) := by decide +kernel
theorem dX0_mayGoOn_11 : decode cX0_mayGoOn 11 = .ok (.iaload, 1) := by decide +kernel
theorem dX0_mayGoOn_12 : decode cX0_mayGoOn 12 = .ok (.if_icmp .ne 16, 3) := by decide +kernel
theorem dX0_mayGoOn_15 : decode cX0_mayGoOn 15 = .ok (.aload_n 0, 1) := by decide +kernel
theorem dX0_mayGoOn_16 : decode cX0_mayGoOn 16 = .ok (.iload_n 1, 1) := by decide +kernel
theorem dX0_mayGoOn_17 : decode cX0_mayGoOn 17 = .ok (.iload_n 2, 1) := by decide +kernel
theorem dX0_mayGoOn_18 : decode cX0_mayGoOn 18 = .ok (.invokevirtual 76, 3) := by decide +kernel
theorem dX0_mayGoOn_21 : decode cX0_mayGoOn 21 = .ok (.ifCond .ne 7, 3) := by decide +kernel
theorem dX0_mayGoOn_24 : decode cX0_mayGoOn 24 = .ok (.iconst 1, 1) := by decide +kernel
theorem dX0_mayGoOn_25 : decode cX0_mayGoOn 25 = .ok (.goto 4, 3) := by decide +kernel
theorem dX0_mayGoOn_28 : decode cX0_mayGoOn 28 = .ok (.iconst 0, 1) := by decide +kernel
theorem dX0_mayGoOn_29 : decode cX0_mayGoOn 29 = .ok (.ireturn, 1) := by decide +kernel
set_option maxRecDepth 20000 in
theorem ggX0_mayGoOnFrom_X0_mayGoOn : GoodIn wsX0_mayGoOnFrom wsX0_mayGoOn := goodIn_r _ [6, 7, 8, 9, 10, 11, 5, 12, 13, 14, 15, 16, 17, 18, 19, 20, 21, 22, 23, 24, 25, 26, 27, 28, 29, 30, 31, 32, 33, 34, 35, 36, 37] (by decide +kernel) (by decide +kernel)
set_option maxRecDepth 20000 in
theorem gX0_mayGoOnFrom_X0_mayGoOn : GoodIn wsX0_mayGoOnFrom (wsV RX0 132 RX0 yX0_mayGoOn wsX0_mayGoOn) := goodIn_app (goodIn_of _ (by decide +kernel)) ggX0_mayGoOnFrom_X0_mayGoOn
theorem dX0_mayGoOnFrom_0 : decode cX0_mayGoOnFrom 0 = .ok (.iconst 0, 1) := by decide +kernel
theorem dX0_mayGoOnFrom_1 : decode cX0_mayGoOnFrom 1 = .ok (.istore_n 2, 1) := by decide +kernel
theorem dX0_mayGoOnFrom_2 : decode cX0_mayGoOnFrom 2 = .ok (.iload_n 2, 1) := by decide +kernel
theorem dX0_mayGoOnFrom_3 : decode cX0_mayGoOnFrom 3 = .ok (.aload_n 0, 1) := by decide +kernel
theorem dX0_mayGoOnFrom_4 : decode cX0_mayGoOnFrom 4 = .ok (.getfield 62, 3) := by decide +kernel
theorem dX0_mayGoOnFrom_7 : decode cX0_mayGoOnFrom 7 = .ok (.if_icmp .ge 20, 3) := by decide +kernel
theorem dX0_mayGoOnFrom_10 : decode cX0_mayGoOnFrom 10 = .ok (.aload_n 0, 1) := by decide +kernel
theorem dX0_mayGoOnFrom_11 : decode cX0_mayGoOnFrom 11 = .ok (.iload_n 1, 1) := by decide +kernel
theorem dX0_mayGoOnFrom_12 : decode cX0_mayGoOnFrom 12 = .ok (.iload_n 2, 1) := by decide +kernel
theorem dX0_mayGoOnFrom_13 : decode cX0_mayGoOnFrom 13 = .ok (.invokevirtual 132, 3) := by decide +kernel
theorem dX0_mayGoOnFrom_16 : decode cX0_mayGoOnFrom 16 = .ok (.ifCond .eq 5, 3) := by decide +kernel
theorem dX0_mayGoOnFrom_19 : decode cX0_mayGoOnFrom 19 = .ok (.iconst 1, 1) := by decide +kernel
theorem dX0_mayGoOnFrom_20 : decode cX0_mayGoOnFrom 20 = .ok (.ireturn, 1) := by decide +kernel
theorem dX0_mayGoOnFrom_21 : decode cX0_mayGoOnFrom 21 = .ok (.iinc 2 1, 3) := by decide +kernel
theorem dX0_mayGoOnFrom_24 : decode cX0_mayGoOnFrom 24 = .ok (.goto (-22), 3) := by decide +kernel
theorem dX0_mayGoOnFrom_27 : decode cX0_mayGoOnFrom 27 = .ok (.iconst 0, 1) := by decide +kernel
theorem dX0_mayGoOnFrom_28 : decode cX0_mayGoOnFrom 28 = .ok (.ireturn, 1) := by decide +kernel
theorem dX0_hasStopAtSide_0 : decode cX0_hasStopAtSide 0 = .ok (.iconst 0, 1) := by decide +kernel
theorem dX0_hasStopAtSide_1 : decode cX0_hasStopAtSide 1 = .ok (.istore_n 3, 1) := by decide +kernel
theorem dX0_hasStopAtSide_2 : decode cX0_hasStopAtSide 2 = .ok (.iload_n 3, 1) := by decide +kernel
theorem dX0_hasStopAtSide_3 : decode cX0_hasStopAtSide 3 = .ok (.aload_n 0, 1) := by decide +kernel
theorem dX0_hasStopAtSide_4 : decode cX0_hasStopAtSide 4 = .ok (.getfield 91, 3) := by decide +kernel
theorem dX0_hasStopAtSide_7 : decode cX0_hasStopAtSide 7 = .ok (.if_icmp .ge 31, 3) := by decide +kernel
theorem dX0_hasStopAtSide_10 : decode cX0_hasStopAtSide 10 = .ok (.aload_n 0, 1) := by decide +kernel
theorem dX0_hasStopAtSide_11 : decode cX0_hasStopAtSide 11 = .ok (.getfield 32, 3) := by decide +kernel
theorem dX0_hasStopAtSide_14 : decode cX0_hasStopAtSide 14 = .ok (.iload_n 3, 1) := by decide +kernel
theorem dX0_hasStopAtSide_15 : decode cX0_hasStopAtSide 15 = .ok (.iaload, 1) := by decide +kernel
theorem dX0_hasStopAtSide_16 : decode cX0_hasStopAtSide 16 = .ok (.iload_n 1, 1) := by decide +kernel
theorem dX0_hasStopAtSide_17 : decode cX0_hasStopAtSide 17 = .ok (.if_icmp .ne 15, 3) := by decide +kernel
theorem dX0_hasStopAtSide_20 : decode cX0_hasStopAtSide 20 = .ok (.aload_n 0, 1) := by decide +kernel
theorem dX0_hasStopAtSide_21 : decode cX0_hasStopAtSide 21 = .ok (.getfield 35, 3) := by decide +kernel
theorem dX0_hasStopAtSide_24 : decode cX0_hasStopAtSide 24 = .ok (.iload_n 3, 1) := by decide +kernel
theorem dX0_hasStopAtSide_25 : decode cX0_hasStopAtSide 25 = .ok (.iaload, 1) := by decide +kernel
theorem dX0_hasStopAtSide_26 : decode cX0_hasStopAtSide 26 = .ok (.iload_n 2, 1) := by decide +kernel
theorem dX0_hasStopAtSide_27 : decode cX0_hasStopAtSide 27 = .ok (.if_icmp .ne 5, 3) := by decide +kernel
theorem dX0_hasStopAtSide_30 : decode cX0_hasStopAtSide 30 = .ok (.iconst 1, 1) := by decide +kernel
theorem dX0_hasStopAtSide_31 : decode cX0_hasStopAtSide 31 = .ok (.ireturn, 1) := by decide +kernel
theorem dX0_hasStopAtSide_32 : decode cX0_hasStopAtSide 32 = .ok (.iinc 3 1, 3) := by decide +kernel
theorem dX0_hasStopAtSide_35 : decode cX0_hasStopAtSide 35 = .ok (.goto (-33), 3) := by decide +kernel
theorem dX0_hasStopAtSide_38 : decode cX0_hasStopAtSide 38 = .ok (.iconst 0, 1) := by decide +kernel
theorem dX0_hasStopAtSide_39 : decode cX0_hasStopAtSide 39 = .ok (.ireturn, 1) := by decide +kernel
theorem dX0_hasGate_0 : decode cX0_hasGate 0 = .ok (.aload_n 0, 1) := by decide +kernel
theorem dX0_hasGate_1 : decode cX0_hasGate 1 = .ok (.getfield 26, 3) := by decide +kernel
theorem dX0_hasGate_4 : decode cX0_hasGate 4 = .ok (.iload_n 1, 1) := by decide +kernel
theorem dX0_hasGate_5 : decode cX0_hasGate 5 = .ok (.laload, 1) := by decide +kernel
theorem dX0_hasGate_6 : decode cX0_hasGate 6 = .ok (.lconst 0, 1) := by decide +kernel
theorem dX0_hasGate_7 : decode cX0_hasGate 7 = .ok (.lcmp, 1) := by decide +kernel
theorem dX0_hasGate_8 : decode cX0_hasGate 8 = .ok (.ifCond .eq 7, 3) := by decide +kernel
theorem dX0_hasGate_11 : decode cX0_hasGate 11 = .ok (.iconst 1, 1) := by decide +kernel
theorem dX0_hasGate_12 : decode cX0_hasGate 12 = .ok (.goto 4, 3) := by decide +kernel
theorem dX0_hasGate_15 : decode cX0_hasGate 15 = .ok (.iconst 0, 1) := by decide +kernel
theorem dX0_hasGate_16 : decode cX0_hasGate 16 = .ok (.ireturn, 1) := by decide +kernel
theorem dX0_secondsFor_0 : decode cX0_secondsFor 0 = .ok (.lconst 1, 1) := by decide +kernel
theorem dX0_secondsFor_1 : decode cX0_secondsFor 1 = .ok (.aload_n 0, 1) := by decide +kernel
theorem dX0_secondsFor_2 : decode cX0_secondsFor 2 = .ok (.getfield 20, 3) := by decide +kernel
theorem dX0_secondsFor_5 : decode cX0_secondsFor 5 = .ok (.iload_n 1, 1) := by decide +kernel
theorem dX0_secondsFor_6 : decode cX0_secondsFor 6 = .ok (.laload, 1) := by decide +kernel
theorem dX0_secondsFor_7 : decode cX0_secondsFor 7 = .ok (.invokestatic 135, 3) := by decide +kernel
theorem dX0_secondsFor_10 : decode cX0_secondsFor 10 = .ok (.lstore 4, 2) := by decide +kernel
theorem dX0_secondsFor_12 : decode cX0_secondsFor 12 = .ok (.ldc2_w 141, 3) := by decide +kernel
theorem dX0_secondsFor_15 : decode cX0_secondsFor 15 = .ok (.lload_n 2, 1) := by decide +kernel
theorem dX0_secondsFor_16 : decode cX0_secondsFor 16 = .ok (.lmul, 1) := by decide +kernel
theorem dX0_secondsFor_17 : decode cX0_secondsFor 17 = .ok (.lload 4, 2) := by decide +kernel
theorem dX0_secondsFor_19 : decode cX0_secondsFor 19 = .ok (.ladd, 1) := by decide +kernel
theorem dX0_secondsFor_20 : decode cX0_secondsFor 20 = .ok (.lconst 1, 1) := by decide +kernel
theorem dX0_secondsFor_21 : decode cX0_secondsFor 21 = .ok (.lsub, 1) := by decide +kernel
theorem dX0_secondsFor_22 : decode cX0_secondsFor 22 = .ok (.lload 4, 2) := by decide +kernel
theorem dX0_secondsFor_24 : decode cX0_secondsFor 24 = .ok (.ldiv, 1) := by decide +kernel
theorem dX0_secondsFor_25 : decode cX0_secondsFor 25 = .ok (.lreturn, 1) := by decide +kernel
theorem dX0_secondsAcross_0 : decode cX0_secondsAcross 0 = .ok (.aload_n 0, 1) := by decide +kernel
theorem dX0_secondsAcross_1 : decode cX0_secondsAcross 1 = .ok (.getfield 35, 3) := by decide +kernel
theorem dX0_secondsAcross_4 : decode cX0_secondsAcross 4 = .ok (.iload_n 1, 1) := by decide +kernel
theorem dX0_secondsAcross_5 : decode cX0_secondsAcross 5 = .ok (.iaload, 1) := by decide +kernel
theorem dX0_secondsAcross_6 : decode cX0_secondsAcross 6 = .ok (.iconst 1, 1) := by decide +kernel
theorem dX0_secondsAcross_7 : decode cX0_secondsAcross 7 = .ok (.if_icmp .ne 9, 3) := by decide +kernel
theorem dX0_secondsAcross_10 : decode cX0_secondsAcross 10 = .ok (.ldc2_w 143, 3) := by decide +kernel
theorem dX0_secondsAcross_13 : decode cX0_secondsAcross 13 = .ok (.goto 4, 3) := by decide +kernel
theorem dX0_secondsAcross_16 : decode cX0_secondsAcross 16 = .ok (.lconst 0, 1) := by decide +kernel
theorem dX0_secondsAcross_17 : decode cX0_secondsAcross 17 = .ok (.lreturn, 1) := by decide +kernel
set_option maxRecDepth 20000 in
theorem ggX0_entryAtOrAfter_X0_hasGate : GoodIn wsX0_entryAtOrAfter wsX0_hasGate := goodIn_r _ [8, 3, 9, 10, 11, 12, 13, 14, 15, 16, 17, 18, 19, 20, 21, 22, 23, 24, 25, 26] (by decide +kernel) (by decide +kernel)
set_option maxRecDepth 20000 in
theorem gX0_entryAtOrAfter_X0_hasGate : GoodIn wsX0_entryAtOrAfter (wsV RX0 126 RX0 yX0_hasGate wsX0_hasGate) := goodIn_app (goodIn_of _ (by decide +kernel)) ggX0_entryAtOrAfter_X0_hasGate
theorem dX0_entryAtOrAfter_0 : decode cX0_entryAtOrAfter 0 = .ok (.aload_n 0, 1) := by decide +kernel
theorem dX0_entryAtOrAfter_1 : decode cX0_entryAtOrAfter 1 = .ok (.iload_n 1, 1) := by decide +kernel
theorem dX0_entryAtOrAfter_2 : decode cX0_entryAtOrAfter 2 = .ok (.invokevirtual 126, 3) := by decide +kernel
theorem dX0_entryAtOrAfter_5 : decode cX0_entryAtOrAfter 5 = .ok (.ifCond .ne 5, 3) := by decide +kernel
theorem dX0_entryAtOrAfter_8 : decode cX0_entryAtOrAfter 8 = .ok (.lload_n 2, 1) := by decide +kernel
theorem dX0_entryAtOrAfter_9 : decode cX0_entryAtOrAfter 9 = .ok (.lreturn, 1) := by decide +kernel
theorem dX0_entryAtOrAfter_10 : decode cX0_entryAtOrAfter 10 = .ok (.lload_n 2, 1) := by decide +kernel
theorem dX0_entryAtOrAfter_11 : decode cX0_entryAtOrAfter 11 = .ok (.ldc2_w 116, 3) := by decide +kernel
theorem dX0_entryAtOrAfter_14 : decode cX0_entryAtOrAfter 14 = .ok (.lrem, 1) := by decide +kernel
theorem dX0_entryAtOrAfter_15 : decode cX0_entryAtOrAfter 15 = .ok (.lstore 4, 2) := by decide +kernel
theorem dX0_entryAtOrAfter_17 : decode cX0_entryAtOrAfter 17 = .ok (.lload 4, 2) := by decide +kernel
theorem dX0_entryAtOrAfter_19 : decode cX0_entryAtOrAfter 19 = .ok (.aload_n 0, 1) := by decide +kernel
theorem dX0_entryAtOrAfter_20 : decode cX0_entryAtOrAfter 20 = .ok (.getfield 23, 3) := by decide +kernel
theorem dX0_entryAtOrAfter_23 : decode cX0_entryAtOrAfter 23 = .ok (.iload_n 1, 1) := by decide +kernel
theorem dX0_entryAtOrAfter_24 : decode cX0_entryAtOrAfter 24 = .ok (.laload, 1) := by decide +kernel
theorem dX0_entryAtOrAfter_25 : decode cX0_entryAtOrAfter 25 = .ok (.lcmp, 1) := by decide +kernel
theorem dX0_entryAtOrAfter_26 : decode cX0_entryAtOrAfter 26 = .ok (.ifCond .ge 15, 3) := by decide +kernel
theorem dX0_entryAtOrAfter_29 : decode cX0_entryAtOrAfter 29 = .ok (.lload_n 2, 1) := by decide +kernel
theorem dX0_entryAtOrAfter_30 : decode cX0_entryAtOrAfter 30 = .ok (.lload 4, 2) := by decide +kernel
theorem dX0_entryAtOrAfter_32 : decode cX0_entryAtOrAfter 32 = .ok (.lsub, 1) := by decide +kernel
theorem dX0_entryAtOrAfter_33 : decode cX0_entryAtOrAfter 33 = .ok (.aload_n 0, 1) := by decide +kernel
theorem dX0_entryAtOrAfter_34 : decode cX0_entryAtOrAfter 34 = .ok (.getfield 23, 3) := by decide +kernel
theorem dX0_entryAtOrAfter_37 : decode cX0_entryAtOrAfter 37 = .ok (.iload_n 1, 1) := by decide +kernel
theorem dX0_entryAtOrAfter_38 : decode cX0_entryAtOrAfter 38 = .ok (.laload, 1) := by decide +kernel
theorem dX0_entryAtOrAfter_39 : decode cX0_entryAtOrAfter 39 = .ok (.ladd, 1) := by decide +kernel
theorem dX0_entryAtOrAfter_40 : decode cX0_entryAtOrAfter 40 = .ok (.lreturn, 1) := by decide +kernel
theorem dX0_entryAtOrAfter_41 : decode cX0_entryAtOrAfter 41 = .ok (.lload 4, 2) := by decide +kernel
theorem dX0_entryAtOrAfter_43 : decode cX0_entryAtOrAfter 43 = .ok (.aload_n 0, 1) := by decide +kernel
theorem dX0_entryAtOrAfter_44 : decode cX0_entryAtOrAfter 44 = .ok (.getfield 26, 3) := by decide +kernel
theorem dX0_entryAtOrAfter_47 : decode cX0_entryAtOrAfter 47 = .ok (.iload_n 1, 1) := by decide +kernel
theorem dX0_entryAtOrAfter_48 : decode cX0_entryAtOrAfter 48 = .ok (.laload, 1) := by decide +kernel
theorem dX0_entryAtOrAfter_49 : decode cX0_entryAtOrAfter 49 = .ok (.lcmp, 1) := by decide +kernel
theorem dX0_entryAtOrAfter_50 : decode cX0_entryAtOrAfter 50 = .ok (.ifCond .ge 5, 3) := by decide +kernel
theorem dX0_entryAtOrAfter_53 : decode cX0_entryAtOrAfter 53 = .ok (.lload_n 2, 1) := by decide +kernel
theorem dX0_entryAtOrAfter_54 : decode cX0_entryAtOrAfter 54 = .ok (.lreturn, 1) := by decide +kernel
theorem dX0_entryAtOrAfter_55 : decode cX0_entryAtOrAfter 55 = .ok (.lload_n 2, 1) := by decide +kernel
theorem dX0_entryAtOrAfter_56 : decode cX0_entryAtOrAfter 56 = .ok (.lload 4, 2) := by decide +kernel
theorem dX0_entryAtOrAfter_58 : decode cX0_entryAtOrAfter 58 = .ok (.lsub, 1) := by decide +kernel
theorem dX0_entryAtOrAfter_59 : decode cX0_entryAtOrAfter 59 = .ok (.ldc2_w 116, 3) := by decide +kernel
theorem dX0_entryAtOrAfter_62 : decode cX0_entryAtOrAfter 62 = .ok (.ladd, 1) := by decide +kernel
theorem dX0_entryAtOrAfter_63 : decode cX0_entryAtOrAfter 63 = .ok (.aload_n 0, 1) := by decide +kernel
theorem dX0_entryAtOrAfter_64 : decode cX0_entryAtOrAfter 64 = .ok (.getfield 23, 3) := by decide +kernel
theorem dX0_entryAtOrAfter_67 : decode cX0_entryAtOrAfter 67 = .ok (.iload_n 1, 1) := by decide +kernel
theorem dX0_entryAtOrAfter_68 : decode cX0_entryAtOrAfter 68 = .ok (.laload, 1) := by decide +kernel
theorem dX0_entryAtOrAfter_69 : decode cX0_entryAtOrAfter 69 = .ok (.ladd, 1) := by decide +kernel
theorem dX0_entryAtOrAfter_70 : decode cX0_entryAtOrAfter 70 = .ok (.lreturn, 1) := by decide +kernel
theorem dX0_isStraightOn_0 : decode cX0_isStraightOn 0 = .ok (.aload_n 0, 1) := by decide +kernel
theorem dX0_isStraightOn_1 : decode cX0_isStraightOn 1 = .ok (.getfield 32, 3) := by decide +kernel
theorem dX0_isStraightOn_4 : decode cX0_isStraightOn 4 = .ok (.iload_n 1, 1) := by decide +kernel
theorem dX0_isStraightOn_5 : decode cX0_isStraightOn 5 = .ok (.iaload, 1) := by decide +kernel
theorem dX0_isStraightOn_6 : decode cX0_isStraightOn 6 = .ok (.aload_n 0, 1) := by decide +kernel
theorem dX0_isStraightOn_7 : decode cX0_isStraightOn 7 = .ok (.getfield 32, 3) := by decide +kernel
theorem dX0_isStraightOn_10 : decode cX0_isStraightOn 10 = .ok (.iload_n 2, 1) := by decide +kernel
theorem dX0_isStraightOn_11 : decode cX0_isStraightOn 11 = .ok (.iaload, 1) := by decide +kernel
theorem dX0_isStraightOn_12 : decode cX0_isStraightOn 12 = .ok (.if_icmp .ne 23, 3) := by decide +kernel
theorem dX0_isStraightOn_15 : decode cX0_isStraightOn 15 = .ok (.aload_n 0, 1) := by decide +kernel
theorem dX0_isStraightOn_16 : decode cX0_isStraightOn 16 = .ok (.getfield 38, 3) := by decide +kernel
theorem dX0_isStraightOn_19 : decode cX0_isStraightOn 19 = .ok (.iload_n 1, 1) := by decide +kernel
theorem dX0_isStraightOn_20 : decode cX0_isStraightOn 20 = .ok (.laload, 1) := by decide +kernel
theorem dX0_isStraightOn_21 : decode cX0_isStraightOn 21 = .ok (.aload_n 0, 1) := by decide +kernel
theorem dX0_isStraightOn_22 : decode cX0_isStraightOn 22 = .ok (.getfield 38, 3) := by decide +kernel
theorem dX0_isStraightOn_25 : decode cX0_isStraightOn 25 = .ok (.iload_n 2, 1) := by decide +kernel
theorem dX0_isStraightOn_26 : decode cX0_isStraightOn 26 = .ok (.laload, 1) := by decide +kernel
theorem dX0_isStraightOn_27 : decode cX0_isStraightOn 27 = .ok (.lcmp, 1) := by decide +kernel
theorem dX0_isStraightOn_28 : decode cX0_isStraightOn 28 = .ok (.ifCond .gt 7, 3) := by decide +kernel
theorem dX0_isStraightOn_31 : decode cX0_isStraightOn 31 = .ok (.iconst 1, 1) := by decide +kernel
theorem dX0_isStraightOn_32 : decode cX0_isStraightOn 32 = .ok (.goto 4, 3) := by decide +kernel
theorem dX0_isStraightOn_35 : decode cX0_isStraightOn 35 = .ok (.iconst 0, 1) := by decide +kernel
theorem dX0_isStraightOn_36 : decode cX0_isStraightOn 36 = .ok (.ireturn, 1) := by decide +kernel
set_option maxRecDepth 20000 in
theorem ggX0_leastArrival_X0_secondsAcross : GoodIn wsX0_leastArrival wsX0_secondsAcross := goodIn_r _ [11, 12, 13, 78, 79, 80, 81, 82, 83, 84, 85, 86, 87, 88, 89, 90, 91, 92, 93, 94, 95] (by decide +kernel) (by decide +kernel)
set_option maxRecDepth 20000 in
theorem gX0_leastArrival_X0_secondsAcross : GoodIn wsX0_leastArrival (wsV RX0 145 RX0 yX0_secondsAcross wsX0_secondsAcross) := goodIn_app (goodIn_of _ (by decide +kernel)) ggX0_leastArrival_X0_secondsAcross
set_option maxRecDepth 20000 in
theorem ggX0_leastArrival_X0_isStraightOn : GoodIn wsX0_leastArrival wsX0_isStraightOn := goodIn_r _ [17, 1, 2, 78, 79, 80, 81, 82, 83, 84, 85, 86, 87, 88, 89, 90, 91, 92, 93, 94, 95] (by decide +kernel) (by decide +kernel)
set_option maxRecDepth 20000 in
theorem gX0_leastArrival_X0_isStraightOn : GoodIn wsX0_leastArrival (wsV RX0 148 RX0 yX0_isStraightOn wsX0_isStraightOn) := goodIn_app (goodIn_of _ (by decide +kernel)) ggX0_leastArrival_X0_isStraightOn
set_option maxRecDepth 20000 in
theorem ggX0_leastArrival_X0_secondsFor : GoodIn wsX0_leastArrival wsX0_secondsFor := goodIn_r _ [21, 22, 23, 24, 25, 26, 27, 78, 79, 80, 81, 82, 83, 84, 85, 86, 87, 88, 89, 90, 91, 92, 93, 94, 95] (by decide +kernel) (by decide +kernel)
set_option maxRecDepth 20000 in
theorem gX0_leastArrival_X0_secondsFor : GoodIn wsX0_leastArrival (wsV RX0 151 RX0 yX0_secondsFor wsX0_secondsFor) := goodIn_app (goodIn_of _ (by decide +kernel)) ggX0_leastArrival_X0_secondsFor
set_option maxRecDepth 20000 in
theorem ggX0_leastArrival_X0_findLeastTimes : GoodIn wsX0_leastArrival wsX0_findLeastTimes := goodIn_r _ [31, 32, 33, 4, 34, 35, 36, 37, 10, 38, 5, 39, 40, 41, 42, 43, 44, 45, 46, 3, 47, 48, 25, 49, 50, 51, 52, 53, 54, 55, 56, 57, 58, 59, 60, 61, 62, 63, 64, 65, 66, 67, 68, 69, 70, 71, 72, 73, 74, 75, 76, 77, 18, 19, 20, 21, 22, 23, 24, 26, 27, 78, 79, 80, 81, 82, 83, 84, 85, 86, 87, 88, 89, 90, 91, 92, 93, 94, 95] (by decide +kernel) (by decide +kernel)
set_option maxRecDepth 20000 in
theorem gX0_leastArrival_X0_findLeastTimes : GoodIn wsX0_leastArrival (wsV RX0 155 RX0 yX0_findLeastTimes wsX0_findLeastTimes) := goodIn_app (goodIn_of _ (by decide +kernel)) ggX0_leastArrival_X0_findLeastTimes
theorem dX0_leastArrival_0 : decode cX0_leastArrival 0 = .ok (.lload_n 3, 1) := by decide +kernel
theorem dX0_leastArrival_1 : decode cX0_leastArrival 1 = .ok (.aload_n 0, 1) := by decide +kernel
theorem dX0_leastArrival_2 : decode cX0_leastArrival 2 = .ok (.iload_n 1, 1) := by decide +kernel
theorem dX0_leastArrival_3 : decode cX0_leastArrival 3 = .ok (.invokevirtual 145, 3) := by decide +kernel
theorem dX0_leastArrival_6 : decode cX0_leastArrival 6 = .ok (.ladd, 1) := by decide +kernel
theorem dX0_leastArrival_7 : decode cX0_leastArrival 7 = .ok (.lstore 5, 2) := by decide +kernel
theorem dX0_leastArrival_9 : decode cX0_leastArrival 9 = .ok (.aload_n 0, 1) := by decide +kernel
theorem dX0_leastArrival_10 : decode cX0_leastArrival 10 = .ok (.getfield 32, 3) := by decide +kernel
theorem dX0_leastArrival_13 : decode cX0_leastArrival 13 = .ok (.iload_n 1, 1) := by decide +kernel
theorem dX0_leastArrival_14 : decode cX0_leastArrival 14 = .ok (.iaload, 1) := by decide +kernel
theorem dX0_leastArrival_15 : decode cX0_leastArrival 15 = .ok (.istore 7, 2) := by decide +kernel
theorem dX0_leastArrival_17 : decode cX0_leastArrival 17 = .ok (.aload_n 0, 1) := by decide +kernel
theorem dX0_leastArrival_18 : decode cX0_leastArrival 18 = .ok (.getfield 32, 3) := by decide +kernel
theorem dX0_leastArrival_21 : decode cX0_leastArrival 21 = .ok (.iload_n 2, 1) := by decide +kernel
theorem dX0_leastArrival_22 : decode cX0_leastArrival 22 = .ok (.iaload, 1) := by decide +kernel
theorem dX0_leastArrival_23 : decode cX0_leastArrival 23 = .ok (.istore 8, 2) := by decide +kernel
theorem dX0_leastArrival_25 : decode cX0_leastArrival 25 = .ok (.aload_n 0, 1) := by decide +kernel
theorem dX0_leastArrival_26 : decode cX0_leastArrival 26 = .ok (.iload_n 1, 1) := by decide +kernel
theorem dX0_leastArrival_27 : decode cX0_leastArrival 27 = .ok (.iload_n 2, 1) := by decide +kernel
theorem dX0_leastArrival_28 : decode cX0_leastArrival 28 = .ok (.invokevirtual 148, 3) := by decide +kernel
theorem dX0_leastArrival_31 : decode cX0_leastArrival 31 = .ok (.ifCond .eq 36, 3) := by decide +kernel
theorem dX0_leastArrival_34 : decode cX0_leastArrival 34 = .ok (.aload_n 0, 1) := by decide +kernel
theorem dX0_leastArrival_35 : decode cX0_leastArrival 35 = .ok (.getfield 38, 3) := by decide +kernel
theorem dX0_leastArrival_38 : decode cX0_leastArrival 38 = .ok (.iload_n 2, 1) := by decide +kernel
theorem dX0_leastArrival_39 : decode cX0_leastArrival 39 = .ok (.laload, 1) := by decide +kernel
theorem dX0_leastArrival_40 : decode cX0_leastArrival 40 = .ok (.aload_n 0, 1) := by decide +kernel
theorem dX0_leastArrival_41 : decode cX0_leastArrival 41 = .ok (.getfield 38, 3) := by decide +kernel
theorem dX0_leastArrival_44 : decode cX0_leastArrival 44 = .ok (.iload_n 1, 1) := by decide +kernel
theorem dX0_leastArrival_45 : decode cX0_leastArrival 45 = .ok (.laload, 1) := by decide +kernel
theorem dX0_leastArrival_46 : decode cX0_leastArrival 46 = .ok (.lsub, 1) := by decide +kernel
theorem dX0_leastArrival_47 : decode cX0_leastArrival 47 = .ok (.lstore 9, 2) := by decide +kernel
theorem dX0_leastArrival_49 : decode cX0_leastArrival 49 = .ok (.lload 5, 2) := by decide +kernel
theorem dX0_leastArrival_51 : decode cX0_leastArrival 51 = .ok (.aload_n 0, 1) := by decide +kernel
theorem dX0_leastArrival_52 : decode cX0_leastArrival 52 = .ok (.iload 7, 2) := by decide +kernel
theorem dX0_leastArrival_54 : decode cX0_leastArrival 54 = .ok (.lload 9, 2) := by decide +kernel
theorem dX0_leastArrival_56 : decode cX0_leastArrival 56 = .ok (.invokevirtual 151, 3) := by decide +kernel
theorem dX0_leastArrival_59 : decode cX0_leastArrival 59 = .ok (.ladd, 1) := by decide +kernel
theorem dX0_leastArrival_60 : decode cX0_leastArrival 60 = .ok (.aload_n 0, 1) := by decide +kernel
theorem dX0_leastArrival_61 : decode cX0_leastArrival 61 = .ok (.iload_n 2, 1) := by decide +kernel
theorem dX0_leastArrival_62 : decode cX0_leastArrival 62 = .ok (.invokevirtual 145, 3) := by decide +kernel
theorem dX0_leastArrival_65 : decode cX0_leastArrival 65 = .ok (.ladd, 1) := by decide +kernel
theorem dX0_leastArrival_66 : decode cX0_leastArrival 66 = .ok (.lreturn, 1) := by decide +kernel
theorem dX0_leastArrival_67 : decode cX0_leastArrival 67 = .ok (.aload_n 0, 1) := by decide +kernel
theorem dX0_leastArrival_68 : decode cX0_leastArrival 68 = .ok (.getfield 16, 3) := by decide +kernel
theorem dX0_leastArrival_71 : decode cX0_leastArrival 71 = .ok (.iload 7, 2) := by decide +kernel
theorem dX0_leastArrival_73 : decode cX0_leastArrival 73 = .ok (.laload, 1) := by decide +kernel
theorem dX0_leastArrival_74 : decode cX0_leastArrival 74 = .ok (.aload_n 0, 1) := by decide +kernel
theorem dX0_leastArrival_75 : decode cX0_leastArrival 75 = .ok (.getfield 38, 3) := by decide +kernel
theorem dX0_leastArrival_78 : decode cX0_leastArrival 78 = .ok (.iload_n 1, 1) := by decide +kernel
theorem dX0_leastArrival_79 : decode cX0_leastArrival 79 = .ok (.laload, 1) := by decide +kernel
theorem dX0_leastArrival_80 : decode cX0_leastArrival 80 = .ok (.lsub, 1) := by decide +kernel
theorem dX0_leastArrival_81 : decode cX0_leastArrival 81 = .ok (.lstore 9, 2) := by decide +kernel
theorem dX0_leastArrival_83 : decode cX0_leastArrival 83 = .ok (.aload_n 0, 1) := by decide +kernel
theorem dX0_leastArrival_84 : decode cX0_leastArrival 84 = .ok (.iload 7, 2) := by decide +kernel
theorem dX0_leastArrival_86 : decode cX0_leastArrival 86 = .ok (.lload 5, 2) := by decide +kernel
theorem dX0_leastArrival_88 : decode cX0_leastArrival 88 = .ok (.aload_n 0, 1) := by decide +kernel
theorem dX0_leastArrival_89 : decode cX0_leastArrival 89 = .ok (.iload 7, 2) := by decide +kernel
theorem dX0_leastArrival_91 : decode cX0_leastArrival 91 = .ok (.lload 9, 2) := by decide +kernel
theorem dX0_leastArrival_93 : decode cX0_leastArrival 93 = .ok (.invokevirtual 151, 3) := by decide +kernel
theorem dX0_leastArrival_96 : decode cX0_leastArrival 96 = .ok (.ladd, 1) := by decide +kernel
theorem dX0_leastArrival_97 : decode cX0_leastArrival 97 = .ok (.iload 8, 2) := by decide +kernel
theorem dX0_leastArrival_99 : decode cX0_leastArrival 99 = .ok (.invokevirtual 155, 3) := by decide +kernel
theorem dX0_leastArrival_102 : decode cX0_leastArrival 102 = .ok (.aload_n 0, 1) := by decide +kernel
theorem dX0_leastArrival_103 : decode cX0_leastArrival 103 = .ok (.getfield 41, 3) := by decide +kernel
theorem dX0_leastArrival_106 : decode cX0_leastArrival 106 = .ok (.iload 8, 2) := by decide +kernel
theorem dX0_leastArrival_108 : decode cX0_leastArrival 108 = .ok (.laload, 1) := by decide +kernel
theorem dX0_leastArrival_109 : decode cX0_leastArrival 109 = .ok (.ldc2_w 159, 3) := by decide +kernel
theorem dX0_leastArrival_112 : decode cX0_leastArrival 112 = .ok (.lcmp, 1) := by decide +kernel
theorem dX0_leastArrival_113 : decode cX0_leastArrival 113 = .ok (.ifCond .ne 7, 3) := by decide +kernel
theorem dX0_leastArrival_116 : decode cX0_leastArrival 116 = .ok (.ldc2_w 110, 3) := by decide +kernel
theorem dX0_leastArrival_119 : decode cX0_leastArrival 119 = .ok (.lreturn, 1) := by decide +kernel
theorem dX0_leastArrival_120 : decode cX0_leastArrival 120 = .ok (.aload_n 0, 1) := by decide +kernel
theorem dX0_leastArrival_121 : decode cX0_leastArrival 121 = .ok (.getfield 41, 3) := by decide +kernel
theorem dX0_leastArrival_124 : decode cX0_leastArrival 124 = .ok (.iload 8, 2) := by decide +kernel
theorem dX0_leastArrival_126 : decode cX0_leastArrival 126 = .ok (.laload, 1) := by decide +kernel
theorem dX0_leastArrival_127 : decode cX0_leastArrival 127 = .ok (.aload_n 0, 1) := by decide +kernel
theorem dX0_leastArrival_128 : decode cX0_leastArrival 128 = .ok (.iload 8, 2) := by decide +kernel
theorem dX0_leastArrival_130 : decode cX0_leastArrival 130 = .ok (.aload_n 0, 1) := by decide +kernel
theorem dX0_leastArrival_131 : decode cX0_leastArrival 131 = .ok (.getfield 38, 3) := by decide +kernel
theorem dX0_leastArrival_134 : decode cX0_leastArrival 134 = .ok (.iload_n 2, 1) := by decide +kernel
theorem dX0_leastArrival_135 : decode cX0_leastArrival 135 = .ok (.laload, 1) := by decide +kernel
theorem dX0_leastArrival_136 : decode cX0_leastArrival 136 = .ok (.invokevirtual 151, 3) := by decide +kernel
theorem dX0_leastArrival_139 : decode cX0_leastArrival 139 = .ok (.ladd, 1) := by decide +kernel
theorem dX0_leastArrival_140 : decode cX0_leastArrival 140 = .ok (.aload_n 0, 1) := by decide +kernel
theorem dX0_leastArrival_141 : decode cX0_leastArrival 141 = .ok (.iload_n 2, 1) := by decide +kernel
theorem dX0_leastArrival_142 : decode cX0_leastArrival 142 = .ok (.invokevirtual 145, 3) := by decide +kernel
theorem dX0_leastArrival_145 : decode cX0_leastArrival 145 = .ok (.ladd, 1) := by decide +kernel
theorem dX0_leastArrival_146 : decode cX0_leastArrival 146 = .ok (.lreturn, 1) := by decide +kernel
set_option maxRecDepth 20000 in
theorem ggX0_findLeastTimes_X0_forgetLeastTimes : GoodIn wsX0_findLeastTimes wsX0_forgetLeastTimes := goodIn_r _ [9, 2, 3, 10, 1, 4, 61, 62, 63, 64, 65, 66, 67, 68, 69, 70, 71, 72, 73, 74, 75, 76, 77, 78] (by decide +kernel) (by decide +kernel)
set_option maxRecDepth 20000 in
theorem gX0_findLeastTimes_X0_forgetLeastTimes : GoodIn wsX0_findLeastTimes (wsV RX0 161 RX0 yX0_forgetLeastTimes wsX0_forgetLeastTimes) := goodIn_app (goodIn_of _ (by decide +kernel)) ggX0_findLeastTimes_X0_forgetLeastTimes
set_option maxRecDepth 20000 in
theorem ggX0_findLeastTimes_X0_earliestUnsettled : GoodIn wsX0_findLeastTimes wsX0_earliestUnsettled := goodIn_r _ [14, 10, 2, 4, 1, 61, 62, 63, 64, 65, 66, 67, 68, 69, 70, 71, 72, 73, 74, 75, 76, 77, 78] (by decide +kernel) (by decide +kernel)
set_option maxRecDepth 20000 in
theorem gX0_findLeastTimes_X0_earliestUnsettled : GoodIn wsX0_findLeastTimes (wsV RX0 164 RX0 yX0_earliestUnsettled wsX0_earliestUnsettled) := goodIn_app (goodIn_of _ (by decide +kernel)) ggX0_findLeastTimes_X0_earliestUnsettled
set_option maxRecDepth 20000 in
theorem ggX0_findLeastTimes_X0_goOnFrom : GoodIn wsX0_findLeastTimes wsX0_goOnFrom := goodIn_r _ [18, 2, 1, 3, 19, 20, 21, 22, 23, 24, 25, 26, 8, 27, 28, 29, 30, 31, 32, 33, 34, 35, 36, 37, 38, 39, 40, 41, 42, 43, 44, 45, 46, 47, 48, 49, 50, 51, 52, 53, 54, 55, 56, 57, 58, 59, 60, 61, 62, 63, 64, 65, 66, 67, 68, 69, 70, 71, 72, 73, 74, 75, 76, 77, 78] (by decide +kernel) (by decide +kernel)
set_option maxRecDepth 20000 in
theorem gX0_findLeastTimes_X0_goOnFrom : GoodIn wsX0_findLeastTimes (wsV RX0 168 RX0 yX0_goOnFrom wsX0_goOnFrom) := goodIn_app (goodIn_of _ (by decide +kernel)) ggX0_findLeastTimes_X0_goOnFrom
theorem dX0_findLeastTimes_0 : decode cX0_findLeastTimes 0 = .ok (.aload_n 0, 1) := by decide +kernel
theorem dX0_findLeastTimes_1 : decode cX0_findLeastTimes 1 = .ok (.invokevirtual 161, 3) := by decide +kernel
theorem dX0_findLeastTimes_4 : decode cX0_findLeastTimes 4 = .ok (.aload_n 0, 1) := by decide +kernel
theorem dX0_findLeastTimes_5 : decode cX0_findLeastTimes 5 = .ok (.getfield 44, 3) := by decide +kernel
theorem dX0_findLeastTimes_8 : decode cX0_findLeastTimes 8 = .ok (.iload_n 1, 1) := by decide +kernel
theorem dX0_findLeastTimes_9 : decode cX0_findLeastTimes 9 = .ok (.lload_n 2, 1) := by decide +kernel
theorem dX0_findLeastTimes_10 : decode cX0_findLeastTimes 10 = .ok (.lastore, 1) := by decide +kernel
theorem dX0_findLeastTimes_11 : decode cX0_findLeastTimes 11 = .ok (.iconst 0, 1) := by decide +kernel
theorem dX0_findLeastTimes_12 : decode cX0_findLeastTimes 12 = .ok (.istore 5, 2) := by decide +kernel
theorem dX0_findLeastTimes_14 : decode cX0_findLeastTimes 14 = .ok (.iload 5, 2) := by decide +kernel
theorem dX0_findLeastTimes_16 : decode cX0_findLeastTimes 16 = .ok (.aload_n 0, 1) := by decide +kernel
theorem dX0_findLeastTimes_17 : decode cX0_findLeastTimes 17 = .ok (.getfield 62, 3) := by decide +kernel
theorem dX0_findLeastTimes_20 : decode cX0_findLeastTimes 20 = .ok (.if_icmp .ge 54, 3) := by decide +kernel
theorem dX0_findLeastTimes_23 : decode cX0_findLeastTimes 23 = .ok (.aload_n 0, 1) := by decide +kernel
theorem dX0_findLeastTimes_24 : decode cX0_findLeastTimes 24 = .ok (.invokevirtual 164, 3) := by decide +kernel
theorem dX0_findLeastTimes_27 : decode cX0_findLeastTimes 27 = .ok (.istore 6, 2) := by decide +kernel
theorem dX0_findLeastTimes_29 : decode cX0_findLeastTimes 29 = .ok (.iload 6, 2) := by decide +kernel
theorem dX0_findLeastTimes_31 : decode cX0_findLeastTimes 31 = .ok (.iconst (-1), 1) := by decide +kernel
theorem dX0_findLeastTimes_32 : decode cX0_findLeastTimes 32 = .ok (.if_icmp .eq 21, 3) := by decide +kernel
theorem dX0_findLeastTimes_35 : decode cX0_findLeastTimes 35 = .ok (.aload_n 0, 1) := by decide +kernel
theorem dX0_findLeastTimes_36 : decode cX0_findLeastTimes 36 = .ok (.getfield 44, 3) := by decide +kernel
theorem dX0_findLeastTimes_39 : decode cX0_findLeastTimes 39 = .ok (.iload 6, 2) := by decide +kernel
theorem dX0_findLeastTimes_41 : decode cX0_findLeastTimes 41 = .ok (.laload, 1) := by decide +kernel
theorem dX0_findLeastTimes_42 : decode cX0_findLeastTimes 42 = .ok (.aload_n 0, 1) := by decide +kernel
theorem dX0_findLeastTimes_43 : decode cX0_findLeastTimes 43 = .ok (.getfield 41, 3) := by decide +kernel
theorem dX0_findLeastTimes_46 : decode cX0_findLeastTimes 46 = .ok (.iload 4, 2) := by decide +kernel
theorem dX0_findLeastTimes_48 : decode cX0_findLeastTimes 48 = .ok (.laload, 1) := by decide +kernel
theorem dX0_findLeastTimes_49 : decode cX0_findLeastTimes 49 = .ok (.lcmp, 1) := by decide +kernel
theorem dX0_findLeastTimes_50 : decode cX0_findLeastTimes 50 = .ok (.ifCond .le 4, 3) := by decide +kernel
theorem dX0_findLeastTimes_53 : decode cX0_findLeastTimes 53 = .ok (.return_, 1) := by decide +kernel
theorem dX0_findLeastTimes_54 : decode cX0_findLeastTimes 54 = .ok (.aload_n 0, 1) := by decide +kernel
theorem dX0_findLeastTimes_55 : decode cX0_findLeastTimes 55 = .ok (.getfield 47, 3) := by decide +kernel
theorem dX0_findLeastTimes_58 : decode cX0_findLeastTimes 58 = .ok (.iload 6, 2) := by decide +kernel
theorem dX0_findLeastTimes_60 : decode cX0_findLeastTimes 60 = .ok (.iconst 1, 1) := by decide +kernel
theorem dX0_findLeastTimes_61 : decode cX0_findLeastTimes 61 = .ok (.bastore, 1) := by decide +kernel
theorem dX0_findLeastTimes_62 : decode cX0_findLeastTimes 62 = .ok (.aload_n 0, 1) := by decide +kernel
theorem dX0_findLeastTimes_63 : decode cX0_findLeastTimes 63 = .ok (.iload 6, 2) := by decide +kernel
theorem dX0_findLeastTimes_65 : decode cX0_findLeastTimes 65 = .ok (.invokevirtual 168, 3) := by decide +kernel
theorem dX0_findLeastTimes_68 : decode cX0_findLeastTimes 68 = .ok (.iinc 5 1, 3) := by decide +kernel
theorem dX0_findLeastTimes_71 : decode cX0_findLeastTimes 71 = .ok (.goto (-57), 3) := by decide +kernel
theorem dX0_findLeastTimes_74 : decode cX0_findLeastTimes 74 = .ok (.return_, 1) := by decide +kernel
theorem dX0_forgetLeastTimes_0 : decode cX0_forgetLeastTimes 0 = .ok (.iconst 0, 1) := by decide +kernel
theorem dX0_forgetLeastTimes_1 : decode cX0_forgetLeastTimes 1 = .ok (.istore_n 1, 1) := by decide +kernel
theorem dX0_forgetLeastTimes_2 : decode cX0_forgetLeastTimes 2 = .ok (.iload_n 1, 1) := by decide +kernel
theorem dX0_forgetLeastTimes_3 : decode cX0_forgetLeastTimes 3 = .ok (.aload_n 0, 1) := by decide +kernel
theorem dX0_forgetLeastTimes_4 : decode cX0_forgetLeastTimes 4 = .ok (.getfield 62, 3) := by decide +kernel
theorem dX0_forgetLeastTimes_7 : decode cX0_forgetLeastTimes 7 = .ok (.if_icmp .ge 34, 3) := by decide +kernel
theorem dX0_forgetLeastTimes_10 : decode cX0_forgetLeastTimes 10 = .ok (.aload_n 0, 1) := by decide +kernel
theorem dX0_forgetLeastTimes_11 : decode cX0_forgetLeastTimes 11 = .ok (.getfield 41, 3) := by decide +kernel
theorem dX0_forgetLeastTimes_14 : decode cX0_forgetLeastTimes 14 = .ok (.iload_n 1, 1) := by decide +kernel
theorem dX0_forgetLeastTimes_15 : decode cX0_forgetLeastTimes 15 = .ok (.ldc2_w 159, 3) := by decide +kernel
theorem dX0_forgetLeastTimes_18 : decode cX0_forgetLeastTimes 18 = .ok (.lastore, 1) := by decide +kernel
theorem dX0_forgetLeastTimes_19 : decode cX0_forgetLeastTimes 19 = .ok (.aload_n 0, 1) := by decide +kernel
theorem dX0_forgetLeastTimes_20 : decode cX0_forgetLeastTimes 20 = .ok (.getfield 44, 3) := by decide +kernel
theorem dX0_forgetLeastTimes_23 : decode cX0_forgetLeastTimes 23 = .ok (.iload_n 1, 1) := by decide +kernel
theorem dX0_forgetLeastTimes_24 : decode cX0_forgetLeastTimes 24 = .ok (.ldc2_w 159, 3) := by decide +kernel
theorem dX0_forgetLeastTimes_27 : decode cX0_forgetLeastTimes 27 = .ok (.lastore, 1) := by decide +kernel
theorem dX0_forgetLeastTimes_28 : decode cX0_forgetLeastTimes 28 = .ok (.aload_n 0, 1) := by decide +kernel
theorem dX0_forgetLeastTimes_29 : decode cX0_forgetLeastTimes 29 = .ok (.getfield 47, 3) := by decide +kernel
theorem dX0_forgetLeastTimes_32 : decode cX0_forgetLeastTimes 32 = .ok (.iload_n 1, 1) := by decide +kernel
theorem dX0_forgetLeastTimes_33 : decode cX0_forgetLeastTimes 33 = .ok (.iconst 0, 1) := by decide +kernel
theorem dX0_forgetLeastTimes_34 : decode cX0_forgetLeastTimes 34 = .ok (.bastore, 1) := by decide +kernel
theorem dX0_forgetLeastTimes_35 : decode cX0_forgetLeastTimes 35 = .ok (.iinc 1 1, 3) := by decide +kernel
theorem dX0_forgetLeastTimes_38 : decode cX0_forgetLeastTimes 38 = .ok (.goto (-36), 3) := by decide +kernel
theorem dX0_forgetLeastTimes_41 : decode cX0_forgetLeastTimes 41 = .ok (.return_, 1) := by decide +kernel
theorem dX0_earliestUnsettled_0 : decode cX0_earliestUnsettled 0 = .ok (.iconst (-1), 1) := by decide +kernel
theorem dX0_earliestUnsettled_1 : decode cX0_earliestUnsettled 1 = .ok (.istore_n 1, 1) := by decide +kernel
theorem dX0_earliestUnsettled_2 : decode cX0_earliestUnsettled 2 = .ok (.ldc2_w 159, 3) := by decide +kernel
theorem dX0_earliestUnsettled_5 : decode cX0_earliestUnsettled 5 = .ok (.lstore_n 2, 1) := by decide +kernel
theorem dX0_earliestUnsettled_6 : decode cX0_earliestUnsettled 6 = .ok (.iconst 0, 1) := by decide +kernel
theorem dX0_earliestUnsettled_7 : decode cX0_earliestUnsettled 7 = .ok (.istore 4, 2) := by decide +kernel
theorem dX0_earliestUnsettled_9 : decode cX0_earliestUnsettled 9 = .ok (.iload 4, 2) := by decide +kernel
theorem dX0_earliestUnsettled_11 : decode cX0_earliestUnsettled 11 = .ok (.aload_n 0, 1) := by decide +kernel
theorem dX0_earliestUnsettled_12 : decode cX0_earliestUnsettled 12 = .ok (.getfield 62, 3) := by decide +kernel
theorem dX0_earliestUnsettled_15 : decode cX0_earliestUnsettled 15 = .ok (.if_icmp .ge 42, 3) := by decide +kernel
theorem dX0_earliestUnsettled_18 : decode cX0_earliestUnsettled 18 = .ok (.aload_n 0, 1) := by decide +kernel
theorem dX0_earliestUnsettled_19 : decode cX0_earliestUnsettled 19 = .ok (.getfield 47, 3) := by decide +kernel
theorem dX0_earliestUnsettled_22 : decode cX0_earliestUnsettled 22 = .ok (.iload 4, 2) := by decide +kernel
theorem dX0_earliestUnsettled_24 : decode cX0_earliestUnsettled 24 = .ok (.baload, 1) := by decide +kernel
theorem dX0_earliestUnsettled_25 : decode cX0_earliestUnsettled 25 = .ok (.ifCond .ne 26, 3) := by decide +kernel
theorem dX0_earliestUnsettled_28 : decode cX0_earliestUnsettled 28 = .ok (.aload_n 0, 1) := by decide +kernel
theorem dX0_earliestUnsettled_29 : decode cX0_earliestUnsettled 29 = .ok (.getfield 44, 3) := by decide +kernel
theorem dX0_earliestUnsettled_32 : decode cX0_earliestUnsettled 32 = .ok (.iload 4, 2) := by decide +kernel
theorem dX0_earliestUnsettled_34 : decode cX0_earliestUnsettled 34 = .ok (.laload, 1) := by decide +kernel
theorem dX0_earliestUnsettled_35 : decode cX0_earliestUnsettled 35 = .ok (.lload_n 2, 1) := by decide +kernel
theorem dX0_earliestUnsettled_36 : decode cX0_earliestUnsettled 36 = .ok (.lcmp, 1) := by decide +kernel
theorem dX0_earliestUnsettled_37 : decode cX0_earliestUnsettled 37 = .ok (.ifCond .ge 14, 3) := by decide +kernel
theorem dX0_earliestUnsettled_40 : decode cX0_earliestUnsettled 40 = .ok (.iload 4, 2) := by decide +kernel
theorem dX0_earliestUnsettled_42 : decode cX0_earliestUnsettled 42 = .ok (.istore_n 1, 1) := by decide +kernel
theorem dX0_earliestUnsettled_43 : decode cX0_earliestUnsettled 43 = .ok (.aload_n 0, 1) := by decide +kernel
theorem dX0_earliestUnsettled_44 : decode cX0_earliestUnsettled 44 = .ok (.getfield 44, 3) := by decide +kernel
theorem dX0_earliestUnsettled_47 : decode cX0_earliestUnsettled 47 = .ok (.iload 4, 2) := by decide +kernel
theorem dX0_earliestUnsettled_49 : decode cX0_earliestUnsettled 49 = .ok (.laload, 1) := by decide +kernel
theorem dX0_earliestUnsettled_50 : decode cX0_earliestUnsettled 50 = .ok (.lstore_n 2, 1) := by decide +kernel
theorem dX0_earliestUnsettled_51 : decode cX0_earliestUnsettled 51 = .ok (.iinc 4 1, 3) := by decide +kernel
theorem dX0_earliestUnsettled_54 : decode cX0_earliestUnsettled 54 = .ok (.goto (-45), 3) := by decide +kernel
theorem dX0_earliestUnsettled_57 : decode cX0_earliestUnsettled 57 = .ok (.iload_n 1, 1) := by decide +kernel
theorem dX0_earliestUnsettled_58 : decode cX0_earliestUnsettled 58 = .ok (.ireturn, 1) := by decide +kernel
set_option maxRecDepth 20000 in
theorem ggX0_goOnFrom_X0_mayGoOn : GoodIn wsX0_goOnFrom wsX0_mayGoOn := goodIn_r _ [13, 14, 15, 16, 17, 18, 12, 19, 20, 21, 22, 23, 24, 25, 26, 47, 48, 49, 50, 51, 52, 53, 54, 55, 56, 57, 58, 59, 60, 61, 62, 63, 64] (by decide +kernel) (by decide +kernel)
set_option maxRecDepth 20000 in
theorem gX0_goOnFrom_X0_mayGoOn : GoodIn wsX0_goOnFrom (wsV RX0 132 RX0 yX0_mayGoOn wsX0_mayGoOn) := goodIn_app (goodIn_of _ (by decide +kernel)) ggX0_goOnFrom_X0_mayGoOn
set_option maxRecDepth 20000 in
theorem ggX0_goOnFrom_X0_entryAtOrAfter : GoodIn wsX0_goOnFrom wsX0_entryAtOrAfter := goodIn_r _ [30, 31, 32, 33, 34, 35, 36, 12, 37, 47, 48, 49, 50, 51, 52, 53, 54, 55, 56, 57, 58, 59, 60, 61, 62, 63, 64] (by decide +kernel) (by decide +kernel)
set_option maxRecDepth 20000 in
theorem gX0_goOnFrom_X0_entryAtOrAfter : GoodIn wsX0_goOnFrom (wsV RX0 172 RX0 yX0_entryAtOrAfter wsX0_entryAtOrAfter) := goodIn_app (goodIn_of _ (by decide +kernel)) ggX0_goOnFrom_X0_entryAtOrAfter
set_option maxRecDepth 20000 in
theorem ggX0_goOnFrom_X0_secondsFor : GoodIn wsX0_goOnFrom wsX0_secondsFor := goodIn_r _ [41, 42, 43, 44, 7, 45, 46, 47, 48, 49, 50, 51, 52, 53, 54, 55, 56, 57, 58, 59, 60, 61, 62, 63, 64] (by decide +kernel) (by decide +kernel)
set_option maxRecDepth 20000 in
theorem gX0_goOnFrom_X0_secondsFor : GoodIn wsX0_goOnFrom (wsV RX0 151 RX0 yX0_secondsFor wsX0_secondsFor) := goodIn_app (goodIn_of _ (by decide +kernel)) ggX0_goOnFrom_X0_secondsFor
theorem dX0_goOnFrom_0 : decode cX0_goOnFrom 0 = .ok (.iconst 0, 1) := by decide +kernel
theorem dX0_goOnFrom_1 : decode cX0_goOnFrom 1 = .ok (.istore_n 2, 1) := by decide +kernel
theorem dX0_goOnFrom_2 : decode cX0_goOnFrom 2 = .ok (.iload_n 2, 1) := by decide +kernel
theorem dX0_goOnFrom_3 : decode cX0_goOnFrom 3 = .ok (.aload_n 0, 1) := by decide +kernel
theorem dX0_goOnFrom_4 : decode cX0_goOnFrom 4 = .ok (.getfield 62, 3) := by decide +kernel
theorem dX0_goOnFrom_7 : decode cX0_goOnFrom 7 = .ok (.if_icmp .ge 79, 3) := by decide +kernel
theorem dX0_goOnFrom_10 : decode cX0_goOnFrom 10 = .ok (.aload_n 0, 1) := by decide +kernel
theorem dX0_goOnFrom_11 : decode cX0_goOnFrom 11 = .ok (.iload_n 1, 1) := by decide +kernel
theorem dX0_goOnFrom_12 : decode cX0_goOnFrom 12 = .ok (.iload_n 2, 1) := by decide +kernel
theorem dX0_goOnFrom_13 : decode cX0_goOnFrom 13 = .ok (.invokevirtual 132, 3) := by decide +kernel
theorem dX0_goOnFrom_16 : decode cX0_goOnFrom 16 = .ok (.ifCond .ne 6, 3) := by decide +kernel
theorem dX0_goOnFrom_19 : decode cX0_goOnFrom 19 = .ok (.goto 61, 3) := by decide +kernel
theorem dX0_goOnFrom_22 : decode cX0_goOnFrom 22 = .ok (.aload_n 0, 1) := by decide +kernel
theorem dX0_goOnFrom_23 : decode cX0_goOnFrom 23 = .ok (.iload_n 2, 1) := by decide +kernel
theorem dX0_goOnFrom_24 : decode cX0_goOnFrom 24 = .ok (.aload_n 0, 1) := by decide +kernel
theorem dX0_goOnFrom_25 : decode cX0_goOnFrom 25 = .ok (.getfield 44, 3) := by decide +kernel
theorem dX0_goOnFrom_28 : decode cX0_goOnFrom 28 = .ok (.iload_n 1, 1) := by decide +kernel
theorem dX0_goOnFrom_29 : decode cX0_goOnFrom 29 = .ok (.laload, 1) := by decide +kernel
theorem dX0_goOnFrom_30 : decode cX0_goOnFrom 30 = .ok (.invokevirtual 172, 3) := by decide +kernel
theorem dX0_goOnFrom_33 : decode cX0_goOnFrom 33 = .ok (.lstore_n 3, 1) := by decide +kernel
theorem dX0_goOnFrom_34 : decode cX0_goOnFrom 34 = .ok (.lload_n 3, 1) := by decide +kernel
theorem dX0_goOnFrom_35 : decode cX0_goOnFrom 35 = .ok (.aload_n 0, 1) := by decide +kernel
theorem dX0_goOnFrom_36 : decode cX0_goOnFrom 36 = .ok (.getfield 41, 3) := by decide +kernel
theorem dX0_goOnFrom_39 : decode cX0_goOnFrom 39 = .ok (.iload_n 2, 1) := by decide +kernel
theorem dX0_goOnFrom_40 : decode cX0_goOnFrom 40 = .ok (.laload, 1) := by decide +kernel
theorem dX0_goOnFrom_41 : decode cX0_goOnFrom 41 = .ok (.lcmp, 1) := by decide +kernel
theorem dX0_goOnFrom_42 : decode cX0_goOnFrom 42 = .ok (.ifCond .ge 38, 3) := by decide +kernel
theorem dX0_goOnFrom_45 : decode cX0_goOnFrom 45 = .ok (.aload_n 0, 1) := by decide +kernel
theorem dX0_goOnFrom_46 : decode cX0_goOnFrom 46 = .ok (.getfield 41, 3) := by decide +kernel
theorem dX0_goOnFrom_49 : decode cX0_goOnFrom 49 = .ok (.iload_n 2, 1) := by decide +kernel
theorem dX0_goOnFrom_50 : decode cX0_goOnFrom 50 = .ok (.lload_n 3, 1) := by decide +kernel
theorem dX0_goOnFrom_51 : decode cX0_goOnFrom 51 = .ok (.lastore, 1) := by decide +kernel
theorem dX0_goOnFrom_52 : decode cX0_goOnFrom 52 = .ok (.aload_n 0, 1) := by decide +kernel
theorem dX0_goOnFrom_53 : decode cX0_goOnFrom 53 = .ok (.getfield 44, 3) := by decide +kernel
theorem dX0_goOnFrom_56 : decode cX0_goOnFrom 56 = .ok (.iload_n 2, 1) := by decide +kernel
theorem dX0_goOnFrom_57 : decode cX0_goOnFrom 57 = .ok (.aload_n 0, 1) := by decide +kernel
theorem dX0_goOnFrom_58 : decode cX0_goOnFrom 58 = .ok (.getfield 44, 3) := by decide +kernel
theorem dX0_goOnFrom_61 : decode cX0_goOnFrom 61 = .ok (.iload_n 2, 1) := by decide +kernel
theorem dX0_goOnFrom_62 : decode cX0_goOnFrom 62 = .ok (.laload, 1) := by decide +kernel
theorem dX0_goOnFrom_63 : decode cX0_goOnFrom 63 = .ok (.lload_n 3, 1) := by decide +kernel
theorem dX0_goOnFrom_64 : decode cX0_goOnFrom 64 = .ok (.aload_n 0, 1) := by decide +kernel
theorem dX0_goOnFrom_65 : decode cX0_goOnFrom 65 = .ok (.iload_n 2, 1) := by decide +kernel
theorem dX0_goOnFrom_66 : decode cX0_goOnFrom 66 = .ok (.aload_n 0, 1) := by decide +kernel
theorem dX0_goOnFrom_67 : decode cX0_goOnFrom 67 = .ok (.getfield 16, 3) := by decide +kernel
theorem dX0_goOnFrom_70 : decode cX0_goOnFrom 70 = .ok (.iload_n 2, 1) := by decide +kernel
theorem dX0_goOnFrom_71 : decode cX0_goOnFrom 71 = .ok (.laload, 1) := by decide +kernel
theorem dX0_goOnFrom_72 : decode cX0_goOnFrom 72 = .ok (.invokevirtual 151, 3) := by decide +kernel
theorem dX0_goOnFrom_75 : decode cX0_goOnFrom 75 = .ok (.ladd, 1) := by decide +kernel
theorem dX0_goOnFrom_76 : decode cX0_goOnFrom 76 = .ok (.invokestatic 175, 3) := by decide +kernel
theorem dX0_goOnFrom_79 : decode cX0_goOnFrom 79 = .ok (.lastore, 1) := by decide +kernel
theorem dX0_goOnFrom_80 : decode cX0_goOnFrom 80 = .ok (.iinc 2 1, 3) := by decide +kernel
theorem dX0_goOnFrom_83 : decode cX0_goOnFrom 83 = .ok (.goto (-81), 3) := by decide +kernel
theorem dX0_goOnFrom_86 : decode cX0_goOnFrom 86 = .ok (.return_, 1) := by decide +kernel
set_option maxRecDepth 20000 in
theorem ggX0_keepSteps_X0_isStraightOn : GoodIn wsX0_keepSteps wsX0_isStraightOn := goodIn_r _ [8, 1, 9, 45, 46, 47, 48, 49, 50, 51, 52, 53, 54, 55, 56, 57, 58, 59, 60, 61, 62] (by decide +kernel) (by decide +kernel)
set_option maxRecDepth 20000 in
theorem gX0_keepSteps_X0_isStraightOn : GoodIn wsX0_keepSteps (wsV RX0 148 RX0 yX0_isStraightOn wsX0_isStraightOn) := goodIn_app (goodIn_of _ (by decide +kernel)) ggX0_keepSteps_X0_isStraightOn
set_option maxRecDepth 20000 in
theorem ggX0_keepSteps_X0_pieceBefore : GoodIn wsX0_keepSteps wsX0_pieceBefore := goodIn_r _ [13, 14, 15, 16, 17, 18, 19, 7, 20, 21, 22, 23, 24, 25, 26, 27, 28, 29, 30, 31, 32, 33, 34, 35, 36, 37, 38, 39, 40, 41, 42, 43, 44, 45, 46, 47, 48, 49, 50, 51, 52, 53, 54, 55, 56, 57, 58, 59, 60, 61, 62] (by decide +kernel) (by decide +kernel)
set_option maxRecDepth 20000 in
theorem gX0_keepSteps_X0_pieceBefore : GoodIn wsX0_keepSteps (wsV RX0 178 RX0 yX0_pieceBefore wsX0_pieceBefore) := goodIn_app (goodIn_of _ (by decide +kernel)) ggX0_keepSteps_X0_pieceBefore
theorem dX0_keepSteps_0 : decode cX0_keepSteps 0 = .ok (.aload_n 0, 1) := by decide +kernel
theorem dX0_keepSteps_1 : decode cX0_keepSteps 1 = .ok (.getfield 32, 3) := by decide +kernel
theorem dX0_keepSteps_4 : decode cX0_keepSteps 4 = .ok (.iload_n 1, 1) := by decide +kernel
theorem dX0_keepSteps_5 : decode cX0_keepSteps 5 = .ok (.iaload, 1) := by decide +kernel
theorem dX0_keepSteps_6 : decode cX0_keepSteps 6 = .ok (.istore_n 3, 1) := by decide +kernel
theorem dX0_keepSteps_7 : decode cX0_keepSteps 7 = .ok (.aload_n 0, 1) := by decide +kernel
theorem dX0_keepSteps_8 : decode cX0_keepSteps 8 = .ok (.getfield 32, 3) := by decide +kernel
theorem dX0_keepSteps_11 : decode cX0_keepSteps 11 = .ok (.iload_n 2, 1) := by decide +kernel
theorem dX0_keepSteps_12 : decode cX0_keepSteps 12 = .ok (.iaload, 1) := by decide +kernel
theorem dX0_keepSteps_13 : decode cX0_keepSteps 13 = .ok (.istore 4, 2) := by decide +kernel
theorem dX0_keepSteps_15 : decode cX0_keepSteps 15 = .ok (.aload_n 0, 1) := by decide +kernel
theorem dX0_keepSteps_16 : decode cX0_keepSteps 16 = .ok (.getfield 51, 3) := by decide +kernel
theorem dX0_keepSteps_19 : decode cX0_keepSteps 19 = .ok (.iconst 0, 1) := by decide +kernel
theorem dX0_keepSteps_20 : decode cX0_keepSteps 20 = .ok (.iload 4, 2) := by decide +kernel
theorem dX0_keepSteps_22 : decode cX0_keepSteps 22 = .ok (.iastore, 1) := by decide +kernel
theorem dX0_keepSteps_23 : decode cX0_keepSteps 23 = .ok (.aload_n 0, 1) := by decide +kernel
theorem dX0_keepSteps_24 : decode cX0_keepSteps 24 = .ok (.iconst 1, 1) := by decide +kernel
theorem dX0_keepSteps_25 : decode cX0_keepSteps 25 = .ok (.putfield 107, 3) := by decide +kernel
theorem dX0_keepSteps_28 : decode cX0_keepSteps 28 = .ok (.aload_n 0, 1) := by decide +kernel
theorem dX0_keepSteps_29 : decode cX0_keepSteps 29 = .ok (.iload_n 1, 1) := by decide +kernel
theorem dX0_keepSteps_30 : decode cX0_keepSteps 30 = .ok (.iload_n 2, 1) := by decide +kernel
theorem dX0_keepSteps_31 : decode cX0_keepSteps 31 = .ok (.invokevirtual 148, 3) := by decide +kernel
theorem dX0_keepSteps_34 : decode cX0_keepSteps 34 = .ok (.ifCond .eq 4, 3) := by decide +kernel
theorem dX0_keepSteps_37 : decode cX0_keepSteps 37 = .ok (.return_, 1) := by decide +kernel
theorem dX0_keepSteps_38 : decode cX0_keepSteps 38 = .ok (.aload_n 0, 1) := by decide +kernel
theorem dX0_keepSteps_39 : decode cX0_keepSteps 39 = .ok (.iload 4, 2) := by decide +kernel
theorem dX0_keepSteps_41 : decode cX0_keepSteps 41 = .ok (.invokevirtual 178, 3) := by decide +kernel
theorem dX0_keepSteps_44 : decode cX0_keepSteps 44 = .ok (.istore 5, 2) := by decide +kernel
theorem dX0_keepSteps_46 : decode cX0_keepSteps 46 = .ok (.iload 5, 2) := by decide +kernel
theorem dX0_keepSteps_48 : decode cX0_keepSteps 48 = .ok (.iconst (-1), 1) := by decide +kernel
theorem dX0_keepSteps_49 : decode cX0_keepSteps 49 = .ok (.if_icmp .eq 54, 3) := by decide +kernel
theorem dX0_keepSteps_52 : decode cX0_keepSteps 52 = .ok (.aload_n 0, 1) := by decide +kernel
theorem dX0_keepSteps_53 : decode cX0_keepSteps 53 = .ok (.getfield 107, 3) := by decide +kernel
theorem dX0_keepSteps_56 : decode cX0_keepSteps 56 = .ok (.bipush 121, 2) := by decide +kernel
theorem dX0_keepSteps_58 : decode cX0_keepSteps 58 = .ok (.if_icmp .ge 45, 3) := by decide +kernel
theorem dX0_keepSteps_61 : decode cX0_keepSteps 61 = .ok (.aload_n 0, 1) := by decide +kernel
theorem dX0_keepSteps_62 : decode cX0_keepSteps 62 = .ok (.getfield 51, 3) := by decide +kernel
theorem dX0_keepSteps_65 : decode cX0_keepSteps 65 = .ok (.aload_n 0, 1) := by decide +kernel
theorem dX0_keepSteps_66 : decode cX0_keepSteps 66 = .ok (.getfield 107, 3) := by decide +kernel
theorem dX0_keepSteps_69 : decode cX0_keepSteps 69 = .ok (.iload 5, 2) := by decide +kernel
theorem dX0_keepSteps_71 : decode cX0_keepSteps 71 = .ok (.iastore, 1) := by decide +kernel
theorem dX0_keepSteps_72 : decode cX0_keepSteps 72 = .ok (.aload_n 0, 1) := by decide +kernel
theorem dX0_keepSteps_73 : decode cX0_keepSteps 73 = .ok (.dup, 1) := by decide +kernel
theorem dX0_keepSteps_74 : decode cX0_keepSteps 74 = .ok (.getfield 107, 3) := by decide +kernel
theorem dX0_keepSteps_77 : decode cX0_keepSteps 77 = .ok (.iconst 1, 1) := by decide +kernel
theorem dX0_keepSteps_78 : decode cX0_keepSteps 78 = .ok (.iadd, 1) := by decide +kernel
theorem dX0_keepSteps_79 : decode cX0_keepSteps 79 = .ok (.putfield 107, 3) := by decide +kernel
theorem dX0_keepSteps_82 : decode cX0_keepSteps 82 = .ok (.iload 5, 2) := by decide +kernel
theorem dX0_keepSteps_84 : decode cX0_keepSteps 84 = .ok (.iload_n 3, 1) := by decide +kernel
theorem dX0_keepSteps_85 : decode cX0_keepSteps 85 = .ok (.if_icmp .ne 7, 3) := by decide +kernel
theorem dX0_keepSteps_88 : decode cX0_keepSteps 88 = .ok (.iconst (-1), 1) := by decide +kernel
theorem dX0_keepSteps_89 : decode cX0_keepSteps 89 = .ok (.goto 9, 3) := by decide +kernel
theorem dX0_keepSteps_92 : decode cX0_keepSteps 92 = .ok (.aload_n 0, 1) := by decide +kernel
theorem dX0_keepSteps_93 : decode cX0_keepSteps 93 = .ok (.iload 5, 2) := by decide +kernel
theorem dX0_keepSteps_95 : decode cX0_keepSteps 95 = .ok (.invokevirtual 178, 3) := by decide +kernel
theorem dX0_keepSteps_98 : decode cX0_keepSteps 98 = .ok (.istore 5, 2) := by decide +kernel
theorem dX0_keepSteps_100 : decode cX0_keepSteps 100 = .ok (.goto (-54), 3) := by decide +kernel
theorem dX0_keepSteps_103 : decode cX0_keepSteps 103 = .ok (.return_, 1) := by decide +kernel
set_option maxRecDepth 20000 in
theorem ggX0_pieceBefore_X0_mayGoOn : GoodIn wsX0_pieceBefore wsX0_mayGoOn := goodIn_r _ [8, 9, 10, 11, 12, 13, 7, 14, 15, 16, 17, 18, 19, 20, 21, 33, 34, 35, 36, 37, 38, 39, 40, 41, 42, 43, 44, 45, 46, 47, 48, 49, 50] (by decide +kernel) (by decide +kernel)
set_option maxRecDepth 20000 in
theorem gX0_pieceBefore_X0_mayGoOn : GoodIn wsX0_pieceBefore (wsV RX0 132 RX0 yX0_mayGoOn wsX0_mayGoOn) := goodIn_app (goodIn_of _ (by decide +kernel)) ggX0_pieceBefore_X0_mayGoOn
set_option maxRecDepth 20000 in
theorem ggX0_pieceBefore_X0_entryAtOrAfter : GoodIn wsX0_pieceBefore wsX0_entryAtOrAfter := goodIn_r _ [25, 26, 27, 28, 29, 30, 31, 7, 32, 33, 34, 35, 36, 37, 38, 39, 40, 41, 42, 43, 44, 45, 46, 47, 48, 49, 50] (by decide +kernel) (by decide +kernel)
set_option maxRecDepth 20000 in
theorem gX0_pieceBefore_X0_entryAtOrAfter : GoodIn wsX0_pieceBefore (wsV RX0 172 RX0 yX0_entryAtOrAfter wsX0_entryAtOrAfter) := goodIn_app (goodIn_of _ (by decide +kernel)) ggX0_pieceBefore_X0_entryAtOrAfter
theorem dX0_pieceBefore_0 : decode cX0_pieceBefore 0 = .ok (.iconst 0, 1) := by decide +kernel
theorem dX0_pieceBefore_1 : decode cX0_pieceBefore 1 = .ok (.istore_n 2, 1) := by decide +kernel
theorem dX0_pieceBefore_2 : decode cX0_pieceBefore 2 = .ok (.iload_n 2, 1) := by decide +kernel
theorem dX0_pieceBefore_3 : decode cX0_pieceBefore 3 = .ok (.aload_n 0, 1) := by decide +kernel
theorem dX0_pieceBefore_4 : decode cX0_pieceBefore 4 = .ok (.getfield 62, 3) := by decide +kernel
theorem dX0_pieceBefore_7 : decode cX0_pieceBefore 7 = .ok (.if_icmp .ge 41, 3) := by decide +kernel
theorem dX0_pieceBefore_10 : decode cX0_pieceBefore 10 = .ok (.aload_n 0, 1) := by decide +kernel
theorem dX0_pieceBefore_11 : decode cX0_pieceBefore 11 = .ok (.iload_n 2, 1) := by decide +kernel
theorem dX0_pieceBefore_12 : decode cX0_pieceBefore 12 = .ok (.iload_n 1, 1) := by decide +kernel
theorem dX0_pieceBefore_13 : decode cX0_pieceBefore 13 = .ok (.invokevirtual 132, 3) := by decide +kernel
theorem dX0_pieceBefore_16 : decode cX0_pieceBefore 16 = .ok (.ifCond .eq 26, 3) := by decide +kernel
theorem dX0_pieceBefore_19 : decode cX0_pieceBefore 19 = .ok (.aload_n 0, 1) := by decide +kernel
theorem dX0_pieceBefore_20 : decode cX0_pieceBefore 20 = .ok (.iload_n 1, 1) := by decide +kernel
theorem dX0_pieceBefore_21 : decode cX0_pieceBefore 21 = .ok (.aload_n 0, 1) := by decide +kernel
theorem dX0_pieceBefore_22 : decode cX0_pieceBefore 22 = .ok (.getfield 44, 3) := by decide +kernel
theorem dX0_pieceBefore_25 : decode cX0_pieceBefore 25 = .ok (.iload_n 2, 1) := by decide +kernel
theorem dX0_pieceBefore_26 : decode cX0_pieceBefore 26 = .ok (.laload, 1) := by decide +kernel
theorem dX0_pieceBefore_27 : decode cX0_pieceBefore 27 = .ok (.invokevirtual 172, 3) := by decide +kernel
theorem dX0_pieceBefore_30 : decode cX0_pieceBefore 30 = .ok (.aload_n 0, 1) := by decide +kernel
theorem dX0_pieceBefore_31 : decode cX0_pieceBefore 31 = .ok (.getfield 41, 3) := by decide +kernel
theorem dX0_pieceBefore_34 : decode cX0_pieceBefore 34 = .ok (.iload_n 1, 1) := by decide +kernel
theorem dX0_pieceBefore_35 : decode cX0_pieceBefore 35 = .ok (.laload, 1) := by decide +kernel
theorem dX0_pieceBefore_36 : decode cX0_pieceBefore 36 = .ok (.lcmp, 1) := by decide +kernel
theorem dX0_pieceBefore_37 : decode cX0_pieceBefore 37 = .ok (.ifCond .ne 5, 3) := by decide +kernel
theorem dX0_pieceBefore_40 : decode cX0_pieceBefore 40 = .ok (.iload_n 2, 1) := by decide +kernel
theorem dX0_pieceBefore_41 : decode cX0_pieceBefore 41 = .ok (.ireturn, 1) := by decide +kernel
theorem dX0_pieceBefore_42 : decode cX0_pieceBefore 42 = .ok (.iinc 2 1, 3) := by decide +kernel
theorem dX0_pieceBefore_45 : decode cX0_pieceBefore 45 = .ok (.goto (-43), 3) := by decide +kernel
theorem dX0_pieceBefore_48 : decode cX0_pieceBefore 48 = .ok (.iconst (-1), 1) := by decide +kernel
theorem dX0_pieceBefore_49 : decode cX0_pieceBefore 49 = .ok (.ireturn, 1) := by decide +kernel
end
section
theorem dX1_init_0 : decode cX1_init 0 = .ok (.aload_n 0, 1) := by decide +kernel
theorem dX1_init_1 : decode cX1_init 1 = .ok (.invokespecial 1, 3) := by decide +kernel
theorem dX1_init_4 : decode cX1_init 4 = .ok (.aload_n 0, 1) := by decide +kernel
theorem dX1_init_5 : decode cX1_init 5 = .ok (.bipush 120, 2) := by decide +kernel
theorem dX1_init_7 : decode cX1_init 7 = .ok (.newarray .int, 2) := by decide +kernel
theorem dX1_init_9 : decode cX1_init 9 = .ok (.putfield 7, 3) := by decide +kernel
theorem dX1_init_12 : decode cX1_init 12 = .ok (.aload_n 0, 1) := by decide +kernel
theorem dX1_init_13 : decode cX1_init 13 = .ok (.bipush 120, 2) := by decide +kernel
theorem dX1_init_15 : decode cX1_init 15 = .ok (.newarray .int, 2) := by decide +kernel
theorem dX1_init_17 : decode cX1_init 17 = .ok (.putfield 13, 3) := by decide +kernel
theorem dX1_init_20 : decode cX1_init 20 = .ok (.aload_n 0, 1) := by decide +kernel
theorem dX1_init_21 : decode cX1_init 21 = .ok (.bipush 120, 2) := by decide +kernel
theorem dX1_init_23 : decode cX1_init 23 = .ok (.newarray .long, 2) := by decide +kernel
theorem dX1_init_25 : decode cX1_init 25 = .ok (.putfield 16, 3) := by decide +kernel
theorem dX1_init_28 : decode cX1_init 28 = .ok (.aload_n 0, 1) := by decide +kernel
theorem dX1_init_29 : decode cX1_init 29 = .ok (.bipush 120, 2) := by decide +kernel
theorem dX1_init_31 : decode cX1_init 31 = .ok (.newarray .long, 2) := by decide +kernel
theorem dX1_init_33 : decode cX1_init 33 = .ok (.putfield 20, 3) := by decide +kernel
theorem dX1_init_36 : decode cX1_init 36 = .ok (.aload_n 0, 1) := by decide +kernel
theorem dX1_init_37 : decode cX1_init 37 = .ok (.bipush 120, 2) := by decide +kernel
theorem dX1_init_39 : decode cX1_init 39 = .ok (.newarray .long, 2) := by decide +kernel
theorem dX1_init_41 : decode cX1_init 41 = .ok (.putfield 23, 3) := by decide +kernel
theorem dX1_init_44 : decode cX1_init 44 = .ok (.aload_n 0, 1) := by decide +kernel
theorem dX1_init_45 : decode cX1_init 45 = .ok (.bipush 120, 2) := by decide +kernel
theorem dX1_init_47 : decode cX1_init 47 = .ok (.newarray .long, 2) := by decide +kernel
theorem dX1_init_49 : decode cX1_init 49 = .ok (.putfield 26, 3) := by decide +kernel
theorem dX1_init_52 : decode cX1_init 52 = .ok (.aload_n 0, 1) := by decide +kernel
theorem dX1_init_53 : decode cX1_init 53 = .ok (.sipush 14400, 3) := by decide +kernel
theorem dX1_init_56 : decode cX1_init 56 = .ok (.newarray .boolean, 2) := by decide +kernel
theorem dX1_init_58 : decode cX1_init 58 = .ok (.putfield 29, 3) := by decide +kernel
theorem dX1_init_61 : decode cX1_init 61 = .ok (.aload_n 0, 1) := by decide +kernel
theorem dX1_init_62 : decode cX1_init 62 = .ok (.bipush 100, 2) := by decide +kernel
theorem dX1_init_64 : decode cX1_init 64 = .ok (.newarray .int, 2) := by decide +kernel
theorem dX1_init_66 : decode cX1_init 66 = .ok (.putfield 33, 3) := by decide +kernel
theorem dX1_init_69 : decode cX1_init 69 = .ok (.aload_n 0, 1) := by decide +kernel
theorem dX1_init_70 : decode cX1_init 70 = .ok (.bipush 100, 2) := by decide +kernel
theorem dX1_init_72 : decode cX1_init 72 = .ok (.newarray .int, 2) := by decide +kernel
theorem dX1_init_74 : decode cX1_init 74 = .ok (.putfield 36, 3) := by decide +kernel
theorem dX1_init_77 : decode cX1_init 77 = .ok (.aload_n 0, 1) := by decide +kernel
theorem dX1_init_78 : decode cX1_init 78 = .ok (.bipush 100, 2) := by decide +kernel
theorem dX1_init_80 : decode cX1_init 80 = .ok (.newarray .long, 2) := by decide +kernel
theorem dX1_init_82 : decode cX1_init 82 = .ok (.putfield 39, 3) := by decide +kernel
theorem dX1_init_85 : decode cX1_init 85 = .ok (.aload_n 0, 1) := by decide +kernel
theorem dX1_init_86 : decode cX1_init 86 = .ok (.bipush 120, 2) := by decide +kernel
theorem dX1_init_88 : decode cX1_init 88 = .ok (.newarray .long, 2) := by decide +kernel
theorem dX1_init_90 : decode cX1_init 90 = .ok (.putfield 42, 3) := by decide +kernel
theorem dX1_init_93 : decode cX1_init 93 = .ok (.aload_n 0, 1) := by decide +kernel
theorem dX1_init_94 : decode cX1_init 94 = .ok (.bipush 120, 2) := by decide +kernel
theorem dX1_init_96 : decode cX1_init 96 = .ok (.newarray .long, 2) := by decide +kernel
theorem dX1_init_98 : decode cX1_init 98 = .ok (.putfield 45, 3) := by decide +kernel
theorem dX1_init_101 : decode cX1_init 101 = .ok (.aload_n 0, 1) := by decide +kernel
theorem dX1_init_102 : decode cX1_init 102 = .ok (.sipush 200, 3) := by decide +kernel
theorem dX1_init_105 : decode cX1_init 105 = .ok (.newarray .int, 2) := by decide +kernel
theorem dX1_init_107 : decode cX1_init 107 = .ok (.putfield 48, 3) := by decide +kernel
theorem dX1_init_110 : decode cX1_init 110 = .ok (.return_, 1) := by decide +kernel
theorem dX1_thrown_0 : decode cX1_thrown 0 = .ok (.aload_n 0, 1) := by decide +kernel
theorem dX1_thrown_1 : decode cX1_thrown 1 = .ok (.getfield 51, 3) := by decide +kernel
theorem dX1_thrown_4 : decode cX1_thrown 4 = .ok (.ireturn, 1) := by decide +kernel
theorem dX1_in_0 : decode cX1_in 0 = .ok (.lload_n 0, 1) := by decide +kernel
theorem dX1_in_1 : decode cX1_in 1 = .ok (.lload_n 2, 1) := by decide +kernel
theorem dX1_in_2 : decode cX1_in 2 = .ok (.lcmp, 1) := by decide +kernel
theorem dX1_in_3 : decode cX1_in 3 = .ok (.ifCond .lt 14, 3) := by decide +kernel
theorem dX1_in_6 : decode cX1_in 6 = .ok (.lload_n 0, 1) := by decide +kernel
theorem dX1_in_7 : decode cX1_in 7 = .ok (.lload 4, 2) := by decide +kernel
theorem dX1_in_9 : decode cX1_in 9 = .ok (.lcmp, 1) := by decide +kernel
theorem dX1_in_10 : decode cX1_in 10 = .ok (.ifCond .gt 7, 3) := by decide +kernel
theorem dX1_in_13 : decode cX1_in 13 = .ok (.iconst 1, 1) := by decide +kernel
theorem dX1_in_14 : decode cX1_in 14 = .ok (.goto 4, 3) := by decide +kernel
theorem dX1_in_17 : decode cX1_in 17 = .ok (.iconst 0, 1) := by decide +kernel
theorem dX1_in_18 : decode cX1_in 18 = .ok (.ireturn, 1) := by decide +kernel
theorem dX1_isPiece_0 : decode cX1_isPiece 0 = .ok (.iload_n 1, 1) := by decide +kernel
theorem dX1_isPiece_1 : decode cX1_isPiece 1 = .ok (.ifCond .lt 15, 3) := by decide +kernel
theorem dX1_isPiece_4 : decode cX1_isPiece 4 = .ok (.iload_n 1, 1) := by decide +kernel
theorem dX1_isPiece_5 : decode cX1_isPiece 5 = .ok (.aload_n 0, 1) := by decide +kernel
theorem dX1_isPiece_6 : decode cX1_isPiece 6 = .ok (.getfield 55, 3) := by decide +kernel
theorem dX1_isPiece_9 : decode cX1_isPiece 9 = .ok (.if_icmp .ge 7, 3) := by decide +kernel
theorem dX1_isPiece_12 : decode cX1_isPiece 12 = .ok (.iconst 1, 1) := by decide +kernel
theorem dX1_isPiece_13 : decode cX1_isPiece 13 = .ok (.goto 4, 3) := by decide +kernel
theorem dX1_isPiece_16 : decode cX1_isPiece 16 = .ok (.iconst 0, 1) := by decide +kernel
theorem dX1_isPiece_17 : decode cX1_isPiece 17 = .ok (.ireturn, 1) := by decide +kernel
theorem dX1_isStop_0 : decode cX1_isStop 0 = .ok (.iload_n 1, 1) := by decide +kernel
theorem dX1_isStop_1 : decode cX1_isStop 1 = .ok (.ifCond .lt 15, 3) := by decide +kernel
theorem dX1_isStop_4 : decode cX1_isStop 4 = .ok (.iload_n 1, 1) := by decide +kernel
theorem dX1_isStop_5 : decode cX1_isStop 5 = .ok (.aload_n 0, 1) := by decide +kernel
theorem dX1_isStop_6 : decode cX1_isStop 6 = .ok (.getfield 58, 3) := by decide +kernel
theorem dX1_isStop_9 : decode cX1_isStop 9 = .ok (.if_icmp .ge 7, 3) := by decide +kernel
theorem dX1_isStop_12 : decode cX1_isStop 12 = .ok (.iconst 1, 1) := by decide +kernel
theorem dX1_isStop_13 : decode cX1_isStop 13 = .ok (.goto 4, 3) := by decide +kernel
theorem dX1_isStop_16 : decode cX1_isStop 16 = .ok (.iconst 0, 1) := by decide +kernel
theorem dX1_isStop_17 : decode cX1_isStop 17 = .ok (.ireturn, 1) := by decide +kernel
theorem dX1_seconds_0 : decode cX1_seconds 0 = .ok (.ldc2_w 61, 3) := by decide +kernel
theorem dX1_seconds_3 : decode cX1_seconds 3 = .ok (.lload_n 2, 1) := by decide +kernel
theorem dX1_seconds_4 : decode cX1_seconds 4 = .ok (.lmul, 1) := by decide +kernel
theorem dX1_seconds_5 : decode cX1_seconds 5 = .ok (.lstore 4, 2) := by decide +kernel
theorem dX1_seconds_7 : decode cX1_seconds 7 = .ok (.lload 4, 2) := by decide +kernel
theorem dX1_seconds_9 : decode cX1_seconds 9 = .ok (.aload_n 0, 1) := by decide +kernel
theorem dX1_seconds_10 : decode cX1_seconds 10 = .ok (.getfield 20, 3) := by decide +kernel
theorem dX1_seconds_13 : decode cX1_seconds 13 = .ok (.iload_n 1, 1) := by decide +kernel
theorem dX1_seconds_14 : decode cX1_seconds 14 = .ok (.laload, 1) := by decide +kernel
theorem dX1_seconds_15 : decode cX1_seconds 15 = .ok (.ldiv, 1) := by decide +kernel
theorem dX1_seconds_16 : decode cX1_seconds 16 = .ok (.lstore 6, 2) := by decide +kernel
theorem dX1_seconds_18 : decode cX1_seconds 18 = .ok (.lload 6, 2) := by decide +kernel
theorem dX1_seconds_20 : decode cX1_seconds 20 = .ok (.aload_n 0, 1) := by decide +kernel
theorem dX1_seconds_21 : decode cX1_seconds 21 = .ok (.getfield 20, 3) := by decide +kernel
theorem dX1_seconds_24 : decode cX1_seconds 24 = .ok (.iload_n 1, 1) := by decide +kernel
theorem dX1_seconds_25 : decode cX1_seconds 25 = .ok (.laload, 1) := by decide +kernel
theorem dX1_seconds_26 : decode cX1_seconds 26 = .ok (.lmul, 1) := by decide +kernel
theorem dX1_seconds_27 : decode cX1_seconds 27 = .ok (.lload 4, 2) := by decide +kernel
theorem dX1_seconds_29 : decode cX1_seconds 29 = .ok (.lcmp, 1) := by decide +kernel
theorem dX1_seconds_30 : decode cX1_seconds 30 = .ok (.ifCond .ge 10, 3) := by decide +kernel
theorem dX1_seconds_33 : decode cX1_seconds 33 = .ok (.lload 6, 2) := by decide +kernel
theorem dX1_seconds_35 : decode cX1_seconds 35 = .ok (.lconst 1, 1) := by decide +kernel
theorem dX1_seconds_36 : decode cX1_seconds 36 = .ok (.ladd, 1) := by decide +kernel
theorem dX1_seconds_37 : decode cX1_seconds 37 = .ok (.goto 5, 3) := by decide +kernel
theorem dX1_seconds_40 : decode cX1_seconds 40 = .ok (.lload 6, 2) := by decide +kernel
theorem dX1_seconds_42 : decode cX1_seconds 42 = .ok (.lreturn, 1) := by decide +kernel
set_option maxRecDepth 20000 in
theorem ggX1_piece_X1_in : GoodIn wsX1_piece wsX1_in := goodIn_r _ [13] (by decide +kernel) (by decide +kernel)
set_option maxRecDepth 20000 in
theorem gX1_piece_X1_in : GoodIn wsX1_piece (va_wsS RX1 65 yX1_in wsX1_in) := goodIn_app (goodIn_of _ (by decide +kernel)) ggX1_piece_X1_in
theorem dX1_piece_0 : decode cX1_piece 0 = .ok (.aload_n 0, 1) := by decide +kernel
theorem dX1_piece_1 : decode cX1_piece 1 = .ok (.iconst 0, 1) := by decide +kernel
theorem dX1_piece_2 : decode cX1_piece 2 = .ok (.putfield 51, 3) := by decide +kernel
theorem dX1_piece_5 : decode cX1_piece 5 = .ok (.iload_n 1, 1) := by decide +kernel
theorem dX1_piece_6 : decode cX1_piece 6 = .ok (.i2l, 1) := by decide +kernel
theorem dX1_piece_7 : decode cX1_piece 7 = .ok (.lconst 0, 1) := by decide +kernel
theorem dX1_piece_8 : decode cX1_piece 8 = .ok (.ldc2_w 63, 3) := by decide +kernel
theorem dX1_piece_11 : decode cX1_piece 11 = .ok (.invokestatic 65, 3) := by decide +kernel
theorem dX1_piece_14 : decode cX1_piece 14 = .ok (.ifCond .eq 15, 3) := by decide +kernel
theorem dX1_piece_17 : decode cX1_piece 17 = .ok (.iload_n 2, 1) := by decide +kernel
theorem dX1_piece_18 : decode cX1_piece 18 = .ok (.i2l, 1) := by decide +kernel
theorem dX1_piece_19 : decode cX1_piece 19 = .ok (.lconst 0, 1) := by decide +kernel
theorem dX1_piece_20 : decode cX1_piece 20 = .ok (.ldc2_w 63, 3) := by decide +kernel
theorem dX1_piece_23 : decode cX1_piece 23 = .ok (.invokestatic 65, 3) := by decide +kernel
theorem dX1_piece_26 : decode cX1_piece 26 = .ok (.ifCond .ne 6, 3) := by decide +kernel
theorem dX1_piece_29 : decode cX1_piece 29 = .ok (.bipush (-11), 2) := by decide +kernel
theorem dX1_piece_31 : decode cX1_piece 31 = .ok (.ireturn, 1) := by decide +kernel
theorem dX1_piece_32 : decode cX1_piece 32 = .ok (.lload_n 3, 1) := by decide +kernel
theorem dX1_piece_33 : decode cX1_piece 33 = .ok (.lconst 1, 1) := by decide +kernel
theorem dX1_piece_34 : decode cX1_piece 34 = .ok (.ldc2_w 69, 3) := by decide +kernel
theorem dX1_piece_37 : decode cX1_piece 37 = .ok (.invokestatic 65, 3) := by decide +kernel
theorem dX1_piece_40 : decode cX1_piece 40 = .ok (.ifCond .eq 15, 3) := by decide +kernel
theorem dX1_piece_43 : decode cX1_piece 43 = .ok (.lload 5, 2) := by decide +kernel
theorem dX1_piece_45 : decode cX1_piece 45 = .ok (.lconst 0, 1) := by decide +kernel
theorem dX1_piece_46 : decode cX1_piece 46 = .ok (.ldc2_w 71, 3) := by decide +kernel
theorem dX1_piece_49 : decode cX1_piece 49 = .ok (.invokestatic 65, 3) := by decide +kernel
theorem dX1_piece_52 : decode cX1_piece 52 = .ok (.ifCond .ne 6, 3) := by decide +kernel
theorem dX1_piece_55 : decode cX1_piece 55 = .ok (.bipush (-12), 2) := by decide +kernel
theorem dX1_piece_57 : decode cX1_piece 57 = .ok (.ireturn, 1) := by decide +kernel
theorem dX1_piece_58 : decode cX1_piece 58 = .ok (.aload_n 0, 1) := by decide +kernel
theorem dX1_piece_59 : decode cX1_piece 59 = .ok (.getfield 55, 3) := by decide +kernel
theorem dX1_piece_62 : decode cX1_piece 62 = .ok (.bipush 120, 2) := by decide +kernel
theorem dX1_piece_64 : decode cX1_piece 64 = .ok (.if_icmp .ne 6, 3) := by decide +kernel
theorem dX1_piece_67 : decode cX1_piece 67 = .ok (.bipush (-14), 2) := by decide +kernel
theorem dX1_piece_69 : decode cX1_piece 69 = .ok (.ireturn, 1) := by decide +kernel
theorem dX1_piece_70 : decode cX1_piece 70 = .ok (.aload_n 0, 1) := by decide +kernel
theorem dX1_piece_71 : decode cX1_piece 71 = .ok (.lload 5, 2) := by decide +kernel
theorem dX1_piece_73 : decode cX1_piece 73 = .ok (.lconst 0, 1) := by decide +kernel
theorem dX1_piece_74 : decode cX1_piece 74 = .ok (.lcmp, 1) := by decide +kernel
theorem dX1_piece_75 : decode cX1_piece 75 = .ok (.ifCond .ne 7, 3) := by decide +kernel
theorem dX1_piece_78 : decode cX1_piece 78 = .ok (.iconst 1, 1) := by decide +kernel
theorem dX1_piece_79 : decode cX1_piece 79 = .ok (.goto 4, 3) := by decide +kernel
theorem dX1_piece_82 : decode cX1_piece 82 = .ok (.iconst 0, 1) := by decide +kernel
theorem dX1_piece_83 : decode cX1_piece 83 = .ok (.putfield 51, 3) := by decide +kernel
theorem dX1_piece_86 : decode cX1_piece 86 = .ok (.aload_n 0, 1) := by decide +kernel
theorem dX1_piece_87 : decode cX1_piece 87 = .ok (.getfield 51, 3) := by decide +kernel
theorem dX1_piece_90 : decode cX1_piece 90 = .ok (.ifCond .le 5, 3) := by decide +kernel
theorem dX1_piece_93 : decode cX1_piece 93 = .ok (.iconst 0, 1) := by decide +kernel
theorem dX1_piece_94 : decode cX1_piece 94 = .ok (.ireturn, 1) := by decide +kernel
theorem dX1_piece_95 : decode cX1_piece 95 = .ok (.aload_n 0, 1) := by decide +kernel
theorem dX1_piece_96 : decode cX1_piece 96 = .ok (.getfield 7, 3) := by decide +kernel
theorem dX1_piece_99 : decode cX1_piece 99 = .ok (.aload_n 0, 1) := by decide +kernel
theorem dX1_piece_100 : decode cX1_piece 100 = .ok (.getfield 55, 3) := by decide +kernel
theorem dX1_piece_103 : decode cX1_piece 103 = .ok (.iload_n 1, 1) := by decide +kernel
theorem dX1_piece_104 : decode cX1_piece 104 = .ok (.iastore, 1) := by decide +kernel
theorem dX1_piece_105 : decode cX1_piece 105 = .ok (.aload_n 0, 1) := by decide +kernel
theorem dX1_piece_106 : decode cX1_piece 106 = .ok (.getfield 13, 3) := by decide +kernel
theorem dX1_piece_109 : decode cX1_piece 109 = .ok (.aload_n 0, 1) := by decide +kernel
theorem dX1_piece_110 : decode cX1_piece 110 = .ok (.getfield 55, 3) := by decide +kernel
theorem dX1_piece_113 : decode cX1_piece 113 = .ok (.iload_n 2, 1) := by decide +kernel
theorem dX1_piece_114 : decode cX1_piece 114 = .ok (.iastore, 1) := by decide +kernel
theorem dX1_piece_115 : decode cX1_piece 115 = .ok (.aload_n 0, 1) := by decide +kernel
theorem dX1_piece_116 : decode cX1_piece 116 = .ok (.getfield 16, 3) := by decide +kernel
theorem dX1_piece_119 : decode cX1_piece 119 = .ok (.aload_n 0, 1) := by decide +kernel
theorem dX1_piece_120 : decode cX1_piece 120 = .ok (.getfield 55, 3) := by decide +kernel
theorem dX1_piece_123 : decode cX1_piece 123 = .ok (.lload_n 3, 1) := by decide +kernel
theorem dX1_piece_124 : decode cX1_piece 124 = .ok (.lastore, 1) := by decide +kernel
theorem dX1_piece_125 : decode cX1_piece 125 = .ok (.aload_n 0, 1) := by decide +kernel
theorem dX1_piece_126 : decode cX1_piece 126 = .ok (.getfield 20, 3) := by decide +kernel
theorem dX1_piece_129 : decode cX1_piece 129 = .ok (.aload_n 0, 1) := by decide +kernel
theorem dX1_piece_130 : decode cX1_piece 130 = .ok (.getfield 55, 3) := by decide +kernel
theorem dX1_piece_133 : decode cX1_piece 133 = .ok (.lload 5, 2) := by decide +kernel
theorem dX1_piece_135 : decode cX1_piece 135 = .ok (.lastore, 1) := by decide +kernel
theorem dX1_piece_136 : decode cX1_piece 136 = .ok (.aload_n 0, 1) := by decide +kernel
theorem dX1_piece_137 : decode cX1_piece 137 = .ok (.dup, 1) := by decide +kernel
theorem dX1_piece_138 : decode cX1_piece 138 = .ok (.getfield 55, 3) := by decide +kernel
theorem dX1_piece_141 : decode cX1_piece 141 = .ok (.iconst 1, 1) := by decide +kernel
theorem dX1_piece_142 : decode cX1_piece 142 = .ok (.iadd, 1) := by decide +kernel
theorem dX1_piece_143 : decode cX1_piece 143 = .ok (.putfield 55, 3) := by decide +kernel
theorem dX1_piece_146 : decode cX1_piece 146 = .ok (.aload_n 0, 1) := by decide +kernel
theorem dX1_piece_147 : decode cX1_piece 147 = .ok (.getfield 55, 3) := by decide +kernel
theorem dX1_piece_150 : decode cX1_piece 150 = .ok (.iconst 1, 1) := by decide +kernel
theorem dX1_piece_151 : decode cX1_piece 151 = .ok (.isub, 1) := by decide +kernel
theorem dX1_piece_152 : decode cX1_piece 152 = .ok (.ireturn, 1) := by decide +kernel
set_option maxRecDepth 20000 in
theorem ggX1_piece2_X1_isPiece : GoodIn wsX1_piece2 wsX1_isPiece := goodIn_r _ [8, 9, 10, 11, 12, 13, 14, 15, 16, 17, 18, 19, 20, 21, 22, 23, 24, 25, 26] (by decide +kernel) (by decide +kernel)
set_option maxRecDepth 20000 in
theorem gX1_piece2_X1_isPiece : GoodIn wsX1_piece2 (wsV RX1 73 RX1 yX1_isPiece wsX1_isPiece) := goodIn_app (goodIn_of _ (by decide +kernel)) ggX1_piece2_X1_isPiece
theorem dX1_piece2_0 : decode cX1_piece2 0 = .ok (.aload_n 0, 1) := by decide +kernel
theorem dX1_piece2_1 : decode cX1_piece2 1 = .ok (.aload_n 0, 1) := by decide +kernel
theorem dX1_piece2_2 : decode cX1_piece2 2 = .ok (.iload_n 1, 1) := by decide +kernel
theorem dX1_piece2_3 : decode cX1_piece2 3 = .ok (.invokevirtual 73, 3) := by decide +kernel
theorem dX1_piece2_6 : decode cX1_piece2 6 = .ok (.ifCond .eq 7, 3) := by decide +kernel
theorem dX1_piece2_9 : decode cX1_piece2 9 = .ok (.iconst 0, 1) := by decide +kernel
theorem dX1_piece2_10 : decode cX1_piece2 10 = .ok (.goto 4, 3) := by decide +kernel
theorem dX1_piece2_13 : decode cX1_piece2 13 = .ok (.iconst 1, 1) := by decide +kernel
theorem dX1_piece2_14 : decode cX1_piece2 14 = .ok (.putfield 51, 3) := by decide +kernel
theorem dX1_piece2_17 : decode cX1_piece2 17 = .ok (.aload_n 0, 1) := by decide +kernel
theorem dX1_piece2_18 : decode cX1_piece2 18 = .ok (.getfield 51, 3) := by decide +kernel
theorem dX1_piece2_21 : decode cX1_piece2 21 = .ok (.ifCond .le 7, 3) := by decide +kernel
theorem dX1_piece2_24 : decode cX1_piece2 24 = .ok (.iconst 0, 1) := by decide +kernel
theorem dX1_piece2_25 : decode cX1_piece2 25 = .ok (.goto 19, 3) := by decide +kernel
theorem dX1_piece2_28 : decode cX1_piece2 28 = .ok (.bipush 60, 2) := by decide +kernel
theorem dX1_piece2_30 : decode cX1_piece2 30 = .ok (.aload_n 0, 1) := by decide +kernel
theorem dX1_piece2_31 : decode cX1_piece2 31 = .ok (.getfield 7, 3) := by decide +kernel
theorem dX1_piece2_34 : decode cX1_piece2 34 = .ok (.iload_n 1, 1) := by decide +kernel
theorem dX1_piece2_35 : decode cX1_piece2 35 = .ok (.iaload, 1) := by decide +kernel
theorem dX1_piece2_36 : decode cX1_piece2 36 = .ok (.imul, 1) := by decide +kernel
theorem dX1_piece2_37 : decode cX1_piece2 37 = .ok (.aload_n 0, 1) := by decide +kernel
theorem dX1_piece2_38 : decode cX1_piece2 38 = .ok (.getfield 13, 3) := by decide +kernel
theorem dX1_piece2_41 : decode cX1_piece2 41 = .ok (.iload_n 1, 1) := by decide +kernel
theorem dX1_piece2_42 : decode cX1_piece2 42 = .ok (.iaload, 1) := by decide +kernel
theorem dX1_piece2_43 : decode cX1_piece2 43 = .ok (.iadd, 1) := by decide +kernel
theorem dX1_piece2_44 : decode cX1_piece2 44 = .ok (.ireturn, 1) := by decide +kernel
set_option maxRecDepth 20000 in
theorem ggX1_turn_X1_isPiece : GoodIn wsX1_turn wsX1_isPiece := goodIn_r _ [9, 10, 11, 12, 13, 14, 15, 16, 17, 18, 19, 20, 21, 22, 23, 24, 25, 26, 27] (by decide +kernel) (by decide +kernel)
set_option maxRecDepth 20000 in
theorem gX1_turn_X1_isPiece : GoodIn wsX1_turn (wsV RX1 73 RX1 yX1_isPiece wsX1_isPiece) := goodIn_app (goodIn_of _ (by decide +kernel)) ggX1_turn_X1_isPiece
theorem dX1_turn_0 : decode cX1_turn 0 = .ok (.aload_n 0, 1) := by decide +kernel
theorem dX1_turn_1 : decode cX1_turn 1 = .ok (.iconst 0, 1) := by decide +kernel
theorem dX1_turn_2 : decode cX1_turn 2 = .ok (.putfield 51, 3) := by decide +kernel
theorem dX1_turn_5 : decode cX1_turn 5 = .ok (.aload_n 0, 1) := by decide +kernel
theorem dX1_turn_6 : decode cX1_turn 6 = .ok (.iload_n 1, 1) := by decide +kernel
theorem dX1_turn_7 : decode cX1_turn 7 = .ok (.invokevirtual 73, 3) := by decide +kernel
theorem dX1_turn_10 : decode cX1_turn 10 = .ok (.ifCond .eq 11, 3) := by decide +kernel
theorem dX1_turn_13 : decode cX1_turn 13 = .ok (.aload_n 0, 1) := by decide +kernel
theorem dX1_turn_14 : decode cX1_turn 14 = .ok (.iload_n 2, 1) := by decide +kernel
theorem dX1_turn_15 : decode cX1_turn 15 = .ok (.invokevirtual 73, 3) := by decide +kernel
theorem dX1_turn_18 : decode cX1_turn 18 = .ok (.ifCond .ne 6, 3) := by decide +kernel
theorem dX1_turn_21 : decode cX1_turn 21 = .ok (.bipush (-11), 2) := by decide +kernel
theorem dX1_turn_23 : decode cX1_turn 23 = .ok (.ireturn, 1) := by decide +kernel
theorem dX1_turn_24 : decode cX1_turn 24 = .ok (.aload_n 0, 1) := by decide +kernel
theorem dX1_turn_25 : decode cX1_turn 25 = .ok (.getfield 13, 3) := by decide +kernel
theorem dX1_turn_28 : decode cX1_turn 28 = .ok (.iload_n 1, 1) := by decide +kernel
theorem dX1_turn_29 : decode cX1_turn 29 = .ok (.iaload, 1) := by decide +kernel
theorem dX1_turn_30 : decode cX1_turn 30 = .ok (.aload_n 0, 1) := by decide +kernel
theorem dX1_turn_31 : decode cX1_turn 31 = .ok (.getfield 7, 3) := by decide +kernel
theorem dX1_turn_34 : decode cX1_turn 34 = .ok (.iload_n 2, 1) := by decide +kernel
theorem dX1_turn_35 : decode cX1_turn 35 = .ok (.iaload, 1) := by decide +kernel
theorem dX1_turn_36 : decode cX1_turn 36 = .ok (.if_icmp .eq 6, 3) := by decide +kernel
theorem dX1_turn_39 : decode cX1_turn 39 = .ok (.bipush (-13), 2) := by decide +kernel
theorem dX1_turn_41 : decode cX1_turn 41 = .ok (.ireturn, 1) := by decide +kernel
theorem dX1_turn_42 : decode cX1_turn 42 = .ok (.aload_n 0, 1) := by decide +kernel
theorem dX1_turn_43 : decode cX1_turn 43 = .ok (.getfield 29, 3) := by decide +kernel
theorem dX1_turn_46 : decode cX1_turn 46 = .ok (.bipush 120, 2) := by decide +kernel
theorem dX1_turn_48 : decode cX1_turn 48 = .ok (.iload_n 1, 1) := by decide +kernel
theorem dX1_turn_49 : decode cX1_turn 49 = .ok (.imul, 1) := by decide +kernel
theorem dX1_turn_50 : decode cX1_turn 50 = .ok (.iload_n 2, 1) := by decide +kernel
theorem dX1_turn_51 : decode cX1_turn 51 = .ok (.iadd, 1) := by decide +kernel
theorem dX1_turn_52 : decode cX1_turn 52 = .ok (.iload_n 3, 1) := by decide +kernel
theorem dX1_turn_53 : decode cX1_turn 53 = .ok (.bastore, 1) := by decide +kernel
theorem dX1_turn_54 : decode cX1_turn 54 = .ok (.iconst 0, 1) := by decide +kernel
theorem dX1_turn_55 : decode cX1_turn 55 = .ok (.istore 4, 2) := by decide +kernel
theorem dX1_turn_57 : decode cX1_turn 57 = .ok (.iconst 0, 1) := by decide +kernel
theorem dX1_turn_58 : decode cX1_turn 58 = .ok (.istore 5, 2) := by decide +kernel
theorem dX1_turn_60 : decode cX1_turn 60 = .ok (.iload 5, 2) := by decide +kernel
theorem dX1_turn_62 : decode cX1_turn 62 = .ok (.sipush 14400, 3) := by decide +kernel
theorem dX1_turn_65 : decode cX1_turn 65 = .ok (.if_icmp .ge 30, 3) := by decide +kernel
theorem dX1_turn_68 : decode cX1_turn 68 = .ok (.aload_n 0, 1) := by decide +kernel
theorem dX1_turn_69 : decode cX1_turn 69 = .ok (.getfield 29, 3) := by decide +kernel
theorem dX1_turn_72 : decode cX1_turn 72 = .ok (.iload 5, 2) := by decide +kernel
theorem dX1_turn_74 : decode cX1_turn 74 = .ok (.baload, 1) := by decide +kernel
theorem dX1_turn_75 : decode cX1_turn 75 = .ok (.ifCond .eq 10, 3) := by decide +kernel
theorem dX1_turn_78 : decode cX1_turn 78 = .ok (.iload 4, 2) := by decide +kernel
theorem dX1_turn_80 : decode cX1_turn 80 = .ok (.iconst 1, 1) := by decide +kernel
theorem dX1_turn_81 : decode cX1_turn 81 = .ok (.iadd, 1) := by decide +kernel
theorem dX1_turn_82 : decode cX1_turn 82 = .ok (.goto 5, 3) := by decide +kernel
theorem dX1_turn_85 : decode cX1_turn 85 = .ok (.iload 4, 2) := by decide +kernel
theorem dX1_turn_87 : decode cX1_turn 87 = .ok (.istore 4, 2) := by decide +kernel
theorem dX1_turn_89 : decode cX1_turn 89 = .ok (.iinc 5 1, 3) := by decide +kernel
theorem dX1_turn_92 : decode cX1_turn 92 = .ok (.goto (-32), 3) := by decide +kernel
theorem dX1_turn_95 : decode cX1_turn 95 = .ok (.iload 4, 2) := by decide +kernel
theorem dX1_turn_97 : decode cX1_turn 97 = .ok (.ireturn, 1) := by decide +kernel
set_option maxRecDepth 20000 in
theorem ggX1_stop_X1_isPiece : GoodIn wsX1_stop wsX1_isPiece := goodIn_r _ [11, 12, 16, 17, 18, 19, 20, 21, 22, 23, 24, 25, 26, 27, 28, 29, 30, 31, 32] (by decide +kernel) (by decide +kernel)
set_option maxRecDepth 20000 in
theorem gX1_stop_X1_isPiece : GoodIn wsX1_stop (wsV RX1 73 RX1 yX1_isPiece wsX1_isPiece) := goodIn_app (goodIn_of _ (by decide +kernel)) ggX1_stop_X1_isPiece
set_option maxRecDepth 20000 in
theorem ggX1_stop_X1_in : GoodIn wsX1_stop wsX1_in := goodIn_r _ [15] (by decide +kernel) (by decide +kernel)
set_option maxRecDepth 20000 in
theorem gX1_stop_X1_in : GoodIn wsX1_stop (va_wsS RX1 65 yX1_in wsX1_in) := goodIn_app (goodIn_of _ (by decide +kernel)) ggX1_stop_X1_in
theorem dX1_stop_0 : decode cX1_stop 0 = .ok (.aload_n 0, 1) := by decide +kernel
theorem dX1_stop_1 : decode cX1_stop 1 = .ok (.iconst 0, 1) := by decide +kernel
theorem dX1_stop_2 : decode cX1_stop 2 = .ok (.putfield 51, 3) := by decide +kernel
theorem dX1_stop_5 : decode cX1_stop 5 = .ok (.aload_n 0, 1) := by decide +kernel
theorem dX1_stop_6 : decode cX1_stop 6 = .ok (.iload_n 1, 1) := by decide +kernel
theorem dX1_stop_7 : decode cX1_stop 7 = .ok (.invokevirtual 73, 3) := by decide +kernel
theorem dX1_stop_10 : decode cX1_stop 10 = .ok (.ifCond .ne 6, 3) := by decide +kernel
theorem dX1_stop_13 : decode cX1_stop 13 = .ok (.bipush (-11), 2) := by decide +kernel
theorem dX1_stop_15 : decode cX1_stop 15 = .ok (.ireturn, 1) := by decide +kernel
theorem dX1_stop_16 : decode cX1_stop 16 = .ok (.iload_n 2, 1) := by decide +kernel
theorem dX1_stop_17 : decode cX1_stop 17 = .ok (.i2l, 1) := by decide +kernel
theorem dX1_stop_18 : decode cX1_stop 18 = .ok (.lconst 0, 1) := by decide +kernel
theorem dX1_stop_19 : decode cX1_stop 19 = .ok (.lconst 1, 1) := by decide +kernel
theorem dX1_stop_20 : decode cX1_stop 20 = .ok (.invokestatic 65, 3) := by decide +kernel
theorem dX1_stop_23 : decode cX1_stop 23 = .ok (.ifCond .eq 17, 3) := by decide +kernel
theorem dX1_stop_26 : decode cX1_stop 26 = .ok (.lload_n 3, 1) := by decide +kernel
theorem dX1_stop_27 : decode cX1_stop 27 = .ok (.lconst 0, 1) := by decide +kernel
theorem dX1_stop_28 : decode cX1_stop 28 = .ok (.aload_n 0, 1) := by decide +kernel
theorem dX1_stop_29 : decode cX1_stop 29 = .ok (.getfield 16, 3) := by decide +kernel
theorem dX1_stop_32 : decode cX1_stop 32 = .ok (.iload_n 1, 1) := by decide +kernel
theorem dX1_stop_33 : decode cX1_stop 33 = .ok (.laload, 1) := by decide +kernel
theorem dX1_stop_34 : decode cX1_stop 34 = .ok (.invokestatic 65, 3) := by decide +kernel
theorem dX1_stop_37 : decode cX1_stop 37 = .ok (.ifCond .ne 6, 3) := by decide +kernel
theorem dX1_stop_40 : decode cX1_stop 40 = .ok (.bipush (-12), 2) := by decide +kernel
theorem dX1_stop_42 : decode cX1_stop 42 = .ok (.ireturn, 1) := by decide +kernel
theorem dX1_stop_43 : decode cX1_stop 43 = .ok (.aload_n 0, 1) := by decide +kernel
theorem dX1_stop_44 : decode cX1_stop 44 = .ok (.getfield 58, 3) := by decide +kernel
theorem dX1_stop_47 : decode cX1_stop 47 = .ok (.bipush 100, 2) := by decide +kernel
theorem dX1_stop_49 : decode cX1_stop 49 = .ok (.if_icmp .ne 6, 3) := by decide +kernel
theorem dX1_stop_52 : decode cX1_stop 52 = .ok (.bipush (-14), 2) := by decide +kernel
theorem dX1_stop_54 : decode cX1_stop 54 = .ok (.ireturn, 1) := by decide +kernel
theorem dX1_stop_55 : decode cX1_stop 55 = .ok (.aload_n 0, 1) := by decide +kernel
theorem dX1_stop_56 : decode cX1_stop 56 = .ok (.getfield 33, 3) := by decide +kernel
theorem dX1_stop_59 : decode cX1_stop 59 = .ok (.aload_n 0, 1) := by decide +kernel
theorem dX1_stop_60 : decode cX1_stop 60 = .ok (.getfield 58, 3) := by decide +kernel
theorem dX1_stop_63 : decode cX1_stop 63 = .ok (.iload_n 1, 1) := by decide +kernel
theorem dX1_stop_64 : decode cX1_stop 64 = .ok (.iastore, 1) := by decide +kernel
theorem dX1_stop_65 : decode cX1_stop 65 = .ok (.aload_n 0, 1) := by decide +kernel
theorem dX1_stop_66 : decode cX1_stop 66 = .ok (.getfield 36, 3) := by decide +kernel
theorem dX1_stop_69 : decode cX1_stop 69 = .ok (.aload_n 0, 1) := by decide +kernel
theorem dX1_stop_70 : decode cX1_stop 70 = .ok (.getfield 58, 3) := by decide +kernel
theorem dX1_stop_73 : decode cX1_stop 73 = .ok (.iload_n 2, 1) := by decide +kernel
theorem dX1_stop_74 : decode cX1_stop 74 = .ok (.iastore, 1) := by decide +kernel
theorem dX1_stop_75 : decode cX1_stop 75 = .ok (.aload_n 0, 1) := by decide +kernel
theorem dX1_stop_76 : decode cX1_stop 76 = .ok (.getfield 39, 3) := by decide +kernel
theorem dX1_stop_79 : decode cX1_stop 79 = .ok (.aload_n 0, 1) := by decide +kernel
theorem dX1_stop_80 : decode cX1_stop 80 = .ok (.getfield 58, 3) := by decide +kernel
theorem dX1_stop_83 : decode cX1_stop 83 = .ok (.lload_n 3, 1) := by decide +kernel
theorem dX1_stop_84 : decode cX1_stop 84 = .ok (.lastore, 1) := by decide +kernel
theorem dX1_stop_85 : decode cX1_stop 85 = .ok (.aload_n 0, 1) := by decide +kernel
theorem dX1_stop_86 : decode cX1_stop 86 = .ok (.dup, 1) := by decide +kernel
theorem dX1_stop_87 : decode cX1_stop 87 = .ok (.getfield 58, 3) := by decide +kernel
theorem dX1_stop_90 : decode cX1_stop 90 = .ok (.iconst 1, 1) := by decide +kernel
theorem dX1_stop_91 : decode cX1_stop 91 = .ok (.iadd, 1) := by decide +kernel
theorem dX1_stop_92 : decode cX1_stop 92 = .ok (.putfield 58, 3) := by decide +kernel
theorem dX1_stop_95 : decode cX1_stop 95 = .ok (.aload_n 0, 1) := by decide +kernel
theorem dX1_stop_96 : decode cX1_stop 96 = .ok (.getfield 58, 3) := by decide +kernel
theorem dX1_stop_99 : decode cX1_stop 99 = .ok (.iconst 1, 1) := by decide +kernel
theorem dX1_stop_100 : decode cX1_stop 100 = .ok (.isub, 1) := by decide +kernel
theorem dX1_stop_101 : decode cX1_stop 101 = .ok (.ireturn, 1) := by decide +kernel
set_option maxRecDepth 20000 in
theorem ggX1_gate_X1_isPiece : GoodIn wsX1_gate wsX1_isPiece := goodIn_r _ [9, 10, 11, 12, 13, 14, 15, 16, 17, 18, 19, 20, 21, 22, 23, 24, 25, 26, 27] (by decide +kernel) (by decide +kernel)
set_option maxRecDepth 20000 in
theorem gX1_gate_X1_isPiece : GoodIn wsX1_gate (wsV RX1 73 RX1 yX1_isPiece wsX1_isPiece) := goodIn_app (goodIn_of _ (by decide +kernel)) ggX1_gate_X1_isPiece
theorem dX1_gate_0 : decode cX1_gate 0 = .ok (.aload_n 0, 1) := by decide +kernel
theorem dX1_gate_1 : decode cX1_gate 1 = .ok (.iconst 0, 1) := by decide +kernel
theorem dX1_gate_2 : decode cX1_gate 2 = .ok (.putfield 51, 3) := by decide +kernel
theorem dX1_gate_5 : decode cX1_gate 5 = .ok (.aload_n 0, 1) := by decide +kernel
theorem dX1_gate_6 : decode cX1_gate 6 = .ok (.iload_n 1, 1) := by decide +kernel
theorem dX1_gate_7 : decode cX1_gate 7 = .ok (.invokevirtual 73, 3) := by decide +kernel
theorem dX1_gate_10 : decode cX1_gate 10 = .ok (.ifCond .ne 6, 3) := by decide +kernel
theorem dX1_gate_13 : decode cX1_gate 13 = .ok (.bipush (-11), 2) := by decide +kernel
theorem dX1_gate_15 : decode cX1_gate 15 = .ok (.ireturn, 1) := by decide +kernel
theorem dX1_gate_16 : decode cX1_gate 16 = .ok (.lload_n 2, 1) := by decide +kernel
theorem dX1_gate_17 : decode cX1_gate 17 = .ok (.lconst 0, 1) := by decide +kernel
theorem dX1_gate_18 : decode cX1_gate 18 = .ok (.lcmp, 1) := by decide +kernel
theorem dX1_gate_19 : decode cX1_gate 19 = .ok (.ifCond .ne 14, 3) := by decide +kernel
theorem dX1_gate_22 : decode cX1_gate 22 = .ok (.lload 4, 2) := by decide +kernel
theorem dX1_gate_24 : decode cX1_gate 24 = .ok (.lconst 0, 1) := by decide +kernel
theorem dX1_gate_25 : decode cX1_gate 25 = .ok (.lcmp, 1) := by decide +kernel
theorem dX1_gate_26 : decode cX1_gate 26 = .ok (.ifCond .ne 7, 3) := by decide +kernel
theorem dX1_gate_29 : decode cX1_gate 29 = .ok (.iconst 1, 1) := by decide +kernel
theorem dX1_gate_30 : decode cX1_gate 30 = .ok (.goto 4, 3) := by decide +kernel
theorem dX1_gate_33 : decode cX1_gate 33 = .ok (.iconst 0, 1) := by decide +kernel
theorem dX1_gate_34 : decode cX1_gate 34 = .ok (.istore 6, 2) := by decide +kernel
theorem dX1_gate_36 : decode cX1_gate 36 = .ok (.iload 6, 2) := by decide +kernel
theorem dX1_gate_38 : decode cX1_gate 38 = .ok (.ifCond .ne 28, 3) := by decide +kernel
theorem dX1_gate_41 : decode cX1_gate 41 = .ok (.lload_n 2, 1) := by decide +kernel
theorem dX1_gate_42 : decode cX1_gate 42 = .ok (.lconst 0, 1) := by decide +kernel
theorem dX1_gate_43 : decode cX1_gate 43 = .ok (.lcmp, 1) := by decide +kernel
theorem dX1_gate_44 : decode cX1_gate 44 = .ok (.ifCond .lt 19, 3) := by decide +kernel
theorem dX1_gate_47 : decode cX1_gate 47 = .ok (.lload_n 2, 1) := by decide +kernel
theorem dX1_gate_48 : decode cX1_gate 48 = .ok (.lload 4, 2) := by decide +kernel
theorem dX1_gate_50 : decode cX1_gate 50 = .ok (.lcmp, 1) := by decide +kernel
theorem dX1_gate_51 : decode cX1_gate 51 = .ok (.ifCond .ge 12, 3) := by decide +kernel
theorem dX1_gate_54 : decode cX1_gate 54 = .ok (.lload 4, 2) := by decide +kernel
theorem dX1_gate_56 : decode cX1_gate 56 = .ok (.ldc2_w 77, 3) := by decide +kernel
theorem dX1_gate_59 : decode cX1_gate 59 = .ok (.lcmp, 1) := by decide +kernel
theorem dX1_gate_60 : decode cX1_gate 60 = .ok (.ifCond .le 6, 3) := by decide +kernel
theorem dX1_gate_63 : decode cX1_gate 63 = .ok (.bipush (-12), 2) := by decide +kernel
theorem dX1_gate_65 : decode cX1_gate 65 = .ok (.ireturn, 1) := by decide +kernel
theorem dX1_gate_66 : decode cX1_gate 66 = .ok (.aload_n 0, 1) := by decide +kernel
theorem dX1_gate_67 : decode cX1_gate 67 = .ok (.getfield 23, 3) := by decide +kernel
theorem dX1_gate_70 : decode cX1_gate 70 = .ok (.iload_n 1, 1) := by decide +kernel
theorem dX1_gate_71 : decode cX1_gate 71 = .ok (.lload_n 2, 1) := by decide +kernel
theorem dX1_gate_72 : decode cX1_gate 72 = .ok (.lastore, 1) := by decide +kernel
theorem dX1_gate_73 : decode cX1_gate 73 = .ok (.aload_n 0, 1) := by decide +kernel
theorem dX1_gate_74 : decode cX1_gate 74 = .ok (.getfield 26, 3) := by decide +kernel
theorem dX1_gate_77 : decode cX1_gate 77 = .ok (.iload_n 1, 1) := by decide +kernel
theorem dX1_gate_78 : decode cX1_gate 78 = .ok (.lload 4, 2) := by decide +kernel
theorem dX1_gate_80 : decode cX1_gate 80 = .ok (.lastore, 1) := by decide +kernel
theorem dX1_gate_81 : decode cX1_gate 81 = .ok (.iload 6, 2) := by decide +kernel
theorem dX1_gate_83 : decode cX1_gate 83 = .ok (.ifCond .eq 7, 3) := by decide +kernel
theorem dX1_gate_86 : decode cX1_gate 86 = .ok (.iconst 0, 1) := by decide +kernel
theorem dX1_gate_87 : decode cX1_gate 87 = .ok (.goto 4, 3) := by decide +kernel
theorem dX1_gate_90 : decode cX1_gate 90 = .ok (.iconst 1, 1) := by decide +kernel
theorem dX1_gate_91 : decode cX1_gate 91 = .ok (.ireturn, 1) := by decide +kernel
set_option maxRecDepth 20000 in
theorem ggX1_change_X1_isPiece : GoodIn wsX1_change wsX1_isPiece := goodIn_r _ [8, 9, 13, 14, 15, 16, 17, 18, 19, 20, 21, 22, 23, 24, 25, 26, 27, 28, 29] (by decide +kernel) (by decide +kernel)
set_option maxRecDepth 20000 in
theorem gX1_change_X1_isPiece : GoodIn wsX1_change (wsV RX1 73 RX1 yX1_isPiece wsX1_isPiece) := goodIn_app (goodIn_of _ (by decide +kernel)) ggX1_change_X1_isPiece
set_option maxRecDepth 20000 in
theorem ggX1_change_X1_in : GoodIn wsX1_change wsX1_in := goodIn_r _ [12] (by decide +kernel) (by decide +kernel)
set_option maxRecDepth 20000 in
theorem gX1_change_X1_in : GoodIn wsX1_change (va_wsS RX1 65 yX1_in wsX1_in) := goodIn_app (goodIn_of _ (by decide +kernel)) ggX1_change_X1_in
theorem dX1_change_0 : decode cX1_change 0 = .ok (.aload_n 0, 1) := by decide +kernel
theorem dX1_change_1 : decode cX1_change 1 = .ok (.iconst 0, 1) := by decide +kernel
theorem dX1_change_2 : decode cX1_change 2 = .ok (.putfield 51, 3) := by decide +kernel
theorem dX1_change_5 : decode cX1_change 5 = .ok (.aload_n 0, 1) := by decide +kernel
theorem dX1_change_6 : decode cX1_change 6 = .ok (.iload_n 1, 1) := by decide +kernel
theorem dX1_change_7 : decode cX1_change 7 = .ok (.invokevirtual 73, 3) := by decide +kernel
theorem dX1_change_10 : decode cX1_change 10 = .ok (.ifCond .ne 6, 3) := by decide +kernel
theorem dX1_change_13 : decode cX1_change 13 = .ok (.bipush (-11), 2) := by decide +kernel
theorem dX1_change_15 : decode cX1_change 15 = .ok (.ireturn, 1) := by decide +kernel
theorem dX1_change_16 : decode cX1_change 16 = .ok (.lload_n 2, 1) := by decide +kernel
theorem dX1_change_17 : decode cX1_change 17 = .ok (.lconst 1, 1) := by decide +kernel
theorem dX1_change_18 : decode cX1_change 18 = .ok (.ldc2_w 71, 3) := by decide +kernel
theorem dX1_change_21 : decode cX1_change 21 = .ok (.invokestatic 65, 3) := by decide +kernel
theorem dX1_change_24 : decode cX1_change 24 = .ok (.ifCond .ne 6, 3) := by decide +kernel
theorem dX1_change_27 : decode cX1_change 27 = .ok (.bipush (-12), 2) := by decide +kernel
theorem dX1_change_29 : decode cX1_change 29 = .ok (.ireturn, 1) := by decide +kernel
theorem dX1_change_30 : decode cX1_change 30 = .ok (.aload_n 0, 1) := by decide +kernel
theorem dX1_change_31 : decode cX1_change 31 = .ok (.getfield 20, 3) := by decide +kernel
theorem dX1_change_34 : decode cX1_change 34 = .ok (.iload_n 1, 1) := by decide +kernel
theorem dX1_change_35 : decode cX1_change 35 = .ok (.laload, 1) := by decide +kernel
theorem dX1_change_36 : decode cX1_change 36 = .ok (.l2i, 1) := by decide +kernel
theorem dX1_change_37 : decode cX1_change 37 = .ok (.istore 4, 2) := by decide +kernel
theorem dX1_change_39 : decode cX1_change 39 = .ok (.aload_n 0, 1) := by decide +kernel
theorem dX1_change_40 : decode cX1_change 40 = .ok (.getfield 20, 3) := by decide +kernel
theorem dX1_change_43 : decode cX1_change 43 = .ok (.iload_n 1, 1) := by decide +kernel
theorem dX1_change_44 : decode cX1_change 44 = .ok (.lload_n 2, 1) := by decide +kernel
theorem dX1_change_45 : decode cX1_change 45 = .ok (.lastore, 1) := by decide +kernel
theorem dX1_change_46 : decode cX1_change 46 = .ok (.iload 4, 2) := by decide +kernel
theorem dX1_change_48 : decode cX1_change 48 = .ok (.ireturn, 1) := by decide +kernel
theorem dX1_leads_0 : decode cX1_leads 0 = .ok (.aload_n 0, 1) := by decide +kernel
theorem dX1_leads_1 : decode cX1_leads 1 = .ok (.getfield 13, 3) := by decide +kernel
theorem dX1_leads_4 : decode cX1_leads 4 = .ok (.iload_n 1, 1) := by decide +kernel
theorem dX1_leads_5 : decode cX1_leads 5 = .ok (.iaload, 1) := by decide +kernel
theorem dX1_leads_6 : decode cX1_leads 6 = .ok (.aload_n 0, 1) := by decide +kernel
theorem dX1_leads_7 : decode cX1_leads 7 = .ok (.getfield 7, 3) := by decide +kernel
theorem dX1_leads_10 : decode cX1_leads 10 = .ok (.iload_n 2, 1) := by decide +kernel
theorem dX1_leads_11 : decode cX1_leads 11 = .ok (.iaload, 1) := by decide +kernel
theorem dX1_leads_12 : decode cX1_leads 12 = .ok (.if_icmp .ne 21, 3) := by decide +kernel
theorem dX1_leads_15 : decode cX1_leads 15 = .ok (.aload_n 0, 1) := by decide +kernel
theorem dX1_leads_16 : decode cX1_leads 16 = .ok (.getfield 29, 3) := by decide +kernel
theorem dX1_leads_19 : decode cX1_leads 19 = .ok (.bipush 120, 2) := by decide +kernel
theorem dX1_leads_21 : decode cX1_leads 21 = .ok (.iload_n 1, 1) := by decide +kernel
theorem dX1_leads_22 : decode cX1_leads 22 = .ok (.imul, 1) := by decide +kernel
theorem dX1_leads_23 : decode cX1_leads 23 = .ok (.iload_n 2, 1) := by decide +kernel
theorem dX1_leads_24 : decode cX1_leads 24 = .ok (.iadd, 1) := by decide +kernel
theorem dX1_leads_25 : decode cX1_leads 25 = .ok (.baload, 1) := by decide +kernel
theorem dX1_leads_26 : decode cX1_leads 26 = .ok (.ifCond .ne 7, 3) := by decide +kernel
theorem dX1_leads_29 : decode cX1_leads 29 = .ok (.iconst 1, 1) := by decide +kernel
theorem dX1_leads_30 : decode cX1_leads 30 = .ok (.goto 4, 3) := by decide +kernel
theorem dX1_leads_33 : decode cX1_leads 33 = .ok (.iconst 0, 1) := by decide +kernel
theorem dX1_leads_34 : decode cX1_leads 34 = .ok (.ireturn, 1) := by decide +kernel
theorem dX1_entry_0 : decode cX1_entry 0 = .ok (.aload_n 0, 1) := by decide +kernel
theorem dX1_entry_1 : decode cX1_entry 1 = .ok (.getfield 26, 3) := by decide +kernel
theorem dX1_entry_4 : decode cX1_entry 4 = .ok (.iload_n 1, 1) := by decide +kernel
theorem dX1_entry_5 : decode cX1_entry 5 = .ok (.laload, 1) := by decide +kernel
theorem dX1_entry_6 : decode cX1_entry 6 = .ok (.lconst 0, 1) := by decide +kernel
theorem dX1_entry_7 : decode cX1_entry 7 = .ok (.lcmp, 1) := by decide +kernel
theorem dX1_entry_8 : decode cX1_entry 8 = .ok (.ifCond .ne 5, 3) := by decide +kernel
theorem dX1_entry_11 : decode cX1_entry 11 = .ok (.lload_n 2, 1) := by decide +kernel
theorem dX1_entry_12 : decode cX1_entry 12 = .ok (.lreturn, 1) := by decide +kernel
theorem dX1_entry_13 : decode cX1_entry 13 = .ok (.lload_n 2, 1) := by decide +kernel
theorem dX1_entry_14 : decode cX1_entry 14 = .ok (.lload_n 2, 1) := by decide +kernel
theorem dX1_entry_15 : decode cX1_entry 15 = .ok (.ldc2_w 77, 3) := by decide +kernel
theorem dX1_entry_18 : decode cX1_entry 18 = .ok (.lrem, 1) := by decide +kernel
theorem dX1_entry_19 : decode cX1_entry 19 = .ok (.lsub, 1) := by decide +kernel
theorem dX1_entry_20 : decode cX1_entry 20 = .ok (.lstore 4, 2) := by decide +kernel
theorem dX1_entry_22 : decode cX1_entry 22 = .ok (.lload_n 2, 1) := by decide +kernel
theorem dX1_entry_23 : decode cX1_entry 23 = .ok (.lload 4, 2) := by decide +kernel
theorem dX1_entry_25 : decode cX1_entry 25 = .ok (.aload_n 0, 1) := by decide +kernel
theorem dX1_entry_26 : decode cX1_entry 26 = .ok (.getfield 23, 3) := by decide +kernel
theorem dX1_entry_29 : decode cX1_entry 29 = .ok (.iload_n 1, 1) := by decide +kernel
theorem dX1_entry_30 : decode cX1_entry 30 = .ok (.laload, 1) := by decide +kernel
theorem dX1_entry_31 : decode cX1_entry 31 = .ok (.ladd, 1) := by decide +kernel
theorem dX1_entry_32 : decode cX1_entry 32 = .ok (.lcmp, 1) := by decide +kernel
theorem dX1_entry_33 : decode cX1_entry 33 = .ok (.ifCond .ge 13, 3) := by decide +kernel
theorem dX1_entry_36 : decode cX1_entry 36 = .ok (.lload 4, 2) := by decide +kernel
theorem dX1_entry_38 : decode cX1_entry 38 = .ok (.aload_n 0, 1) := by decide +kernel
theorem dX1_entry_39 : decode cX1_entry 39 = .ok (.getfield 23, 3) := by decide +kernel
theorem dX1_entry_42 : decode cX1_entry 42 = .ok (.iload_n 1, 1) := by decide +kernel
theorem dX1_entry_43 : decode cX1_entry 43 = .ok (.laload, 1) := by decide +kernel
theorem dX1_entry_44 : decode cX1_entry 44 = .ok (.ladd, 1) := by decide +kernel
theorem dX1_entry_45 : decode cX1_entry 45 = .ok (.lreturn, 1) := by decide +kernel
theorem dX1_entry_46 : decode cX1_entry 46 = .ok (.lload_n 2, 1) := by decide +kernel
theorem dX1_entry_47 : decode cX1_entry 47 = .ok (.lload 4, 2) := by decide +kernel
theorem dX1_entry_49 : decode cX1_entry 49 = .ok (.aload_n 0, 1) := by decide +kernel
theorem dX1_entry_50 : decode cX1_entry 50 = .ok (.getfield 26, 3) := by decide +kernel
theorem dX1_entry_53 : decode cX1_entry 53 = .ok (.iload_n 1, 1) := by decide +kernel
theorem dX1_entry_54 : decode cX1_entry 54 = .ok (.laload, 1) := by decide +kernel
theorem dX1_entry_55 : decode cX1_entry 55 = .ok (.ladd, 1) := by decide +kernel
theorem dX1_entry_56 : decode cX1_entry 56 = .ok (.lcmp, 1) := by decide +kernel
theorem dX1_entry_57 : decode cX1_entry 57 = .ok (.ifCond .ge 7, 3) := by decide +kernel
theorem dX1_entry_60 : decode cX1_entry 60 = .ok (.lload_n 2, 1) := by decide +kernel
theorem dX1_entry_61 : decode cX1_entry 61 = .ok (.goto 16, 3) := by decide +kernel
theorem dX1_entry_64 : decode cX1_entry 64 = .ok (.lload 4, 2) := by decide +kernel
theorem dX1_entry_66 : decode cX1_entry 66 = .ok (.ldc2_w 77, 3) := by decide +kernel
theorem dX1_entry_69 : decode cX1_entry 69 = .ok (.ladd, 1) := by decide +kernel
theorem dX1_entry_70 : decode cX1_entry 70 = .ok (.aload_n 0, 1) := by decide +kernel
theorem dX1_entry_71 : decode cX1_entry 71 = .ok (.getfield 23, 3) := by decide +kernel
theorem dX1_entry_74 : decode cX1_entry 74 = .ok (.iload_n 1, 1) := by decide +kernel
theorem dX1_entry_75 : decode cX1_entry 75 = .ok (.laload, 1) := by decide +kernel
theorem dX1_entry_76 : decode cX1_entry 76 = .ok (.ladd, 1) := by decide +kernel
theorem dX1_entry_77 : decode cX1_entry 77 = .ok (.lreturn, 1) := by decide +kernel
theorem dX1_crossing_0 : decode cX1_crossing 0 = .ok (.aload_n 0, 1) := by decide +kernel
theorem dX1_crossing_1 : decode cX1_crossing 1 = .ok (.getfield 36, 3) := by decide +kernel
theorem dX1_crossing_4 : decode cX1_crossing 4 = .ok (.iload_n 1, 1) := by decide +kernel
theorem dX1_crossing_5 : decode cX1_crossing 5 = .ok (.iaload, 1) := by decide +kernel
theorem dX1_crossing_6 : decode cX1_crossing 6 = .ok (.iconst 1, 1) := by decide +kernel
theorem dX1_crossing_7 : decode cX1_crossing 7 = .ok (.if_icmp .ne 9, 3) := by decide +kernel
theorem dX1_crossing_10 : decode cX1_crossing 10 = .ok (.ldc2_w 79, 3) := by decide +kernel
theorem dX1_crossing_13 : decode cX1_crossing 13 = .ok (.goto 4, 3) := by decide +kernel
theorem dX1_crossing_16 : decode cX1_crossing 16 = .ok (.lconst 0, 1) := by decide +kernel
theorem dX1_crossing_17 : decode cX1_crossing 17 = .ok (.lreturn, 1) := by decide +kernel
set_option maxRecDepth 20000 in
theorem ggX1_rest_X1_crossing : GoodIn wsX1_rest wsX1_crossing := goodIn_r _ [8, 9, 10, 17, 18, 19, 20, 21, 22, 23, 24, 25, 26, 27, 28, 29, 30, 31, 32, 33] (by decide +kernel) (by decide +kernel)
set_option maxRecDepth 20000 in
theorem gX1_rest_X1_crossing : GoodIn wsX1_rest (wsV RX1 81 RX1 yX1_crossing wsX1_crossing) := goodIn_app (goodIn_of _ (by decide +kernel)) ggX1_rest_X1_crossing
set_option maxRecDepth 20000 in
theorem ggX1_rest_X1_seconds : GoodIn wsX1_rest wsX1_seconds := goodIn_r _ [14, 15, 16, 17, 18, 19, 20, 21, 22, 23, 24, 25, 26, 27, 28, 29, 30, 31, 32, 33] (by decide +kernel) (by decide +kernel)
set_option maxRecDepth 20000 in
theorem gX1_rest_X1_seconds : GoodIn wsX1_rest (wsV RX1 85 RX1 yX1_seconds wsX1_seconds) := goodIn_app (goodIn_of _ (by decide +kernel)) ggX1_rest_X1_seconds
theorem dX1_rest_0 : decode cX1_rest 0 = .ok (.lload_n 2, 1) := by decide +kernel
theorem dX1_rest_1 : decode cX1_rest 1 = .ok (.aload_n 0, 1) := by decide +kernel
theorem dX1_rest_2 : decode cX1_rest 2 = .ok (.iload_n 1, 1) := by decide +kernel
theorem dX1_rest_3 : decode cX1_rest 3 = .ok (.invokevirtual 81, 3) := by decide +kernel
theorem dX1_rest_6 : decode cX1_rest 6 = .ok (.ladd, 1) := by decide +kernel
theorem dX1_rest_7 : decode cX1_rest 7 = .ok (.aload_n 0, 1) := by decide +kernel
theorem dX1_rest_8 : decode cX1_rest 8 = .ok (.aload_n 0, 1) := by decide +kernel
theorem dX1_rest_9 : decode cX1_rest 9 = .ok (.getfield 33, 3) := by decide +kernel
theorem dX1_rest_12 : decode cX1_rest 12 = .ok (.iload_n 1, 1) := by decide +kernel
theorem dX1_rest_13 : decode cX1_rest 13 = .ok (.iaload, 1) := by decide +kernel
theorem dX1_rest_14 : decode cX1_rest 14 = .ok (.aload_n 0, 1) := by decide +kernel
theorem dX1_rest_15 : decode cX1_rest 15 = .ok (.getfield 16, 3) := by decide +kernel
theorem dX1_rest_18 : decode cX1_rest 18 = .ok (.aload_n 0, 1) := by decide +kernel
theorem dX1_rest_19 : decode cX1_rest 19 = .ok (.getfield 33, 3) := by decide +kernel
theorem dX1_rest_22 : decode cX1_rest 22 = .ok (.iload_n 1, 1) := by decide +kernel
theorem dX1_rest_23 : decode cX1_rest 23 = .ok (.iaload, 1) := by decide +kernel
theorem dX1_rest_24 : decode cX1_rest 24 = .ok (.laload, 1) := by decide +kernel
theorem dX1_rest_25 : decode cX1_rest 25 = .ok (.aload_n 0, 1) := by decide +kernel
theorem dX1_rest_26 : decode cX1_rest 26 = .ok (.getfield 39, 3) := by decide +kernel
theorem dX1_rest_29 : decode cX1_rest 29 = .ok (.iload_n 1, 1) := by decide +kernel
theorem dX1_rest_30 : decode cX1_rest 30 = .ok (.laload, 1) := by decide +kernel
theorem dX1_rest_31 : decode cX1_rest 31 = .ok (.lsub, 1) := by decide +kernel
theorem dX1_rest_32 : decode cX1_rest 32 = .ok (.invokevirtual 85, 3) := by decide +kernel
theorem dX1_rest_35 : decode cX1_rest 35 = .ok (.ladd, 1) := by decide +kernel
theorem dX1_rest_36 : decode cX1_rest 36 = .ok (.lreturn, 1) := by decide +kernel
set_option maxRecDepth 20000 in
theorem ggX1_reach_X1_rest : GoodIn wsX1_reach wsX1_rest := goodIn_r _ [11, 4, 6, 12, 13, 14, 15, 10, 16, 17, 18, 19, 20, 21, 22, 23, 24, 39, 40, 41, 42, 43, 44, 45, 46, 47, 48, 49, 50, 51, 52, 53, 54, 55] (by decide +kernel) (by decide +kernel)
set_option maxRecDepth 20000 in
theorem gX1_reach_X1_rest : GoodIn wsX1_reach (wsV RX1 91 RX1 yX1_rest wsX1_rest) := goodIn_app (goodIn_of _ (by decide +kernel)) ggX1_reach_X1_rest
set_option maxRecDepth 20000 in
theorem ggX1_reach_X1_leads : GoodIn wsX1_reach wsX1_leads := goodIn_r _ [28, 29, 30, 31, 39, 40, 41, 42, 43, 44, 45, 46, 47, 48, 49, 50, 51, 52, 53, 54, 55] (by decide +kernel) (by decide +kernel)
set_option maxRecDepth 20000 in
theorem gX1_reach_X1_leads : GoodIn wsX1_reach (wsV RX1 94 RX1 yX1_leads wsX1_leads) := goodIn_app (goodIn_of _ (by decide +kernel)) ggX1_reach_X1_leads
set_option maxRecDepth 20000 in
theorem ggX1_reach_X1_entry : GoodIn wsX1_reach wsX1_entry := goodIn_r _ [35, 36, 37, 38, 39, 40, 41, 42, 43, 44, 45, 46, 47, 48, 49, 50, 51, 52, 53, 54, 55] (by decide +kernel) (by decide +kernel)
set_option maxRecDepth 20000 in
theorem gX1_reach_X1_entry : GoodIn wsX1_reach (wsV RX1 98 RX1 yX1_entry wsX1_entry) := goodIn_app (goodIn_of _ (by decide +kernel)) ggX1_reach_X1_entry
set_option maxRecDepth 20000 in
theorem ggX1_reach_X1_seconds : GoodIn wsX1_reach wsX1_seconds := goodIn_r _ [22, 23, 24, 39, 40, 41, 42, 43, 44, 45, 46, 47, 48, 49, 50, 51, 52, 53, 54, 55] (by decide +kernel) (by decide +kernel)
set_option maxRecDepth 20000 in
theorem gX1_reach_X1_seconds : GoodIn wsX1_reach (wsV RX1 85 RX1 yX1_seconds wsX1_seconds) := goodIn_app (goodIn_of _ (by decide +kernel)) ggX1_reach_X1_seconds
theorem dX1_reach_0 : decode cX1_reach 0 = .ok (.iconst 0, 1) := by decide +kernel
theorem dX1_reach_1 : decode cX1_reach 1 = .ok (.istore 4, 2) := by decide +kernel
theorem dX1_reach_3 : decode cX1_reach 3 = .ok (.iload 4, 2) := by decide +kernel
theorem dX1_reach_5 : decode cX1_reach 5 = .ok (.bipush 120, 2) := by decide +kernel
theorem dX1_reach_7 : decode cX1_reach 7 = .ok (.if_icmp .ge 29, 3) := by decide +kernel
theorem dX1_reach_10 : decode cX1_reach 10 = .ok (.aload_n 0, 1) := by decide +kernel
theorem dX1_reach_11 : decode cX1_reach 11 = .ok (.getfield 42, 3) := by decide +kernel
theorem dX1_reach_14 : decode cX1_reach 14 = .ok (.iload 4, 2) := by decide +kernel
theorem dX1_reach_16 : decode cX1_reach 16 = .ok (.ldc2_w 89, 3) := by decide +kernel
theorem dX1_reach_19 : decode cX1_reach 19 = .ok (.lastore, 1) := by decide +kernel
theorem dX1_reach_20 : decode cX1_reach 20 = .ok (.aload_n 0, 1) := by decide +kernel
theorem dX1_reach_21 : decode cX1_reach 21 = .ok (.getfield 45, 3) := by decide +kernel
theorem dX1_reach_24 : decode cX1_reach 24 = .ok (.iload 4, 2) := by decide +kernel
theorem dX1_reach_26 : decode cX1_reach 26 = .ok (.ldc2_w 89, 3) := by decide +kernel
theorem dX1_reach_29 : decode cX1_reach 29 = .ok (.lastore, 1) := by decide +kernel
theorem dX1_reach_30 : decode cX1_reach 30 = .ok (.iinc 4 1, 3) := by decide +kernel
theorem dX1_reach_33 : decode cX1_reach 33 = .ok (.goto (-30), 3) := by decide +kernel
theorem dX1_reach_36 : decode cX1_reach 36 = .ok (.aload_n 0, 1) := by decide +kernel
theorem dX1_reach_37 : decode cX1_reach 37 = .ok (.getfield 45, 3) := by decide +kernel
theorem dX1_reach_40 : decode cX1_reach 40 = .ok (.aload_n 0, 1) := by decide +kernel
theorem dX1_reach_41 : decode cX1_reach 41 = .ok (.getfield 33, 3) := by decide +kernel
theorem dX1_reach_44 : decode cX1_reach 44 = .ok (.iload_n 1, 1) := by decide +kernel
theorem dX1_reach_45 : decode cX1_reach 45 = .ok (.iaload, 1) := by decide +kernel
theorem dX1_reach_46 : decode cX1_reach 46 = .ok (.aload_n 0, 1) := by decide +kernel
theorem dX1_reach_47 : decode cX1_reach 47 = .ok (.iload_n 1, 1) := by decide +kernel
theorem dX1_reach_48 : decode cX1_reach 48 = .ok (.lload_n 2, 1) := by decide +kernel
theorem dX1_reach_49 : decode cX1_reach 49 = .ok (.invokevirtual 91, 3) := by decide +kernel
end
section
theorem dX1_reach_52 : decode cX1_reach 52 = .ok (.lastore, 1) := by decide +kernel
theorem dX1_reach_53 : decode cX1_reach 53 = .ok (.iconst 1, 1) := by decide +kernel
theorem dX1_reach_54 : decode cX1_reach 54 = .ok (.istore 4, 2) := by decide +kernel
theorem dX1_reach_56 : decode cX1_reach 56 = .ok (.iload 4, 2) := by decide +kernel
theorem dX1_reach_58 : decode cX1_reach 58 = .ok (.ifCond .eq 166, 3) := by decide +kernel
theorem dX1_reach_61 : decode cX1_reach 61 = .ok (.iconst 0, 1) := by decide +kernel
theorem dX1_reach_62 : decode cX1_reach 62 = .ok (.istore 4, 2) := by decide +kernel
theorem dX1_reach_64 : decode cX1_reach 64 = .ok (.iconst 0, 1) := by decide +kernel
theorem dX1_reach_65 : decode cX1_reach 65 = .ok (.istore 5, 2) := by decide +kernel
theorem dX1_reach_67 : decode cX1_reach 67 = .ok (.iload 5, 2) := by decide +kernel
theorem dX1_reach_69 : decode cX1_reach 69 = .ok (.aload_n 0, 1) := by decide +kernel
theorem dX1_reach_70 : decode cX1_reach 70 = .ok (.getfield 55, 3) := by decide +kernel
theorem dX1_reach_73 : decode cX1_reach 73 = .ok (.if_icmp .ge 148, 3) := by decide +kernel
theorem dX1_reach_76 : decode cX1_reach 76 = .ok (.iconst 0, 1) := by decide +kernel
theorem dX1_reach_77 : decode cX1_reach 77 = .ok (.istore 6, 2) := by decide +kernel
theorem dX1_reach_79 : decode cX1_reach 79 = .ok (.iload 6, 2) := by decide +kernel
theorem dX1_reach_81 : decode cX1_reach 81 = .ok (.aload_n 0, 1) := by decide +kernel
theorem dX1_reach_82 : decode cX1_reach 82 = .ok (.getfield 55, 3) := by decide +kernel
theorem dX1_reach_85 : decode cX1_reach 85 = .ok (.if_icmp .ge 130, 3) := by decide +kernel
theorem dX1_reach_88 : decode cX1_reach 88 = .ok (.aload_n 0, 1) := by decide +kernel
theorem dX1_reach_89 : decode cX1_reach 89 = .ok (.getfield 45, 3) := by decide +kernel
theorem dX1_reach_92 : decode cX1_reach 92 = .ok (.iload 5, 2) := by decide +kernel
theorem dX1_reach_94 : decode cX1_reach 94 = .ok (.laload, 1) := by decide +kernel
theorem dX1_reach_95 : decode cX1_reach 95 = .ok (.ldc2_w 89, 3) := by decide +kernel
theorem dX1_reach_98 : decode cX1_reach 98 = .ok (.lcmp, 1) := by decide +kernel
theorem dX1_reach_99 : decode cX1_reach 99 = .ok (.ifCond .ge 116, 3) := by decide +kernel
theorem dX1_reach_102 : decode cX1_reach 102 = .ok (.aload_n 0, 1) := by decide +kernel
theorem dX1_reach_103 : decode cX1_reach 103 = .ok (.iload 5, 2) := by decide +kernel
theorem dX1_reach_105 : decode cX1_reach 105 = .ok (.iload 6, 2) := by decide +kernel
theorem dX1_reach_107 : decode cX1_reach 107 = .ok (.invokevirtual 94, 3) := by decide +kernel
theorem dX1_reach_110 : decode cX1_reach 110 = .ok (.ifCond .eq 19, 3) := by decide +kernel
theorem dX1_reach_113 : decode cX1_reach 113 = .ok (.aload_n 0, 1) := by decide +kernel
theorem dX1_reach_114 : decode cX1_reach 114 = .ok (.iload 6, 2) := by decide +kernel
theorem dX1_reach_116 : decode cX1_reach 116 = .ok (.aload_n 0, 1) := by decide +kernel
theorem dX1_reach_117 : decode cX1_reach 117 = .ok (.getfield 45, 3) := by decide +kernel
theorem dX1_reach_120 : decode cX1_reach 120 = .ok (.iload 5, 2) := by decide +kernel
theorem dX1_reach_122 : decode cX1_reach 122 = .ok (.laload, 1) := by decide +kernel
theorem dX1_reach_123 : decode cX1_reach 123 = .ok (.invokevirtual 98, 3) := by decide +kernel
theorem dX1_reach_126 : decode cX1_reach 126 = .ok (.goto 6, 3) := by decide +kernel
theorem dX1_reach_129 : decode cX1_reach 129 = .ok (.ldc2_w 89, 3) := by decide +kernel
theorem dX1_reach_132 : decode cX1_reach 132 = .ok (.lstore 7, 2) := by decide +kernel
theorem dX1_reach_134 : decode cX1_reach 134 = .ok (.lload 7, 2) := by decide +kernel
theorem dX1_reach_136 : decode cX1_reach 136 = .ok (.aload_n 0, 1) := by decide +kernel
theorem dX1_reach_137 : decode cX1_reach 137 = .ok (.getfield 42, 3) := by decide +kernel
theorem dX1_reach_140 : decode cX1_reach 140 = .ok (.iload 6, 2) := by decide +kernel
theorem dX1_reach_142 : decode cX1_reach 142 = .ok (.laload, 1) := by decide +kernel
theorem dX1_reach_143 : decode cX1_reach 143 = .ok (.lcmp, 1) := by decide +kernel
theorem dX1_reach_144 : decode cX1_reach 144 = .ok (.ifCond .ge 65, 3) := by decide +kernel
theorem dX1_reach_147 : decode cX1_reach 147 = .ok (.aload_n 0, 1) := by decide +kernel
theorem dX1_reach_148 : decode cX1_reach 148 = .ok (.getfield 42, 3) := by decide +kernel
theorem dX1_reach_151 : decode cX1_reach 151 = .ok (.iload 6, 2) := by decide +kernel
theorem dX1_reach_153 : decode cX1_reach 153 = .ok (.lload 7, 2) := by decide +kernel
theorem dX1_reach_155 : decode cX1_reach 155 = .ok (.lastore, 1) := by decide +kernel
theorem dX1_reach_156 : decode cX1_reach 156 = .ok (.lload 7, 2) := by decide +kernel
theorem dX1_reach_158 : decode cX1_reach 158 = .ok (.aload_n 0, 1) := by decide +kernel
theorem dX1_reach_159 : decode cX1_reach 159 = .ok (.iload 6, 2) := by decide +kernel
theorem dX1_reach_161 : decode cX1_reach 161 = .ok (.aload_n 0, 1) := by decide +kernel
theorem dX1_reach_162 : decode cX1_reach 162 = .ok (.getfield 16, 3) := by decide +kernel
theorem dX1_reach_165 : decode cX1_reach 165 = .ok (.iload 6, 2) := by decide +kernel
theorem dX1_reach_167 : decode cX1_reach 167 = .ok (.laload, 1) := by decide +kernel
theorem dX1_reach_168 : decode cX1_reach 168 = .ok (.invokevirtual 85, 3) := by decide +kernel
theorem dX1_reach_171 : decode cX1_reach 171 = .ok (.ladd, 1) := by decide +kernel
theorem dX1_reach_172 : decode cX1_reach 172 = .ok (.lstore 9, 2) := by decide +kernel
theorem dX1_reach_174 : decode cX1_reach 174 = .ok (.aload_n 0, 1) := by decide +kernel
theorem dX1_reach_175 : decode cX1_reach 175 = .ok (.getfield 45, 3) := by decide +kernel
theorem dX1_reach_178 : decode cX1_reach 178 = .ok (.iload 6, 2) := by decide +kernel
theorem dX1_reach_180 : decode cX1_reach 180 = .ok (.lload 9, 2) := by decide +kernel
theorem dX1_reach_182 : decode cX1_reach 182 = .ok (.aload_n 0, 1) := by decide +kernel
theorem dX1_reach_183 : decode cX1_reach 183 = .ok (.getfield 45, 3) := by decide +kernel
theorem dX1_reach_186 : decode cX1_reach 186 = .ok (.iload 6, 2) := by decide +kernel
theorem dX1_reach_188 : decode cX1_reach 188 = .ok (.laload, 1) := by decide +kernel
theorem dX1_reach_189 : decode cX1_reach 189 = .ok (.lcmp, 1) := by decide +kernel
theorem dX1_reach_190 : decode cX1_reach 190 = .ok (.ifCond .ge 8, 3) := by decide +kernel
theorem dX1_reach_193 : decode cX1_reach 193 = .ok (.lload 9, 2) := by decide +kernel
theorem dX1_reach_195 : decode cX1_reach 195 = .ok (.goto 10, 3) := by decide +kernel
theorem dX1_reach_198 : decode cX1_reach 198 = .ok (.aload_n 0, 1) := by decide +kernel
theorem dX1_reach_199 : decode cX1_reach 199 = .ok (.getfield 45, 3) := by decide +kernel
theorem dX1_reach_202 : decode cX1_reach 202 = .ok (.iload 6, 2) := by decide +kernel
theorem dX1_reach_204 : decode cX1_reach 204 = .ok (.laload, 1) := by decide +kernel
theorem dX1_reach_205 : decode cX1_reach 205 = .ok (.lastore, 1) := by decide +kernel
theorem dX1_reach_206 : decode cX1_reach 206 = .ok (.iconst 1, 1) := by decide +kernel
theorem dX1_reach_207 : decode cX1_reach 207 = .ok (.istore 4, 2) := by decide +kernel
theorem dX1_reach_209 : decode cX1_reach 209 = .ok (.iinc 6 1, 3) := by decide +kernel
theorem dX1_reach_212 : decode cX1_reach 212 = .ok (.goto (-133), 3) := by decide +kernel
theorem dX1_reach_215 : decode cX1_reach 215 = .ok (.iinc 5 1, 3) := by decide +kernel
theorem dX1_reach_218 : decode cX1_reach 218 = .ok (.goto (-151), 3) := by decide +kernel
theorem dX1_reach_221 : decode cX1_reach 221 = .ok (.goto (-165), 3) := by decide +kernel
theorem dX1_reach_224 : decode cX1_reach 224 = .ok (.return_, 1) := by decide +kernel
set_option maxRecDepth 20000 in
theorem ggX1_straight_X1_crossing : GoodIn wsX1_straight wsX1_crossing := goodIn_r _ [8, 9, 10, 17, 18, 19, 20, 21, 22, 23, 24, 25, 26, 27, 28, 29, 30, 31, 32, 33] (by decide +kernel) (by decide +kernel)
set_option maxRecDepth 20000 in
theorem gX1_straight_X1_crossing : GoodIn wsX1_straight (wsV RX1 81 RX1 yX1_crossing wsX1_crossing) := goodIn_app (goodIn_of _ (by decide +kernel)) ggX1_straight_X1_crossing
set_option maxRecDepth 20000 in
theorem ggX1_straight_X1_seconds : GoodIn wsX1_straight wsX1_seconds := goodIn_r _ [14, 15, 16, 17, 18, 19, 20, 21, 22, 23, 24, 25, 26, 27, 28, 29, 30, 31, 32, 33] (by decide +kernel) (by decide +kernel)
set_option maxRecDepth 20000 in
theorem gX1_straight_X1_seconds : GoodIn wsX1_straight (wsV RX1 85 RX1 yX1_seconds wsX1_seconds) := goodIn_app (goodIn_of _ (by decide +kernel)) ggX1_straight_X1_seconds
theorem dX1_straight_0 : decode cX1_straight 0 = .ok (.aload_n 0, 1) := by decide +kernel
theorem dX1_straight_1 : decode cX1_straight 1 = .ok (.getfield 33, 3) := by decide +kernel
theorem dX1_straight_4 : decode cX1_straight 4 = .ok (.iload_n 1, 1) := by decide +kernel
theorem dX1_straight_5 : decode cX1_straight 5 = .ok (.iaload, 1) := by decide +kernel
theorem dX1_straight_6 : decode cX1_straight 6 = .ok (.aload_n 0, 1) := by decide +kernel
theorem dX1_straight_7 : decode cX1_straight 7 = .ok (.getfield 33, 3) := by decide +kernel
theorem dX1_straight_10 : decode cX1_straight 10 = .ok (.iload_n 2, 1) := by decide +kernel
theorem dX1_straight_11 : decode cX1_straight 11 = .ok (.iaload, 1) := by decide +kernel
theorem dX1_straight_12 : decode cX1_straight 12 = .ok (.if_icmp .ne 23, 3) := by decide +kernel
theorem dX1_straight_15 : decode cX1_straight 15 = .ok (.aload_n 0, 1) := by decide +kernel
theorem dX1_straight_16 : decode cX1_straight 16 = .ok (.getfield 39, 3) := by decide +kernel
theorem dX1_straight_19 : decode cX1_straight 19 = .ok (.iload_n 2, 1) := by decide +kernel
theorem dX1_straight_20 : decode cX1_straight 20 = .ok (.laload, 1) := by decide +kernel
theorem dX1_straight_21 : decode cX1_straight 21 = .ok (.aload_n 0, 1) := by decide +kernel
theorem dX1_straight_22 : decode cX1_straight 22 = .ok (.getfield 39, 3) := by decide +kernel
theorem dX1_straight_25 : decode cX1_straight 25 = .ok (.iload_n 1, 1) := by decide +kernel
theorem dX1_straight_26 : decode cX1_straight 26 = .ok (.laload, 1) := by decide +kernel
theorem dX1_straight_27 : decode cX1_straight 27 = .ok (.lcmp, 1) := by decide +kernel
theorem dX1_straight_28 : decode cX1_straight 28 = .ok (.ifCond .lt 7, 3) := by decide +kernel
theorem dX1_straight_31 : decode cX1_straight 31 = .ok (.iconst 1, 1) := by decide +kernel
theorem dX1_straight_32 : decode cX1_straight 32 = .ok (.goto 4, 3) := by decide +kernel
theorem dX1_straight_35 : decode cX1_straight 35 = .ok (.iconst 0, 1) := by decide +kernel
theorem dX1_straight_36 : decode cX1_straight 36 = .ok (.istore 5, 2) := by decide +kernel
theorem dX1_straight_38 : decode cX1_straight 38 = .ok (.iload 5, 2) := by decide +kernel
theorem dX1_straight_40 : decode cX1_straight 40 = .ok (.ifCond .eq 43, 3) := by decide +kernel
theorem dX1_straight_43 : decode cX1_straight 43 = .ok (.lload_n 3, 1) := by decide +kernel
theorem dX1_straight_44 : decode cX1_straight 44 = .ok (.aload_n 0, 1) := by decide +kernel
theorem dX1_straight_45 : decode cX1_straight 45 = .ok (.iload_n 1, 1) := by decide +kernel
theorem dX1_straight_46 : decode cX1_straight 46 = .ok (.invokevirtual 81, 3) := by decide +kernel
theorem dX1_straight_49 : decode cX1_straight 49 = .ok (.ladd, 1) := by decide +kernel
theorem dX1_straight_50 : decode cX1_straight 50 = .ok (.aload_n 0, 1) := by decide +kernel
theorem dX1_straight_51 : decode cX1_straight 51 = .ok (.aload_n 0, 1) := by decide +kernel
theorem dX1_straight_52 : decode cX1_straight 52 = .ok (.getfield 33, 3) := by decide +kernel
theorem dX1_straight_55 : decode cX1_straight 55 = .ok (.iload_n 1, 1) := by decide +kernel
theorem dX1_straight_56 : decode cX1_straight 56 = .ok (.iaload, 1) := by decide +kernel
theorem dX1_straight_57 : decode cX1_straight 57 = .ok (.aload_n 0, 1) := by decide +kernel
theorem dX1_straight_58 : decode cX1_straight 58 = .ok (.getfield 39, 3) := by decide +kernel
theorem dX1_straight_61 : decode cX1_straight 61 = .ok (.iload_n 2, 1) := by decide +kernel
theorem dX1_straight_62 : decode cX1_straight 62 = .ok (.laload, 1) := by decide +kernel
theorem dX1_straight_63 : decode cX1_straight 63 = .ok (.aload_n 0, 1) := by decide +kernel
theorem dX1_straight_64 : decode cX1_straight 64 = .ok (.getfield 39, 3) := by decide +kernel
theorem dX1_straight_67 : decode cX1_straight 67 = .ok (.iload_n 1, 1) := by decide +kernel
theorem dX1_straight_68 : decode cX1_straight 68 = .ok (.laload, 1) := by decide +kernel
theorem dX1_straight_69 : decode cX1_straight 69 = .ok (.lsub, 1) := by decide +kernel
theorem dX1_straight_70 : decode cX1_straight 70 = .ok (.invokevirtual 85, 3) := by decide +kernel
theorem dX1_straight_73 : decode cX1_straight 73 = .ok (.ladd, 1) := by decide +kernel
theorem dX1_straight_74 : decode cX1_straight 74 = .ok (.aload_n 0, 1) := by decide +kernel
theorem dX1_straight_75 : decode cX1_straight 75 = .ok (.iload_n 2, 1) := by decide +kernel
theorem dX1_straight_76 : decode cX1_straight 76 = .ok (.invokevirtual 81, 3) := by decide +kernel
theorem dX1_straight_79 : decode cX1_straight 79 = .ok (.ladd, 1) := by decide +kernel
theorem dX1_straight_80 : decode cX1_straight 80 = .ok (.goto 6, 3) := by decide +kernel
theorem dX1_straight_83 : decode cX1_straight 83 = .ok (.ldc2_w 89, 3) := by decide +kernel
theorem dX1_straight_86 : decode cX1_straight 86 = .ok (.lreturn, 1) := by decide +kernel
set_option maxRecDepth 20000 in
theorem ggX1_around_X1_seconds : GoodIn wsX1_around wsX1_seconds := goodIn_r _ [9, 10, 11, 18, 19, 20, 21, 22, 23, 24, 25, 26, 27, 28, 29, 30, 31, 32, 33, 34] (by decide +kernel) (by decide +kernel)
set_option maxRecDepth 20000 in
theorem gX1_around_X1_seconds : GoodIn wsX1_around (wsV RX1 85 RX1 yX1_seconds wsX1_seconds) := goodIn_app (goodIn_of _ (by decide +kernel)) ggX1_around_X1_seconds
set_option maxRecDepth 20000 in
theorem ggX1_around_X1_crossing : GoodIn wsX1_around wsX1_crossing := goodIn_r _ [15, 16, 17, 18, 19, 20, 21, 22, 23, 24, 25, 26, 27, 28, 29, 30, 31, 32, 33, 34] (by decide +kernel) (by decide +kernel)
set_option maxRecDepth 20000 in
theorem gX1_around_X1_crossing : GoodIn wsX1_around (wsV RX1 81 RX1 yX1_crossing wsX1_crossing) := goodIn_app (goodIn_of _ (by decide +kernel)) ggX1_around_X1_crossing
theorem dX1_around_0 : decode cX1_around 0 = .ok (.aload_n 0, 1) := by decide +kernel
theorem dX1_around_1 : decode cX1_around 1 = .ok (.getfield 33, 3) := by decide +kernel
theorem dX1_around_4 : decode cX1_around 4 = .ok (.iload_n 1, 1) := by decide +kernel
theorem dX1_around_5 : decode cX1_around 5 = .ok (.iaload, 1) := by decide +kernel
theorem dX1_around_6 : decode cX1_around 6 = .ok (.istore_n 2, 1) := by decide +kernel
theorem dX1_around_7 : decode cX1_around 7 = .ok (.aload_n 0, 1) := by decide +kernel
theorem dX1_around_8 : decode cX1_around 8 = .ok (.getfield 42, 3) := by decide +kernel
theorem dX1_around_11 : decode cX1_around 11 = .ok (.iload_n 2, 1) := by decide +kernel
theorem dX1_around_12 : decode cX1_around 12 = .ok (.laload, 1) := by decide +kernel
theorem dX1_around_13 : decode cX1_around 13 = .ok (.ldc2_w 89, 3) := by decide +kernel
theorem dX1_around_16 : decode cX1_around 16 = .ok (.lcmp, 1) := by decide +kernel
theorem dX1_around_17 : decode cX1_around 17 = .ok (.ifCond .ne 9, 3) := by decide +kernel
theorem dX1_around_20 : decode cX1_around 20 = .ok (.ldc2_w 89, 3) := by decide +kernel
theorem dX1_around_23 : decode cX1_around 23 = .ok (.goto 27, 3) := by decide +kernel
theorem dX1_around_26 : decode cX1_around 26 = .ok (.aload_n 0, 1) := by decide +kernel
theorem dX1_around_27 : decode cX1_around 27 = .ok (.getfield 42, 3) := by decide +kernel
theorem dX1_around_30 : decode cX1_around 30 = .ok (.iload_n 2, 1) := by decide +kernel
theorem dX1_around_31 : decode cX1_around 31 = .ok (.laload, 1) := by decide +kernel
theorem dX1_around_32 : decode cX1_around 32 = .ok (.aload_n 0, 1) := by decide +kernel
theorem dX1_around_33 : decode cX1_around 33 = .ok (.iload_n 2, 1) := by decide +kernel
theorem dX1_around_34 : decode cX1_around 34 = .ok (.aload_n 0, 1) := by decide +kernel
theorem dX1_around_35 : decode cX1_around 35 = .ok (.getfield 39, 3) := by decide +kernel
theorem dX1_around_38 : decode cX1_around 38 = .ok (.iload_n 1, 1) := by decide +kernel
theorem dX1_around_39 : decode cX1_around 39 = .ok (.laload, 1) := by decide +kernel
theorem dX1_around_40 : decode cX1_around 40 = .ok (.invokevirtual 85, 3) := by decide +kernel
theorem dX1_around_43 : decode cX1_around 43 = .ok (.ladd, 1) := by decide +kernel
theorem dX1_around_44 : decode cX1_around 44 = .ok (.aload_n 0, 1) := by decide +kernel
theorem dX1_around_45 : decode cX1_around 45 = .ok (.iload_n 1, 1) := by decide +kernel
theorem dX1_around_46 : decode cX1_around 46 = .ok (.invokevirtual 81, 3) := by decide +kernel
theorem dX1_around_49 : decode cX1_around 49 = .ok (.ladd, 1) := by decide +kernel
theorem dX1_around_50 : decode cX1_around 50 = .ok (.lreturn, 1) := by decide +kernel
set_option maxRecDepth 20000 in
theorem ggX1_before_X1_leads : GoodIn wsX1_before wsX1_leads := goodIn_r _ [9, 10, 11, 12, 20, 21, 22, 23, 24, 25, 26, 27, 28, 29, 30, 31, 32, 33, 34, 35, 36] (by decide +kernel) (by decide +kernel)
set_option maxRecDepth 20000 in
theorem gX1_before_X1_leads : GoodIn wsX1_before (wsV RX1 94 RX1 yX1_leads wsX1_leads) := goodIn_app (goodIn_of _ (by decide +kernel)) ggX1_before_X1_leads
set_option maxRecDepth 20000 in
theorem ggX1_before_X1_entry : GoodIn wsX1_before wsX1_entry := goodIn_r _ [16, 17, 18, 19, 20, 21, 22, 23, 24, 25, 26, 27, 28, 29, 30, 31, 32, 33, 34, 35, 36] (by decide +kernel) (by decide +kernel)
set_option maxRecDepth 20000 in
theorem gX1_before_X1_entry : GoodIn wsX1_before (wsV RX1 98 RX1 yX1_entry wsX1_entry) := goodIn_app (goodIn_of _ (by decide +kernel)) ggX1_before_X1_entry
theorem dX1_before_0 : decode cX1_before 0 = .ok (.iconst (-1), 1) := by decide +kernel
theorem dX1_before_1 : decode cX1_before 1 = .ok (.istore_n 2, 1) := by decide +kernel
theorem dX1_before_2 : decode cX1_before 2 = .ok (.aload_n 0, 1) := by decide +kernel
theorem dX1_before_3 : decode cX1_before 3 = .ok (.getfield 55, 3) := by decide +kernel
theorem dX1_before_6 : decode cX1_before 6 = .ok (.iconst 1, 1) := by decide +kernel
theorem dX1_before_7 : decode cX1_before 7 = .ok (.isub, 1) := by decide +kernel
theorem dX1_before_8 : decode cX1_before 8 = .ok (.istore_n 3, 1) := by decide +kernel
theorem dX1_before_9 : decode cX1_before 9 = .ok (.iload_n 3, 1) := by decide +kernel
theorem dX1_before_10 : decode cX1_before 10 = .ok (.ifCond .lt 58, 3) := by decide +kernel
theorem dX1_before_13 : decode cX1_before 13 = .ok (.aload_n 0, 1) := by decide +kernel
theorem dX1_before_14 : decode cX1_before 14 = .ok (.iload_n 3, 1) := by decide +kernel
theorem dX1_before_15 : decode cX1_before 15 = .ok (.iload_n 1, 1) := by decide +kernel
theorem dX1_before_16 : decode cX1_before 16 = .ok (.invokevirtual 94, 3) := by decide +kernel
theorem dX1_before_19 : decode cX1_before 19 = .ok (.ifCond .eq 41, 3) := by decide +kernel
theorem dX1_before_22 : decode cX1_before 22 = .ok (.aload_n 0, 1) := by decide +kernel
theorem dX1_before_23 : decode cX1_before 23 = .ok (.getfield 45, 3) := by decide +kernel
theorem dX1_before_26 : decode cX1_before 26 = .ok (.iload_n 3, 1) := by decide +kernel
theorem dX1_before_27 : decode cX1_before 27 = .ok (.laload, 1) := by decide +kernel
theorem dX1_before_28 : decode cX1_before 28 = .ok (.ldc2_w 89, 3) := by decide +kernel
theorem dX1_before_31 : decode cX1_before 31 = .ok (.lcmp, 1) := by decide +kernel
theorem dX1_before_32 : decode cX1_before 32 = .ok (.ifCond .ge 28, 3) := by decide +kernel
theorem dX1_before_35 : decode cX1_before 35 = .ok (.aload_n 0, 1) := by decide +kernel
theorem dX1_before_36 : decode cX1_before 36 = .ok (.iload_n 1, 1) := by decide +kernel
theorem dX1_before_37 : decode cX1_before 37 = .ok (.aload_n 0, 1) := by decide +kernel
theorem dX1_before_38 : decode cX1_before 38 = .ok (.getfield 45, 3) := by decide +kernel
theorem dX1_before_41 : decode cX1_before 41 = .ok (.iload_n 3, 1) := by decide +kernel
theorem dX1_before_42 : decode cX1_before 42 = .ok (.laload, 1) := by decide +kernel
theorem dX1_before_43 : decode cX1_before 43 = .ok (.invokevirtual 98, 3) := by decide +kernel
theorem dX1_before_46 : decode cX1_before 46 = .ok (.aload_n 0, 1) := by decide +kernel
theorem dX1_before_47 : decode cX1_before 47 = .ok (.getfield 42, 3) := by decide +kernel
theorem dX1_before_50 : decode cX1_before 50 = .ok (.iload_n 1, 1) := by decide +kernel
theorem dX1_before_51 : decode cX1_before 51 = .ok (.laload, 1) := by decide +kernel
theorem dX1_before_52 : decode cX1_before 52 = .ok (.lcmp, 1) := by decide +kernel
theorem dX1_before_53 : decode cX1_before 53 = .ok (.ifCond .ne 7, 3) := by decide +kernel
theorem dX1_before_56 : decode cX1_before 56 = .ok (.iload_n 3, 1) := by decide +kernel
theorem dX1_before_57 : decode cX1_before 57 = .ok (.goto 4, 3) := by decide +kernel
theorem dX1_before_60 : decode cX1_before 60 = .ok (.iload_n 2, 1) := by decide +kernel
theorem dX1_before_61 : decode cX1_before 61 = .ok (.istore_n 2, 1) := by decide +kernel
theorem dX1_before_62 : decode cX1_before 62 = .ok (.iinc 3 (-1), 3) := by decide +kernel
theorem dX1_before_65 : decode cX1_before 65 = .ok (.goto (-56), 3) := by decide +kernel
theorem dX1_before_68 : decode cX1_before 68 = .ok (.iload_n 2, 1) := by decide +kernel
theorem dX1_before_69 : decode cX1_before 69 = .ok (.ireturn, 1) := by decide +kernel
set_option maxRecDepth 20000 in
theorem ggX1_way_X1_isStop : GoodIn wsX1_way wsX1_isStop := goodIn_r _ [15, 16, 70, 71, 72, 73, 74, 75, 76, 77, 78, 79, 80, 81, 82, 83, 84, 85, 86] (by decide +kernel) (by decide +kernel)
set_option maxRecDepth 20000 in
theorem gX1_way_X1_isStop : GoodIn wsX1_way (wsV RX1 101 RX1 yX1_isStop wsX1_isStop) := goodIn_app (goodIn_of _ (by decide +kernel)) ggX1_way_X1_isStop
set_option maxRecDepth 20000 in
theorem ggX1_way_X1_in : GoodIn wsX1_way wsX1_in := goodIn_r _ [19] (by decide +kernel) (by decide +kernel)
set_option maxRecDepth 20000 in
theorem gX1_way_X1_in : GoodIn wsX1_way (va_wsS RX1 65 yX1_in wsX1_in) := goodIn_app (goodIn_of _ (by decide +kernel)) ggX1_way_X1_in
set_option maxRecDepth 20000 in
theorem ggX1_way_X1_reach : GoodIn wsX1_way wsX1_reach := goodIn_r _ [23, 24, 6, 10, 9, 25, 26, 27, 28, 29, 14, 30, 31, 32, 33, 34, 35, 36, 37, 38, 39, 40, 41, 42, 43, 44, 45, 46, 47, 48, 49, 50, 51, 52, 53, 54, 55, 56, 57, 70, 71, 72, 73, 74, 75, 76, 77, 78, 79, 80, 81, 82, 83, 84, 85, 86] (by decide +kernel) (by decide +kernel)
set_option maxRecDepth 20000 in
theorem gX1_way_X1_reach : GoodIn wsX1_way (wsV RX1 110 RX1 yX1_reach wsX1_reach) := goodIn_app (goodIn_of _ (by decide +kernel)) ggX1_way_X1_reach
set_option maxRecDepth 20000 in
theorem ggX1_way_X1_straight : GoodIn wsX1_way wsX1_straight := goodIn_r _ [61, 9, 31, 6, 32, 33, 34, 14, 35, 36, 37, 38, 39, 40, 41, 42, 43, 70, 71, 72, 73, 74, 75, 76, 77, 78, 79, 80, 81, 82, 83, 84, 85, 86] (by decide +kernel) (by decide +kernel)
set_option maxRecDepth 20000 in
theorem gX1_way_X1_straight : GoodIn wsX1_way (wsV RX1 114 RX1 yX1_straight wsX1_straight) := goodIn_app (goodIn_of _ (by decide +kernel)) ggX1_way_X1_straight
set_option maxRecDepth 20000 in
theorem ggX1_way_X1_around : GoodIn wsX1_way wsX1_around := goodIn_r _ [65, 9, 24, 6, 31, 38, 39, 40, 14, 41, 42, 43, 32, 33, 34, 35, 36, 37, 70, 71, 72, 73, 74, 75, 76, 77, 78, 79, 80, 81, 82, 83, 84, 85, 86] (by decide +kernel) (by decide +kernel)
set_option maxRecDepth 20000 in
theorem gX1_way_X1_around : GoodIn wsX1_way (wsV RX1 118 RX1 yX1_around wsX1_around) := goodIn_app (goodIn_of _ (by decide +kernel)) ggX1_way_X1_around
set_option maxRecDepth 20000 in
theorem ggX1_way_X1_before : GoodIn wsX1_way wsX1_before := goodIn_r _ [69, 25, 10, 6, 24, 44, 45, 46, 14, 47, 48, 49, 50, 51, 52, 53, 54, 55, 56, 57, 70, 71, 72, 73, 74, 75, 76, 77, 78, 79, 80, 81, 82, 83, 84, 85, 86] (by decide +kernel) (by decide +kernel)
set_option maxRecDepth 20000 in
theorem gX1_way_X1_before : GoodIn wsX1_way (wsV RX1 126 RX1 yX1_before wsX1_before) := goodIn_app (goodIn_of _ (by decide +kernel)) ggX1_way_X1_before
set_option maxRecDepth 20000 in
theorem ggX1_way_X1_rest : GoodIn wsX1_way wsX1_rest := goodIn_r _ [30, 9, 26, 31, 32, 33, 34, 14, 35, 36, 37, 38, 39, 40, 41, 42, 43, 70, 71, 72, 73, 74, 75, 76, 77, 78, 79, 80, 81, 82, 83, 84, 85, 86] (by decide +kernel) (by decide +kernel)
set_option maxRecDepth 20000 in
theorem gX1_way_X1_rest : GoodIn wsX1_way (wsV RX1 91 RX1 yX1_rest wsX1_rest) := goodIn_app (goodIn_of _ (by decide +kernel)) ggX1_way_X1_rest
theorem dX1_way_0 : decode cX1_way 0 = .ok (.aload_n 0, 1) := by decide +kernel
theorem dX1_way_1 : decode cX1_way 1 = .ok (.iconst 0, 1) := by decide +kernel
theorem dX1_way_2 : decode cX1_way 2 = .ok (.putfield 51, 3) := by decide +kernel
theorem dX1_way_5 : decode cX1_way 5 = .ok (.aload_n 0, 1) := by decide +kernel
theorem dX1_way_6 : decode cX1_way 6 = .ok (.iload_n 1, 1) := by decide +kernel
theorem dX1_way_7 : decode cX1_way 7 = .ok (.invokevirtual 101, 3) := by decide +kernel
theorem dX1_way_10 : decode cX1_way 10 = .ok (.ifCond .eq 11, 3) := by decide +kernel
theorem dX1_way_13 : decode cX1_way 13 = .ok (.aload_n 0, 1) := by decide +kernel
theorem dX1_way_14 : decode cX1_way 14 = .ok (.iload_n 2, 1) := by decide +kernel
theorem dX1_way_15 : decode cX1_way 15 = .ok (.invokevirtual 101, 3) := by decide +kernel
theorem dX1_way_18 : decode cX1_way 18 = .ok (.ifCond .ne 7, 3) := by decide +kernel
theorem dX1_way_21 : decode cX1_way 21 = .ok (.ldc2_w 104, 3) := by decide +kernel
theorem dX1_way_24 : decode cX1_way 24 = .ok (.lreturn, 1) := by decide +kernel
theorem dX1_way_25 : decode cX1_way 25 = .ok (.lload_n 3, 1) := by decide +kernel
theorem dX1_way_26 : decode cX1_way 26 = .ok (.lconst 0, 1) := by decide +kernel
theorem dX1_way_27 : decode cX1_way 27 = .ok (.ldc2_w 106, 3) := by decide +kernel
theorem dX1_way_30 : decode cX1_way 30 = .ok (.invokestatic 65, 3) := by decide +kernel
theorem dX1_way_33 : decode cX1_way 33 = .ok (.ifCond .ne 7, 3) := by decide +kernel
theorem dX1_way_36 : decode cX1_way 36 = .ok (.ldc2_w 108, 3) := by decide +kernel
theorem dX1_way_39 : decode cX1_way 39 = .ok (.lreturn, 1) := by decide +kernel
theorem dX1_way_40 : decode cX1_way 40 = .ok (.aload_n 0, 1) := by decide +kernel
theorem dX1_way_41 : decode cX1_way 41 = .ok (.iload_n 1, 1) := by decide +kernel
theorem dX1_way_42 : decode cX1_way 42 = .ok (.lload_n 3, 1) := by decide +kernel
theorem dX1_way_43 : decode cX1_way 43 = .ok (.invokevirtual 110, 3) := by decide +kernel
theorem dX1_way_46 : decode cX1_way 46 = .ok (.aload_n 0, 1) := by decide +kernel
theorem dX1_way_47 : decode cX1_way 47 = .ok (.iload_n 1, 1) := by decide +kernel
theorem dX1_way_48 : decode cX1_way 48 = .ok (.iload_n 2, 1) := by decide +kernel
theorem dX1_way_49 : decode cX1_way 49 = .ok (.lload_n 3, 1) := by decide +kernel
theorem dX1_way_50 : decode cX1_way 50 = .ok (.invokevirtual 114, 3) := by decide +kernel
theorem dX1_way_53 : decode cX1_way 53 = .ok (.lstore 5, 2) := by decide +kernel
theorem dX1_way_55 : decode cX1_way 55 = .ok (.aload_n 0, 1) := by decide +kernel
theorem dX1_way_56 : decode cX1_way 56 = .ok (.iload_n 2, 1) := by decide +kernel
theorem dX1_way_57 : decode cX1_way 57 = .ok (.invokevirtual 118, 3) := by decide +kernel
theorem dX1_way_60 : decode cX1_way 60 = .ok (.lstore 7, 2) := by decide +kernel
theorem dX1_way_62 : decode cX1_way 62 = .ok (.aload_n 0, 1) := by decide +kernel
theorem dX1_way_63 : decode cX1_way 63 = .ok (.iconst 0, 1) := by decide +kernel
theorem dX1_way_64 : decode cX1_way 64 = .ok (.putfield 121, 3) := by decide +kernel
theorem dX1_way_67 : decode cX1_way 67 = .ok (.lload 5, 2) := by decide +kernel
theorem dX1_way_69 : decode cX1_way 69 = .ok (.ldc2_w 89, 3) := by decide +kernel
theorem dX1_way_72 : decode cX1_way 72 = .ok (.lcmp, 1) := by decide +kernel
theorem dX1_way_73 : decode cX1_way 73 = .ok (.ifCond .ne 16, 3) := by decide +kernel
theorem dX1_way_76 : decode cX1_way 76 = .ok (.lload 7, 2) := by decide +kernel
theorem dX1_way_78 : decode cX1_way 78 = .ok (.ldc2_w 89, 3) := by decide +kernel
theorem dX1_way_81 : decode cX1_way 81 = .ok (.lcmp, 1) := by decide +kernel
theorem dX1_way_82 : decode cX1_way 82 = .ok (.ifCond .ne 7, 3) := by decide +kernel
theorem dX1_way_85 : decode cX1_way 85 = .ok (.ldc2_w 124, 3) := by decide +kernel
theorem dX1_way_88 : decode cX1_way 88 = .ok (.lreturn, 1) := by decide +kernel
theorem dX1_way_89 : decode cX1_way 89 = .ok (.aload_n 0, 1) := by decide +kernel
theorem dX1_way_90 : decode cX1_way 90 = .ok (.getfield 48, 3) := by decide +kernel
theorem dX1_way_93 : decode cX1_way 93 = .ok (.iconst 0, 1) := by decide +kernel
theorem dX1_way_94 : decode cX1_way 94 = .ok (.aload_n 0, 1) := by decide +kernel
theorem dX1_way_95 : decode cX1_way 95 = .ok (.getfield 33, 3) := by decide +kernel
theorem dX1_way_98 : decode cX1_way 98 = .ok (.iload_n 2, 1) := by decide +kernel
theorem dX1_way_99 : decode cX1_way 99 = .ok (.iaload, 1) := by decide +kernel
theorem dX1_way_100 : decode cX1_way 100 = .ok (.iastore, 1) := by decide +kernel
theorem dX1_way_101 : decode cX1_way 101 = .ok (.aload_n 0, 1) := by decide +kernel
theorem dX1_way_102 : decode cX1_way 102 = .ok (.iconst 1, 1) := by decide +kernel
theorem dX1_way_103 : decode cX1_way 103 = .ok (.putfield 121, 3) := by decide +kernel
theorem dX1_way_106 : decode cX1_way 106 = .ok (.lload 5, 2) := by decide +kernel
theorem dX1_way_108 : decode cX1_way 108 = .ok (.lload 7, 2) := by decide +kernel
theorem dX1_way_110 : decode cX1_way 110 = .ok (.lcmp, 1) := by decide +kernel
theorem dX1_way_111 : decode cX1_way 111 = .ok (.ifCond .gt 6, 3) := by decide +kernel
theorem dX1_way_114 : decode cX1_way 114 = .ok (.lload 5, 2) := by decide +kernel
theorem dX1_way_116 : decode cX1_way 116 = .ok (.lreturn, 1) := by decide +kernel
theorem dX1_way_117 : decode cX1_way 117 = .ok (.iconst 1, 1) := by decide +kernel
theorem dX1_way_118 : decode cX1_way 118 = .ok (.istore 9, 2) := by decide +kernel
theorem dX1_way_120 : decode cX1_way 120 = .ok (.iload 9, 2) := by decide +kernel
theorem dX1_way_122 : decode cX1_way 122 = .ok (.ifCond .eq 79, 3) := by decide +kernel
theorem dX1_way_125 : decode cX1_way 125 = .ok (.aload_n 0, 1) := by decide +kernel
theorem dX1_way_126 : decode cX1_way 126 = .ok (.aload_n 0, 1) := by decide +kernel
theorem dX1_way_127 : decode cX1_way 127 = .ok (.getfield 48, 3) := by decide +kernel
theorem dX1_way_130 : decode cX1_way 130 = .ok (.aload_n 0, 1) := by decide +kernel
theorem dX1_way_131 : decode cX1_way 131 = .ok (.getfield 121, 3) := by decide +kernel
theorem dX1_way_134 : decode cX1_way 134 = .ok (.iconst 1, 1) := by decide +kernel
theorem dX1_way_135 : decode cX1_way 135 = .ok (.isub, 1) := by decide +kernel
theorem dX1_way_136 : decode cX1_way 136 = .ok (.iaload, 1) := by decide +kernel
theorem dX1_way_137 : decode cX1_way 137 = .ok (.invokevirtual 126, 3) := by decide +kernel
theorem dX1_way_140 : decode cX1_way 140 = .ok (.istore 10, 2) := by decide +kernel
theorem dX1_way_142 : decode cX1_way 142 = .ok (.aload_n 0, 1) := by decide +kernel
theorem dX1_way_143 : decode cX1_way 143 = .ok (.getfield 48, 3) := by decide +kernel
theorem dX1_way_146 : decode cX1_way 146 = .ok (.aload_n 0, 1) := by decide +kernel
theorem dX1_way_147 : decode cX1_way 147 = .ok (.getfield 121, 3) := by decide +kernel
theorem dX1_way_150 : decode cX1_way 150 = .ok (.iload 10, 2) := by decide +kernel
theorem dX1_way_152 : decode cX1_way 152 = .ok (.iastore, 1) := by decide +kernel
theorem dX1_way_153 : decode cX1_way 153 = .ok (.aload_n 0, 1) := by decide +kernel
theorem dX1_way_154 : decode cX1_way 154 = .ok (.dup, 1) := by decide +kernel
theorem dX1_way_155 : decode cX1_way 155 = .ok (.getfield 121, 3) := by decide +kernel
theorem dX1_way_158 : decode cX1_way 158 = .ok (.iconst 1, 1) := by decide +kernel
theorem dX1_way_159 : decode cX1_way 159 = .ok (.iadd, 1) := by decide +kernel
theorem dX1_way_160 : decode cX1_way 160 = .ok (.putfield 121, 3) := by decide +kernel
theorem dX1_way_163 : decode cX1_way 163 = .ok (.iload 10, 2) := by decide +kernel
theorem dX1_way_165 : decode cX1_way 165 = .ok (.aload_n 0, 1) := by decide +kernel
theorem dX1_way_166 : decode cX1_way 166 = .ok (.getfield 33, 3) := by decide +kernel
theorem dX1_way_169 : decode cX1_way 169 = .ok (.iload_n 1, 1) := by decide +kernel
theorem dX1_way_170 : decode cX1_way 170 = .ok (.iaload, 1) := by decide +kernel
theorem dX1_way_171 : decode cX1_way 171 = .ok (.if_icmp .ne 20, 3) := by decide +kernel
theorem dX1_way_174 : decode cX1_way 174 = .ok (.aload_n 0, 1) := by decide +kernel
theorem dX1_way_175 : decode cX1_way 175 = .ok (.getfield 45, 3) := by decide +kernel
theorem dX1_way_178 : decode cX1_way 178 = .ok (.iload 10, 2) := by decide +kernel
theorem dX1_way_180 : decode cX1_way 180 = .ok (.laload, 1) := by decide +kernel
theorem dX1_way_181 : decode cX1_way 181 = .ok (.aload_n 0, 1) := by decide +kernel
theorem dX1_way_182 : decode cX1_way 182 = .ok (.iload_n 1, 1) := by decide +kernel
theorem dX1_way_183 : decode cX1_way 183 = .ok (.lload_n 3, 1) := by decide +kernel
theorem dX1_way_184 : decode cX1_way 184 = .ok (.invokevirtual 91, 3) := by decide +kernel
theorem dX1_way_187 : decode cX1_way 187 = .ok (.lcmp, 1) := by decide +kernel
theorem dX1_way_188 : decode cX1_way 188 = .ok (.ifCond .eq 7, 3) := by decide +kernel
theorem dX1_way_191 : decode cX1_way 191 = .ok (.iconst 1, 1) := by decide +kernel
theorem dX1_way_192 : decode cX1_way 192 = .ok (.goto 4, 3) := by decide +kernel
theorem dX1_way_195 : decode cX1_way 195 = .ok (.iconst 0, 1) := by decide +kernel
theorem dX1_way_196 : decode cX1_way 196 = .ok (.istore 9, 2) := by decide +kernel
theorem dX1_way_198 : decode cX1_way 198 = .ok (.goto (-78), 3) := by decide +kernel
theorem dX1_way_201 : decode cX1_way 201 = .ok (.lload 7, 2) := by decide +kernel
theorem dX1_way_203 : decode cX1_way 203 = .ok (.lreturn, 1) := by decide +kernel
theorem dX1_step_0 : decode cX1_step 0 = .ok (.aload_n 0, 1) := by decide +kernel
theorem dX1_step_1 : decode cX1_step 1 = .ok (.iconst 0, 1) := by decide +kernel
theorem dX1_step_2 : decode cX1_step 2 = .ok (.putfield 51, 3) := by decide +kernel
theorem dX1_step_5 : decode cX1_step 5 = .ok (.iload_n 1, 1) := by decide +kernel
theorem dX1_step_6 : decode cX1_step 6 = .ok (.ifCond .lt 27, 3) := by decide +kernel
theorem dX1_step_9 : decode cX1_step 9 = .ok (.iload_n 1, 1) := by decide +kernel
theorem dX1_step_10 : decode cX1_step 10 = .ok (.aload_n 0, 1) := by decide +kernel
theorem dX1_step_11 : decode cX1_step 11 = .ok (.getfield 121, 3) := by decide +kernel
theorem dX1_step_14 : decode cX1_step 14 = .ok (.if_icmp .ge 19, 3) := by decide +kernel
theorem dX1_step_17 : decode cX1_step 17 = .ok (.aload_n 0, 1) := by decide +kernel
theorem dX1_step_18 : decode cX1_step 18 = .ok (.getfield 48, 3) := by decide +kernel
theorem dX1_step_21 : decode cX1_step 21 = .ok (.aload_n 0, 1) := by decide +kernel
theorem dX1_step_22 : decode cX1_step 22 = .ok (.getfield 121, 3) := by decide +kernel
theorem dX1_step_25 : decode cX1_step 25 = .ok (.iconst 1, 1) := by decide +kernel
theorem dX1_step_26 : decode cX1_step 26 = .ok (.isub, 1) := by decide +kernel
theorem dX1_step_27 : decode cX1_step 27 = .ok (.iload_n 1, 1) := by decide +kernel
theorem dX1_step_28 : decode cX1_step 28 = .ok (.isub, 1) := by decide +kernel
theorem dX1_step_29 : decode cX1_step 29 = .ok (.iaload, 1) := by decide +kernel
theorem dX1_step_30 : decode cX1_step 30 = .ok (.goto 4, 3) := by decide +kernel
theorem dX1_step_33 : decode cX1_step 33 = .ok (.iconst (-1), 1) := by decide +kernel
theorem dX1_step_34 : decode cX1_step 34 = .ok (.ireturn, 1) := by decide +kernel
set_option maxRecDepth 20000 in
theorem ggX1_table_X1_isStop : GoodIn wsX1_table wsX1_isStop := goodIn_r _ [9, 10, 59, 60, 61, 62, 63, 64, 65, 66, 67, 68, 69, 70, 71, 72, 73, 74, 75] (by decide +kernel) (by decide +kernel)
set_option maxRecDepth 20000 in
theorem gX1_table_X1_isStop : GoodIn wsX1_table (wsV RX1 101 RX1 yX1_isStop wsX1_isStop) := goodIn_app (goodIn_of _ (by decide +kernel)) ggX1_table_X1_isStop
set_option maxRecDepth 20000 in
theorem ggX1_table_X1_reach : GoodIn wsX1_table wsX1_reach := goodIn_r _ [14, 15, 3, 16, 17, 18, 19, 20, 21, 22, 8, 23, 24, 25, 26, 27, 28, 29, 30, 31, 32, 33, 34, 35, 36, 37, 38, 39, 40, 41, 42, 43, 44, 45, 46, 47, 48, 49, 50, 59, 60, 61, 62, 63, 64, 65, 66, 67, 68, 69, 70, 71, 72, 73, 74, 75] (by decide +kernel) (by decide +kernel)
set_option maxRecDepth 20000 in
theorem gX1_table_X1_reach : GoodIn wsX1_table (wsV RX1 110 RX1 yX1_reach wsX1_reach) := goodIn_app (goodIn_of _ (by decide +kernel)) ggX1_table_X1_reach
set_option maxRecDepth 20000 in
theorem ggX1_table_X1_straight : GoodIn wsX1_table wsX1_straight := goodIn_r _ [54, 17, 24, 3, 25, 26, 27, 8, 28, 29, 30, 31, 32, 33, 34, 35, 36, 59, 60, 61, 62, 63, 64, 65, 66, 67, 68, 69, 70, 71, 72, 73, 74, 75] (by decide +kernel) (by decide +kernel)
set_option maxRecDepth 20000 in
theorem gX1_table_X1_straight : GoodIn wsX1_table (wsV RX1 114 RX1 yX1_straight wsX1_straight) := goodIn_app (goodIn_of _ (by decide +kernel)) ggX1_table_X1_straight
set_option maxRecDepth 20000 in
theorem ggX1_table_X1_around : GoodIn wsX1_table wsX1_around := goodIn_r _ [58, 17, 15, 3, 24, 31, 32, 33, 8, 34, 35, 36, 25, 26, 27, 28, 29, 30, 59, 60, 61, 62, 63, 64, 65, 66, 67, 68, 69, 70, 71, 72, 73, 74, 75] (by decide +kernel) (by decide +kernel)
set_option maxRecDepth 20000 in
theorem gX1_table_X1_around : GoodIn wsX1_table (wsV RX1 118 RX1 yX1_around wsX1_around) := goodIn_app (goodIn_of _ (by decide +kernel)) ggX1_table_X1_around
theorem dX1_table_0 : decode cX1_table 0 = .ok (.aload_n 0, 1) := by decide +kernel
theorem dX1_table_1 : decode cX1_table 1 = .ok (.iconst 0, 1) := by decide +kernel
theorem dX1_table_2 : decode cX1_table 2 = .ok (.putfield 51, 3) := by decide +kernel
theorem dX1_table_5 : decode cX1_table 5 = .ok (.aload_n 0, 1) := by decide +kernel
theorem dX1_table_6 : decode cX1_table 6 = .ok (.iload_n 1, 1) := by decide +kernel
theorem dX1_table_7 : decode cX1_table 7 = .ok (.invokevirtual 101, 3) := by decide +kernel
theorem dX1_table_10 : decode cX1_table 10 = .ok (.ifCond .eq 11, 3) := by decide +kernel
theorem dX1_table_13 : decode cX1_table 13 = .ok (.aload_n 0, 1) := by decide +kernel
theorem dX1_table_14 : decode cX1_table 14 = .ok (.iload_n 2, 1) := by decide +kernel
theorem dX1_table_15 : decode cX1_table 15 = .ok (.invokevirtual 101, 3) := by decide +kernel
theorem dX1_table_18 : decode cX1_table 18 = .ok (.ifCond .ne 7, 3) := by decide +kernel
theorem dX1_table_21 : decode cX1_table 21 = .ok (.ldc2_w 104, 3) := by decide +kernel
theorem dX1_table_24 : decode cX1_table 24 = .ok (.lreturn, 1) := by decide +kernel
theorem dX1_table_25 : decode cX1_table 25 = .ok (.aload_n 0, 1) := by decide +kernel
theorem dX1_table_26 : decode cX1_table 26 = .ok (.iload_n 1, 1) := by decide +kernel
theorem dX1_table_27 : decode cX1_table 27 = .ok (.lconst 0, 1) := by decide +kernel
theorem dX1_table_28 : decode cX1_table 28 = .ok (.invokevirtual 110, 3) := by decide +kernel
theorem dX1_table_31 : decode cX1_table 31 = .ok (.aload_n 0, 1) := by decide +kernel
theorem dX1_table_32 : decode cX1_table 32 = .ok (.iload_n 1, 1) := by decide +kernel
theorem dX1_table_33 : decode cX1_table 33 = .ok (.iload_n 2, 1) := by decide +kernel
theorem dX1_table_34 : decode cX1_table 34 = .ok (.lconst 0, 1) := by decide +kernel
theorem dX1_table_35 : decode cX1_table 35 = .ok (.invokevirtual 114, 3) := by decide +kernel
theorem dX1_table_38 : decode cX1_table 38 = .ok (.lstore_n 3, 1) := by decide +kernel
theorem dX1_table_39 : decode cX1_table 39 = .ok (.aload_n 0, 1) := by decide +kernel
theorem dX1_table_40 : decode cX1_table 40 = .ok (.iload_n 2, 1) := by decide +kernel
theorem dX1_table_41 : decode cX1_table 41 = .ok (.invokevirtual 118, 3) := by decide +kernel
theorem dX1_table_44 : decode cX1_table 44 = .ok (.lstore 5, 2) := by decide +kernel
theorem dX1_table_46 : decode cX1_table 46 = .ok (.lload_n 3, 1) := by decide +kernel
theorem dX1_table_47 : decode cX1_table 47 = .ok (.lload 5, 2) := by decide +kernel
theorem dX1_table_49 : decode cX1_table 49 = .ok (.lcmp, 1) := by decide +kernel
theorem dX1_table_50 : decode cX1_table 50 = .ok (.ifCond .ge 7, 3) := by decide +kernel
theorem dX1_table_53 : decode cX1_table 53 = .ok (.lload_n 3, 1) := by decide +kernel
theorem dX1_table_54 : decode cX1_table 54 = .ok (.goto 5, 3) := by decide +kernel
theorem dX1_table_57 : decode cX1_table 57 = .ok (.lload 5, 2) := by decide +kernel
theorem dX1_table_59 : decode cX1_table 59 = .ok (.lstore 7, 2) := by decide +kernel
theorem dX1_table_61 : decode cX1_table 61 = .ok (.lload 7, 2) := by decide +kernel
theorem dX1_table_63 : decode cX1_table 63 = .ok (.ldc2_w 89, 3) := by decide +kernel
theorem dX1_table_66 : decode cX1_table 66 = .ok (.lcmp, 1) := by decide +kernel
theorem dX1_table_67 : decode cX1_table 67 = .ok (.ifCond .ne 9, 3) := by decide +kernel
theorem dX1_table_70 : decode cX1_table 70 = .ok (.ldc2_w 124, 3) := by decide +kernel
theorem dX1_table_73 : decode cX1_table 73 = .ok (.goto 5, 3) := by decide +kernel
theorem dX1_table_76 : decode cX1_table 76 = .ok (.lload 7, 2) := by decide +kernel
theorem dX1_table_78 : decode cX1_table 78 = .ok (.lreturn, 1) := by decide +kernel
set_option maxRecDepth 20000 in
theorem ggX1_service_X1_isPiece : GoodIn wsX1_service wsX1_isPiece := goodIn_r _ [11, 6, 19, 20, 21, 22, 23, 24, 25, 26, 27, 28, 29, 30, 31, 32, 33, 34, 35] (by decide +kernel) (by decide +kernel)
set_option maxRecDepth 20000 in
theorem gX1_service_X1_isPiece : GoodIn wsX1_service (wsV RX1 73 RX1 yX1_isPiece wsX1_isPiece) := goodIn_app (goodIn_of _ (by decide +kernel)) ggX1_service_X1_isPiece
set_option maxRecDepth 20000 in
theorem ggX1_service_X1_leads : GoodIn wsX1_service wsX1_leads := goodIn_r _ [15, 16, 17, 18, 19, 20, 21, 22, 23, 24, 25, 26, 27, 28, 29, 30, 31, 32, 33, 34, 35] (by decide +kernel) (by decide +kernel)
set_option maxRecDepth 20000 in
theorem gX1_service_X1_leads : GoodIn wsX1_service (wsV RX1 94 RX1 yX1_leads wsX1_leads) := goodIn_app (goodIn_of _ (by decide +kernel)) ggX1_service_X1_leads
theorem dX1_service_0 : decode cX1_service 0 = .ok (.aload_n 0, 1) := by decide +kernel
theorem dX1_service_1 : decode cX1_service 1 = .ok (.iconst 0, 1) := by decide +kernel
theorem dX1_service_2 : decode cX1_service 2 = .ok (.putfield 51, 3) := by decide +kernel
theorem dX1_service_5 : decode cX1_service 5 = .ok (.aload_n 0, 1) := by decide +kernel
theorem dX1_service_6 : decode cX1_service 6 = .ok (.iload_n 1, 1) := by decide +kernel
theorem dX1_service_7 : decode cX1_service 7 = .ok (.invokevirtual 73, 3) := by decide +kernel
theorem dX1_service_10 : decode cX1_service 10 = .ok (.ifCond .ne 5, 3) := by decide +kernel
theorem dX1_service_13 : decode cX1_service 13 = .ok (.iconst 0, 1) := by decide +kernel
theorem dX1_service_14 : decode cX1_service 14 = .ok (.ireturn, 1) := by decide +kernel
theorem dX1_service_15 : decode cX1_service 15 = .ok (.iload_n 2, 1) := by decide +kernel
theorem dX1_service_16 : decode cX1_service 16 = .ok (.iconst 2, 1) := by decide +kernel
theorem dX1_service_17 : decode cX1_service 17 = .ok (.if_icmp .ne 20, 3) := by decide +kernel
theorem dX1_service_20 : decode cX1_service 20 = .ok (.aload_n 0, 1) := by decide +kernel
theorem dX1_service_21 : decode cX1_service 21 = .ok (.getfield 26, 3) := by decide +kernel
theorem dX1_service_24 : decode cX1_service 24 = .ok (.iload_n 1, 1) := by decide +kernel
theorem dX1_service_25 : decode cX1_service 25 = .ok (.laload, 1) := by decide +kernel
theorem dX1_service_26 : decode cX1_service 26 = .ok (.lconst 0, 1) := by decide +kernel
theorem dX1_service_27 : decode cX1_service 27 = .ok (.lcmp, 1) := by decide +kernel
theorem dX1_service_28 : decode cX1_service 28 = .ok (.ifCond .le 7, 3) := by decide +kernel
theorem dX1_service_31 : decode cX1_service 31 = .ok (.iconst 1, 1) := by decide +kernel
theorem dX1_service_32 : decode cX1_service 32 = .ok (.goto 4, 3) := by decide +kernel
theorem dX1_service_35 : decode cX1_service 35 = .ok (.iconst 0, 1) := by decide +kernel
theorem dX1_service_36 : decode cX1_service 36 = .ok (.ireturn, 1) := by decide +kernel
theorem dX1_service_37 : decode cX1_service 37 = .ok (.iconst 0, 1) := by decide +kernel
theorem dX1_service_38 : decode cX1_service 38 = .ok (.istore_n 3, 1) := by decide +kernel
theorem dX1_service_39 : decode cX1_service 39 = .ok (.iconst 0, 1) := by decide +kernel
theorem dX1_service_40 : decode cX1_service 40 = .ok (.istore 4, 2) := by decide +kernel
theorem dX1_service_42 : decode cX1_service 42 = .ok (.iload 4, 2) := by decide +kernel
theorem dX1_service_44 : decode cX1_service 44 = .ok (.aload_n 0, 1) := by decide +kernel
theorem dX1_service_45 : decode cX1_service 45 = .ok (.getfield 58, 3) := by decide +kernel
theorem dX1_service_48 : decode cX1_service 48 = .ok (.if_icmp .ge 50, 3) := by decide +kernel
theorem dX1_service_51 : decode cX1_service 51 = .ok (.iload_n 2, 1) := by decide +kernel
theorem dX1_service_52 : decode cX1_service 52 = .ok (.ifCond .lt 46, 3) := by decide +kernel
theorem dX1_service_55 : decode cX1_service 55 = .ok (.iload_n 2, 1) := by decide +kernel
theorem dX1_service_56 : decode cX1_service 56 = .ok (.iconst 2, 1) := by decide +kernel
theorem dX1_service_57 : decode cX1_service 57 = .ok (.if_icmp .ge 41, 3) := by decide +kernel
theorem dX1_service_60 : decode cX1_service 60 = .ok (.iload_n 3, 1) := by decide +kernel
theorem dX1_service_61 : decode cX1_service 61 = .ok (.ifCond .ne 25, 3) := by decide +kernel
theorem dX1_service_64 : decode cX1_service 64 = .ok (.aload_n 0, 1) := by decide +kernel
theorem dX1_service_65 : decode cX1_service 65 = .ok (.getfield 33, 3) := by decide +kernel
theorem dX1_service_68 : decode cX1_service 68 = .ok (.iload 4, 2) := by decide +kernel
theorem dX1_service_70 : decode cX1_service 70 = .ok (.iaload, 1) := by decide +kernel
theorem dX1_service_71 : decode cX1_service 71 = .ok (.iload_n 1, 1) := by decide +kernel
theorem dX1_service_72 : decode cX1_service 72 = .ok (.if_icmp .ne 18, 3) := by decide +kernel
theorem dX1_service_75 : decode cX1_service 75 = .ok (.aload_n 0, 1) := by decide +kernel
theorem dX1_service_76 : decode cX1_service 76 = .ok (.getfield 36, 3) := by decide +kernel
theorem dX1_service_79 : decode cX1_service 79 = .ok (.iload 4, 2) := by decide +kernel
theorem dX1_service_81 : decode cX1_service 81 = .ok (.iaload, 1) := by decide +kernel
theorem dX1_service_82 : decode cX1_service 82 = .ok (.iload_n 2, 1) := by decide +kernel
theorem dX1_service_83 : decode cX1_service 83 = .ok (.if_icmp .ne 7, 3) := by decide +kernel
theorem dX1_service_86 : decode cX1_service 86 = .ok (.iconst 1, 1) := by decide +kernel
theorem dX1_service_87 : decode cX1_service 87 = .ok (.goto 4, 3) := by decide +kernel
theorem dX1_service_90 : decode cX1_service 90 = .ok (.iconst 0, 1) := by decide +kernel
theorem dX1_service_91 : decode cX1_service 91 = .ok (.istore_n 3, 1) := by decide +kernel
theorem dX1_service_92 : decode cX1_service 92 = .ok (.iinc 4 1, 3) := by decide +kernel
theorem dX1_service_95 : decode cX1_service 95 = .ok (.goto (-53), 3) := by decide +kernel
theorem dX1_service_98 : decode cX1_service 98 = .ok (.iconst 0, 1) := by decide +kernel
theorem dX1_service_99 : decode cX1_service 99 = .ok (.istore 4, 2) := by decide +kernel
theorem dX1_service_101 : decode cX1_service 101 = .ok (.iload 4, 2) := by decide +kernel
theorem dX1_service_103 : decode cX1_service 103 = .ok (.aload_n 0, 1) := by decide +kernel
theorem dX1_service_104 : decode cX1_service 104 = .ok (.getfield 55, 3) := by decide +kernel
theorem dX1_service_107 : decode cX1_service 107 = .ok (.if_icmp .ge 34, 3) := by decide +kernel
theorem dX1_service_110 : decode cX1_service 110 = .ok (.iload_n 2, 1) := by decide +kernel
theorem dX1_service_111 : decode cX1_service 111 = .ok (.iconst 3, 1) := by decide +kernel
theorem dX1_service_112 : decode cX1_service 112 = .ok (.if_icmp .ne 29, 3) := by decide +kernel
theorem dX1_service_115 : decode cX1_service 115 = .ok (.iload_n 3, 1) := by decide +kernel
theorem dX1_service_116 : decode cX1_service 116 = .ok (.ifCond .ne 13, 3) := by decide +kernel
theorem dX1_service_119 : decode cX1_service 119 = .ok (.aload_n 0, 1) := by decide +kernel
theorem dX1_service_120 : decode cX1_service 120 = .ok (.iload_n 1, 1) := by decide +kernel
theorem dX1_service_121 : decode cX1_service 121 = .ok (.iload 4, 2) := by decide +kernel
theorem dX1_service_123 : decode cX1_service 123 = .ok (.invokevirtual 94, 3) := by decide +kernel
theorem dX1_service_126 : decode cX1_service 126 = .ok (.ifCond .eq 7, 3) := by decide +kernel
theorem dX1_service_129 : decode cX1_service 129 = .ok (.iconst 1, 1) := by decide +kernel
theorem dX1_service_130 : decode cX1_service 130 = .ok (.goto 4, 3) := by decide +kernel
theorem dX1_service_133 : decode cX1_service 133 = .ok (.iconst 0, 1) := by decide +kernel
theorem dX1_service_134 : decode cX1_service 134 = .ok (.istore_n 3, 1) := by decide +kernel
theorem dX1_service_135 : decode cX1_service 135 = .ok (.iinc 4 1, 3) := by decide +kernel
theorem dX1_service_138 : decode cX1_service 138 = .ok (.goto (-37), 3) := by decide +kernel
theorem dX1_service_141 : decode cX1_service 141 = .ok (.iload_n 3, 1) := by decide +kernel
theorem dX1_service_142 : decode cX1_service 142 = .ok (.ireturn, 1) := by decide +kernel
theorem dJx00060_init_a7421_0 : decode cJx00060_init_a7421 0 = .ok (.aload_n 0, 1) := by decide +kernel
theorem dJx00060_init_a7421_1 : decode cJx00060_init_a7421 1 = .ok (.aload_n 1, 1) := by decide +kernel
theorem dJx00060_init_a7421_2 : decode cJx00060_init_a7421 2 = .ok (.invokespecial 7, 3) := by decide +kernel
theorem dJx00060_init_a7421_5 : decode cJx00060_init_a7421 5 = .ok (.return_, 1) := by decide +kernel
theorem dJ9_max_f86c9_0 : decode cJ9_max_f86c9 0 = .ok (.lload_n 0, 1) := by decide +kernel
theorem dJ9_max_f86c9_1 : decode cJ9_max_f86c9 1 = .ok (.lload_n 2, 1) := by decide +kernel
theorem dJ9_max_f86c9_2 : decode cJ9_max_f86c9 2 = .ok (.lcmp, 1) := by decide +kernel
theorem dJ9_max_f86c9_3 : decode cJ9_max_f86c9 3 = .ok (.ifCond .lt 7, 3) := by decide +kernel
theorem dJ9_max_f86c9_6 : decode cJ9_max_f86c9 6 = .ok (.lload_n 0, 1) := by decide +kernel
theorem dJ9_max_f86c9_7 : decode cJ9_max_f86c9 7 = .ok (.goto 4, 3) := by decide +kernel
theorem dJ9_max_f86c9_10 : decode cJ9_max_f86c9 10 = .ok (.lload_n 2, 1) := by decide +kernel
theorem dJ9_max_f86c9_11 : decode cJ9_max_f86c9 11 = .ok (.lreturn, 1) := by decide +kernel
theorem dJ9_min_f86c9_0 : decode cJ9_min_f86c9 0 = .ok (.lload_n 0, 1) := by decide +kernel
theorem dJ9_min_f86c9_1 : decode cJ9_min_f86c9 1 = .ok (.lload_n 2, 1) := by decide +kernel
theorem dJ9_min_f86c9_2 : decode cJ9_min_f86c9 2 = .ok (.lcmp, 1) := by decide +kernel
theorem dJ9_min_f86c9_3 : decode cJ9_min_f86c9 3 = .ok (.ifCond .gt 7, 3) := by decide +kernel
theorem dJ9_min_f86c9_6 : decode cJ9_min_f86c9 6 = .ok (.lload_n 0, 1) := by decide +kernel
theorem dJ9_min_f86c9_7 : decode cJ9_min_f86c9 7 = .ok (.goto 4, 3) := by decide +kernel
theorem dJ9_min_f86c9_10 : decode cJ9_min_f86c9 10 = .ok (.lload_n 2, 1) := by decide +kernel
theorem dJ9_min_f86c9_11 : decode cJ9_min_f86c9 11 = .ok (.lreturn, 1) := by decide +kernel
set_option maxRecDepth 20000 in
theorem ggL_piece_X0_piece : GoodIn wsL_piece wsX0_piece := goodIn_ca (goodIn_r _ [6, 7, 8, 9, 10, 11, 12, 13, 14, 15, 16, 17, 5, 18, 19, 20, 21, 22, 23, 24, 25, 26, 27, 28, 29, 30, 31, 32, 33, 34, 35, 36] (by decide +kernel) (by decide +kernel)) (goodIn_sub (fun _ h => List.mem_cons_of_mem _ (List.mem_append_right _ h)) (by decide +kernel))
set_option maxRecDepth 20000 in
theorem gL_piece_X0_piece : GoodIn wsL_piece (wsV RL 7 RX0 yX0_piece wsX0_piece) := goodIn_app (goodIn_of _ (by decide +kernel)) ggL_piece_X0_piece
end
section
theorem dL_piece_0 : decode cL_piece 0 = .ok (.aload 7, 2) := by decide +kernel
theorem dL_piece_2 : decode cL_piece 2 = .ok (.iconst 0, 1) := by decide +kernel
theorem dL_piece_3 : decode cL_piece 3 = .ok (.aload_n 0, 1) := by decide +kernel
theorem dL_piece_4 : decode cL_piece 4 = .ok (.iload_n 1, 1) := by decide +kernel
theorem dL_piece_5 : decode cL_piece 5 = .ok (.iload_n 2, 1) := by decide +kernel
theorem dL_piece_6 : decode cL_piece 6 = .ok (.lload_n 3, 1) := by decide +kernel
theorem dL_piece_7 : decode cL_piece 7 = .ok (.lload 5, 2) := by decide +kernel
theorem dL_piece_9 : decode cL_piece 9 = .ok (.invokevirtual 7, 3) := by decide +kernel
theorem dL_piece_12 : decode cL_piece 12 = .ok (.i2l, 1) := by decide +kernel
theorem dL_piece_13 : decode cL_piece 13 = .ok (.lastore, 1) := by decide +kernel
theorem dL_piece_14 : decode cL_piece 14 = .ok (.goto 7, 3) := by decide +kernel
theorem dL_piece_17 : decode cL_piece 17 = .ok (.astore 8, 2) := by decide +kernel
theorem dL_piece_19 : decode cL_piece 19 = .ok (.iconst 1, 1) := by decide +kernel
theorem dL_piece_20 : decode cL_piece 20 = .ok (.ireturn, 1) := by decide +kernel
theorem dL_piece_21 : decode cL_piece 21 = .ok (.iconst 0, 1) := by decide +kernel
theorem dL_piece_22 : decode cL_piece 22 = .ok (.ireturn, 1) := by decide +kernel
set_option maxRecDepth 20000 in
theorem ggL_piece2_X0_piece2 : GoodIn wsL_piece2 wsX0_piece2 := goodIn_r _ [5, 6, 7, 8, 9, 10, 11, 12, 13, 4, 14, 15, 16, 17, 18, 19, 20, 21, 22, 23, 24, 25, 26, 27, 28, 29, 30, 31, 32, 33, 34, 35, 36, 37, 38, 39] (by decide +kernel) (by decide +kernel)
set_option maxRecDepth 20000 in
theorem gL_piece2_X0_piece2 : GoodIn wsL_piece2 (wsV RL 15 RX0 yX0_piece2 wsX0_piece2) := goodIn_app (goodIn_of _ (by decide +kernel)) ggL_piece2_X0_piece2
theorem dL_piece2_0 : decode cL_piece2 0 = .ok (.aload_n 2, 1) := by decide +kernel
theorem dL_piece2_1 : decode cL_piece2 1 = .ok (.iconst 0, 1) := by decide +kernel
theorem dL_piece2_2 : decode cL_piece2 2 = .ok (.aload_n 0, 1) := by decide +kernel
theorem dL_piece2_3 : decode cL_piece2 3 = .ok (.iload_n 1, 1) := by decide +kernel
theorem dL_piece2_4 : decode cL_piece2 4 = .ok (.invokevirtual 15, 3) := by decide +kernel
theorem dL_piece2_7 : decode cL_piece2 7 = .ok (.i2l, 1) := by decide +kernel
theorem dL_piece2_8 : decode cL_piece2 8 = .ok (.lastore, 1) := by decide +kernel
theorem dL_piece2_9 : decode cL_piece2 9 = .ok (.goto 6, 3) := by decide +kernel
theorem dL_piece2_12 : decode cL_piece2 12 = .ok (.astore_n 3, 1) := by decide +kernel
theorem dL_piece2_13 : decode cL_piece2 13 = .ok (.iconst 1, 1) := by decide +kernel
theorem dL_piece2_14 : decode cL_piece2 14 = .ok (.ireturn, 1) := by decide +kernel
theorem dL_piece2_15 : decode cL_piece2 15 = .ok (.iconst 0, 1) := by decide +kernel
theorem dL_piece2_16 : decode cL_piece2 16 = .ok (.ireturn, 1) := by decide +kernel
set_option maxRecDepth 20000 in
theorem ggL_law_X0_init : GoodIn wsL_law wsX0_init := goodIn_r _ [10, 11, 12, 13, 14, 15, 16, 6, 17, 18, 19, 20, 21, 22, 23, 24, 25, 26, 27, 28, 29, 308, 309, 310, 311, 312, 313, 314, 315, 316, 317, 318, 319, 320, 321, 322, 323, 324, 325] (by decide +kernel) (by decide +kernel)
set_option maxRecDepth 20000 in
theorem gL_law_X0_init : GoodIn wsL_law (wsX0_init) := ggL_law_X0_init
set_option maxRecDepth 20000 in
theorem ggL_law_X1_init : GoodIn wsL_law wsX1_init := goodIn_r _ [32, 33, 12, 13, 14, 34, 35, 6, 36, 37, 38, 39, 27, 40, 41, 42, 43, 44, 45, 46, 326, 327, 328, 329, 330, 331, 332, 333, 334, 335, 336, 337, 338, 339, 340, 341, 342] (by decide +kernel) (by decide +kernel)
set_option maxRecDepth 20000 in
theorem gL_law_X1_init : GoodIn wsL_law (wsX1_init) := ggL_law_X1_init
set_option maxRecDepth 20000 in
theorem ggL_law_L_piece : GoodIn wsL_law wsL_piece := goodIn_ca (goodIn_r _ [50, 51, 52, 53, 54, 2, 55, 56, 57, 58, 59, 60, 15, 16, 17, 18, 61, 62, 63, 308, 309, 310, 311, 312, 313, 314, 315, 316, 317, 318, 319, 320, 321, 322, 323, 324, 325] (by decide +kernel) (by decide +kernel)) (goodIn_sub (fun _ h => List.mem_append_right _ h) (by decide +kernel))
set_option maxRecDepth 20000 in
theorem gL_law_L_piece : GoodIn wsL_law (va_wsS RL 27 yL_piece wsL_piece) := goodIn_app (goodIn_of _ (by decide +kernel)) ggL_law_L_piece
set_option maxRecDepth 20000 in
theorem ggL_law_X1_piece : GoodIn wsL_law wsX1_piece := goodIn_r _ [67, 68, 69, 70, 71, 72, 34, 35, 36, 37, 73, 74, 5, 75, 326, 327, 328, 329, 330, 331, 332, 333, 334, 335, 336, 337, 338, 339, 340, 341, 342] (by decide +kernel) (by decide +kernel)
set_option maxRecDepth 20000 in
theorem gL_law_X1_piece : GoodIn wsL_law (wsV RL 32 RX1 yX1_piece wsX1_piece) := goodIn_app (goodIn_of _ (by decide +kernel)) ggL_law_X1_piece
set_option maxRecDepth 20000 in
theorem ggL_law_X1_thrown : GoodIn wsL_law wsX1_thrown := goodIn_r _ [79, 68, 326, 327, 328, 329, 330, 331, 332, 333, 334, 335, 336, 337, 338, 339, 340, 341, 342] (by decide +kernel) (by decide +kernel)
set_option maxRecDepth 20000 in
theorem gL_law_X1_thrown : GoodIn wsL_law (wsV RL 33 RX1 yX1_thrown wsX1_thrown) := goodIn_app (goodIn_of _ (by decide +kernel)) ggL_law_X1_thrown
set_option maxRecDepth 20000 in
theorem ggL_law_X0_turn : GoodIn wsL_law wsX0_turn := goodIn_r _ [83, 16, 15, 21, 84, 85, 86, 87, 2, 88, 60, 89, 90, 91, 92, 93, 94, 95, 96, 97, 98, 308, 309, 310, 311, 312, 313, 314, 315, 316, 317, 318, 319, 320, 321, 322, 323, 324, 325] (by decide +kernel) (by decide +kernel)
set_option maxRecDepth 20000 in
theorem gL_law_X0_turn : GoodIn wsL_law (wsV RL 37 RX0 yX0_turn wsX0_turn) := goodIn_app (goodIn_of _ (by decide +kernel)) ggL_law_X0_turn
set_option maxRecDepth 20000 in
theorem ggL_law_X1_turn : GoodIn wsL_law wsX1_turn := goodIn_r _ [102, 68, 35, 34, 40, 103, 104, 105, 5, 106, 72, 326, 327, 328, 329, 330, 331, 332, 333, 334, 335, 336, 337, 338, 339, 340, 341, 342] (by decide +kernel) (by decide +kernel)
set_option maxRecDepth 20000 in
theorem gL_law_X1_turn : GoodIn wsL_law (wsV RL 41 RX1 yX1_turn wsX1_turn) := goodIn_app (goodIn_of _ (by decide +kernel)) ggL_law_X1_turn
set_option maxRecDepth 20000 in
theorem ggL_law_X0_stop : GoodIn wsL_law wsX0_stop := goodIn_r _ [110, 17, 111, 22, 23, 24, 85, 86, 87, 2, 88, 60, 308, 309, 310, 311, 312, 313, 314, 315, 316, 317, 318, 319, 320, 321, 322, 323, 324, 325] (by decide +kernel) (by decide +kernel)
set_option maxRecDepth 20000 in
theorem gL_law_X0_stop : GoodIn wsL_law (wsV RL 42 RX0 yX0_stop wsX0_stop) := goodIn_app (goodIn_of _ (by decide +kernel)) ggL_law_X0_stop
set_option maxRecDepth 20000 in
theorem ggL_law_X1_stop : GoodIn wsL_law wsX1_stop := goodIn_r _ [115, 68, 36, 116, 41, 42, 43, 103, 104, 105, 5, 106, 72, 73, 74, 75, 326, 327, 328, 329, 330, 331, 332, 333, 334, 335, 336, 337, 338, 339, 340, 341, 342] (by decide +kernel) (by decide +kernel)
set_option maxRecDepth 20000 in
theorem gL_law_X1_stop : GoodIn wsL_law (wsV RL 46 RX1 yX1_stop wsX1_stop) := goodIn_app (goodIn_of _ (by decide +kernel)) ggL_law_X1_stop
set_option maxRecDepth 20000 in
theorem ggL_law_X0_way : GoodIn wsL_law wsX0_way := goodIn_r _ [120, 121, 122, 123, 124, 125, 126, 127, 128, 2, 129, 111, 130, 131, 132, 133, 22, 24, 17, 25, 134, 135, 136, 137, 138, 23, 139, 140, 141, 142, 143, 144, 145, 146, 147, 18, 148, 149, 150, 151, 152, 153, 154, 155, 156, 26, 60, 28, 157, 158, 159, 160, 161, 162, 163, 164, 165, 166, 167, 168, 169, 170, 171, 172, 173, 174, 175, 16, 15, 89, 90, 91, 92, 21, 93, 94, 95, 96, 97, 98, 176, 177, 178, 179, 180, 19, 20, 181, 182, 183, 184, 185, 186, 187, 188, 29, 189, 190, 191, 192, 308, 309, 310, 311, 312, 313, 314, 315, 316, 317, 318, 319, 320, 321, 322, 323, 324, 325] (by decide +kernel) (by decide +kernel)
set_option maxRecDepth 20000 in
theorem gL_law_X0_way : GoodIn wsL_law (wsV RL 47 RX0 yX0_way wsX0_way) := goodIn_app (goodIn_of _ (by decide +kernel)) ggL_law_X0_way
set_option maxRecDepth 20000 in
theorem ggL_law_X1_way : GoodIn wsL_law wsX1_way := goodIn_r _ [196, 68, 197, 198, 199, 200, 201, 202, 46, 41, 45, 203, 204, 205, 5, 206, 116, 73, 74, 75, 207, 208, 209, 210, 44, 72, 36, 211, 212, 213, 214, 43, 215, 216, 217, 218, 42, 219, 220, 221, 222, 223, 224, 37, 225, 226, 227, 228, 35, 34, 40, 229, 230, 231, 232, 39, 233, 38, 234, 235, 236, 237, 238, 239, 240, 241, 242, 243, 244, 245, 326, 327, 328, 329, 330, 331, 332, 333, 334, 335, 336, 337, 338, 339, 340, 341, 342] (by decide +kernel) (by decide +kernel)
set_option maxRecDepth 20000 in
theorem gL_law_X1_way : GoodIn wsL_law (wsV RL 51 RX1 yX1_way wsX1_way) := goodIn_app (goodIn_of _ (by decide +kernel)) ggL_law_X1_way
set_option maxRecDepth 20000 in
theorem ggL_law_X0_step : GoodIn wsL_law wsX0_step := goodIn_r _ [249, 124, 29, 308, 309, 310, 311, 312, 313, 314, 315, 316, 317, 318, 319, 320, 321, 322, 323, 324, 325] (by decide +kernel) (by decide +kernel)
set_option maxRecDepth 20000 in
theorem gL_law_X0_step : GoodIn wsL_law (wsV RL 52 RX0 yX0_step wsX0_step) := goodIn_app (goodIn_of _ (by decide +kernel)) ggL_law_X0_step
set_option maxRecDepth 20000 in
theorem ggL_law_X1_step : GoodIn wsL_law wsX1_step := goodIn_r _ [253, 68, 200, 46, 326, 327, 328, 329, 330, 331, 332, 333, 334, 335, 336, 337, 338, 339, 340, 341, 342] (by decide +kernel) (by decide +kernel)
set_option maxRecDepth 20000 in
theorem gL_law_X1_step : GoodIn wsL_law (wsV RL 55 RX1 yX1_step wsX1_step) := goodIn_app (goodIn_of _ (by decide +kernel)) ggL_law_X1_step
set_option maxRecDepth 20000 in
theorem ggL_law_X0_gate : GoodIn wsL_law wsX0_gate := goodIn_r _ [257, 180, 19, 20, 85, 86, 87, 2, 88, 60, 308, 309, 310, 311, 312, 313, 314, 315, 316, 317, 318, 319, 320, 321, 322, 323, 324, 325] (by decide +kernel) (by decide +kernel)
set_option maxRecDepth 20000 in
theorem gL_law_X0_gate : GoodIn wsL_law (wsV RL 56 RX0 yX0_gate wsX0_gate) := goodIn_app (goodIn_of _ (by decide +kernel)) ggL_law_X0_gate
set_option maxRecDepth 20000 in
theorem ggL_law_X1_gate : GoodIn wsL_law wsX1_gate := goodIn_r _ [261, 68, 233, 38, 39, 103, 104, 105, 5, 106, 72, 326, 327, 328, 329, 330, 331, 332, 333, 334, 335, 336, 337, 338, 339, 340, 341, 342] (by decide +kernel) (by decide +kernel)
set_option maxRecDepth 20000 in
theorem gL_law_X1_gate : GoodIn wsL_law (wsV RL 60 RX1 yX1_gate wsX1_gate) := goodIn_app (goodIn_of _ (by decide +kernel)) ggL_law_X1_gate
set_option maxRecDepth 20000 in
theorem ggL_law_X0_change : GoodIn wsL_law wsX0_change := goodIn_r _ [265, 59, 18, 85, 86, 87, 2, 88, 60, 308, 309, 310, 311, 312, 313, 314, 315, 316, 317, 318, 319, 320, 321, 322, 323, 324, 325] (by decide +kernel) (by decide +kernel)
set_option maxRecDepth 20000 in
theorem gL_law_X0_change : GoodIn wsL_law (wsV RL 61 RX0 yX0_change wsX0_change) := goodIn_app (goodIn_of _ (by decide +kernel)) ggL_law_X0_change
set_option maxRecDepth 20000 in
theorem ggL_law_X1_change : GoodIn wsL_law wsX1_change := goodIn_r _ [269, 68, 71, 37, 103, 104, 105, 5, 106, 72, 73, 74, 75, 326, 327, 328, 329, 330, 331, 332, 333, 334, 335, 336, 337, 338, 339, 340, 341, 342] (by decide +kernel) (by decide +kernel)
set_option maxRecDepth 20000 in
theorem gL_law_X1_change : GoodIn wsL_law (wsV RL 65 RX1 yX1_change wsX1_change) := goodIn_app (goodIn_of _ (by decide +kernel)) ggL_law_X1_change
set_option maxRecDepth 20000 in
theorem ggL_law_X0_table : GoodIn wsL_law wsX0_table := goodIn_r _ [273, 121, 126, 127, 128, 2, 129, 111, 130, 131, 132, 133, 22, 24, 17, 25, 134, 125, 135, 136, 137, 138, 23, 139, 140, 141, 142, 143, 144, 145, 146, 147, 18, 148, 149, 150, 151, 152, 153, 154, 155, 156, 26, 60, 28, 157, 158, 159, 160, 161, 162, 163, 164, 165, 166, 167, 168, 169, 170, 171, 172, 173, 174, 175, 16, 15, 89, 90, 91, 92, 21, 93, 94, 95, 96, 97, 98, 176, 177, 178, 179, 180, 19, 20, 181, 182, 183, 184, 308, 309, 310, 311, 312, 313, 314, 315, 316, 317, 318, 319, 320, 321, 322, 323, 324, 325] (by decide +kernel) (by decide +kernel)
set_option maxRecDepth 20000 in
theorem gL_law_X0_table : GoodIn wsL_law (wsV RL 66 RX0 yX0_table wsX0_table) := goodIn_app (goodIn_of _ (by decide +kernel)) ggL_law_X0_table
set_option maxRecDepth 20000 in
theorem ggL_law_X1_table : GoodIn wsL_law wsX1_table := goodIn_r _ [277, 68, 197, 201, 202, 203, 204, 205, 5, 206, 116, 207, 208, 209, 210, 44, 45, 41, 72, 36, 211, 212, 213, 214, 43, 215, 216, 217, 218, 42, 219, 220, 221, 222, 223, 224, 37, 225, 226, 227, 228, 35, 34, 40, 229, 230, 231, 232, 39, 233, 38, 234, 235, 236, 237, 238, 239, 240, 241, 326, 327, 328, 329, 330, 331, 332, 333, 334, 335, 336, 337, 338, 339, 340, 341, 342] (by decide +kernel) (by decide +kernel)
set_option maxRecDepth 20000 in
theorem gL_law_X1_table : GoodIn wsL_law (wsV RL 70 RX1 yX1_table wsX1_table) := goodIn_app (goodIn_of _ (by decide +kernel)) ggL_law_X1_table
set_option maxRecDepth 20000 in
theorem ggL_law_L_piece2 : GoodIn wsL_law wsL_piece2 := goodIn_r _ [280, 281, 282, 283, 2, 284, 285, 286, 287, 15, 16, 85, 86, 87, 88, 60, 343, 344, 345, 346, 347, 348, 308, 309, 310, 311, 312, 313, 314, 315, 316, 317, 318, 319, 320, 321, 322, 323, 324, 325] (by decide +kernel) (by decide +kernel)
set_option maxRecDepth 20000 in
theorem gL_law_L_piece2 : GoodIn wsL_law (va_wsS RL 71 yL_piece2 wsL_piece2) := goodIn_app (goodIn_of _ (by decide +kernel)) ggL_law_L_piece2
set_option maxRecDepth 20000 in
theorem ggL_law_X1_piece2 : GoodIn wsL_law wsX1_piece2 := goodIn_r _ [291, 68, 34, 35, 103, 104, 105, 5, 106, 72, 326, 327, 328, 329, 330, 331, 332, 333, 334, 335, 336, 337, 338, 339, 340, 341, 342] (by decide +kernel) (by decide +kernel)
set_option maxRecDepth 20000 in
theorem gL_law_X1_piece2 : GoodIn wsL_law (wsV RL 74 RX1 yX1_piece2 wsX1_piece2) := goodIn_app (goodIn_of _ (by decide +kernel)) ggL_law_X1_piece2
set_option maxRecDepth 20000 in
theorem ggL_law_X0_service : GoodIn wsL_law wsX0_service := goodIn_r _ [295, 85, 86, 87, 2, 88, 60, 296, 297, 298, 299, 111, 22, 23, 181, 182, 183, 184, 20, 300, 301, 302, 303, 172, 173, 174, 175, 16, 15, 89, 90, 91, 92, 21, 93, 94, 95, 96, 97, 98, 308, 309, 310, 311, 312, 313, 314, 315, 316, 317, 318, 319, 320, 321, 322, 323, 324, 325] (by decide +kernel) (by decide +kernel)
set_option maxRecDepth 20000 in
theorem gL_law_X0_service : GoodIn wsL_law (wsV RL 75 RX0 yX0_service wsX0_service) := goodIn_app (goodIn_of _ (by decide +kernel)) ggL_law_X0_service
set_option maxRecDepth 20000 in
theorem ggL_law_X1_service : GoodIn wsL_law wsX1_service := goodIn_r _ [307, 68, 39, 116, 41, 42, 72, 103, 104, 105, 5, 106, 225, 226, 227, 228, 35, 34, 40, 326, 327, 328, 329, 330, 331, 332, 333, 334, 335, 336, 337, 338, 339, 340, 341, 342] (by decide +kernel) (by decide +kernel)
set_option maxRecDepth 20000 in
theorem gL_law_X1_service : GoodIn wsL_law (wsV RL 79 RX1 yX1_service wsX1_service) := goodIn_app (goodIn_of _ (by decide +kernel)) ggL_law_X1_service
theorem dL_law_0 : decode cL_law 0 = .ok (.new 8, 3) := by decide +kernel
theorem dL_law_3 : decode cL_law 3 = .ok (.dup, 1) := by decide +kernel
theorem dL_law_4 : decode cL_law 4 = .ok (.invokespecial 21, 3) := by decide +kernel
theorem dL_law_7 : decode cL_law 7 = .ok (.astore_n 1, 1) := by decide +kernel
theorem dL_law_8 : decode cL_law 8 = .ok (.new 22, 3) := by decide +kernel
theorem dL_law_11 : decode cL_law 11 = .ok (.dup, 1) := by decide +kernel
theorem dL_law_12 : decode cL_law 12 = .ok (.invokespecial 24, 3) := by decide +kernel
theorem dL_law_15 : decode cL_law 15 = .ok (.astore_n 2, 1) := by decide +kernel
theorem dL_law_16 : decode cL_law 16 = .ok (.iconst 1, 1) := by decide +kernel
theorem dL_law_17 : decode cL_law 17 = .ok (.newarray .long, 2) := by decide +kernel
theorem dL_law_19 : decode cL_law 19 = .ok (.astore_n 3, 1) := by decide +kernel
theorem dL_law_20 : decode cL_law 20 = .ok (.iconst 0, 1) := by decide +kernel
theorem dL_law_21 : decode cL_law 21 = .ok (.istore 4, 2) := by decide +kernel
theorem dL_law_23 : decode cL_law 23 = .ok (.iload 4, 2) := by decide +kernel
theorem dL_law_25 : decode cL_law 25 = .ok (.aload_n 0, 1) := by decide +kernel
theorem dL_law_26 : decode cL_law 26 = .ok (.arraylength, 1) := by decide +kernel
theorem dL_law_27 : decode cL_law 27 = .ok (.bipush 7, 2) := by decide +kernel
theorem dL_law_29 : decode cL_law 29 = .ok (.isub, 1) := by decide +kernel
theorem dL_law_30 : decode cL_law 30 = .ok (.if_icmp .gt 796, 3) := by decide +kernel
theorem dL_law_33 : decode cL_law 33 = .ok (.aload_n 0, 1) := by decide +kernel
theorem dL_law_34 : decode cL_law 34 = .ok (.iload 4, 2) := by decide +kernel
theorem dL_law_36 : decode cL_law 36 = .ok (.iaload, 1) := by decide +kernel
theorem dL_law_37 : decode cL_law 37 = .ok (.bipush 15, 2) := by decide +kernel
theorem dL_law_39 : decode cL_law 39 = .ok (.iand, 1) := by decide +kernel
theorem dL_law_40 : decode cL_law 40 = .ok (.tableswitch 780 0 9 #[56, 214, 279, 360, 442, 467, 580, 649, 687, 743], 56) := by decide +kernel
theorem dL_law_96 : decode cL_law 96 = .ok (.aload_n 1, 1) := by decide +kernel
theorem dL_law_97 : decode cL_law 97 = .ok (.aload_n 0, 1) := by decide +kernel
theorem dL_law_98 : decode cL_law 98 = .ok (.iload 4, 2) := by decide +kernel
theorem dL_law_100 : decode cL_law 100 = .ok (.iconst 1, 1) := by decide +kernel
theorem dL_law_101 : decode cL_law 101 = .ok (.iadd, 1) := by decide +kernel
theorem dL_law_102 : decode cL_law 102 = .ok (.iaload, 1) := by decide +kernel
theorem dL_law_103 : decode cL_law 103 = .ok (.aload_n 0, 1) := by decide +kernel
theorem dL_law_104 : decode cL_law 104 = .ok (.iload 4, 2) := by decide +kernel
theorem dL_law_106 : decode cL_law 106 = .ok (.iconst 2, 1) := by decide +kernel
theorem dL_law_107 : decode cL_law 107 = .ok (.iadd, 1) := by decide +kernel
theorem dL_law_108 : decode cL_law 108 = .ok (.iaload, 1) := by decide +kernel
theorem dL_law_109 : decode cL_law 109 = .ok (.aload_n 0, 1) := by decide +kernel
theorem dL_law_110 : decode cL_law 110 = .ok (.iload 4, 2) := by decide +kernel
theorem dL_law_112 : decode cL_law 112 = .ok (.iconst 3, 1) := by decide +kernel
theorem dL_law_113 : decode cL_law 113 = .ok (.iadd, 1) := by decide +kernel
theorem dL_law_114 : decode cL_law 114 = .ok (.iaload, 1) := by decide +kernel
theorem dL_law_115 : decode cL_law 115 = .ok (.i2l, 1) := by decide +kernel
theorem dL_law_116 : decode cL_law 116 = .ok (.bipush 32, 2) := by decide +kernel
theorem dL_law_118 : decode cL_law 118 = .ok (.lshl, 1) := by decide +kernel
theorem dL_law_119 : decode cL_law 119 = .ok (.aload_n 0, 1) := by decide +kernel
theorem dL_law_120 : decode cL_law 120 = .ok (.iload 4, 2) := by decide +kernel
theorem dL_law_122 : decode cL_law 122 = .ok (.iconst 4, 1) := by decide +kernel
theorem dL_law_123 : decode cL_law 123 = .ok (.iadd, 1) := by decide +kernel
theorem dL_law_124 : decode cL_law 124 = .ok (.iaload, 1) := by decide +kernel
theorem dL_law_125 : decode cL_law 125 = .ok (.i2l, 1) := by decide +kernel
theorem dL_law_126 : decode cL_law 126 = .ok (.ldc2_w 25, 3) := by decide +kernel
theorem dL_law_129 : decode cL_law 129 = .ok (.land, 1) := by decide +kernel
theorem dL_law_130 : decode cL_law 130 = .ok (.lor, 1) := by decide +kernel
theorem dL_law_131 : decode cL_law 131 = .ok (.aload_n 0, 1) := by decide +kernel
theorem dL_law_132 : decode cL_law 132 = .ok (.iload 4, 2) := by decide +kernel
theorem dL_law_134 : decode cL_law 134 = .ok (.iconst 5, 1) := by decide +kernel
theorem dL_law_135 : decode cL_law 135 = .ok (.iadd, 1) := by decide +kernel
theorem dL_law_136 : decode cL_law 136 = .ok (.iaload, 1) := by decide +kernel
theorem dL_law_137 : decode cL_law 137 = .ok (.i2l, 1) := by decide +kernel
theorem dL_law_138 : decode cL_law 138 = .ok (.bipush 32, 2) := by decide +kernel
theorem dL_law_140 : decode cL_law 140 = .ok (.lshl, 1) := by decide +kernel
theorem dL_law_141 : decode cL_law 141 = .ok (.aload_n 0, 1) := by decide +kernel
theorem dL_law_142 : decode cL_law 142 = .ok (.iload 4, 2) := by decide +kernel
theorem dL_law_144 : decode cL_law 144 = .ok (.bipush 6, 2) := by decide +kernel
theorem dL_law_146 : decode cL_law 146 = .ok (.iadd, 1) := by decide +kernel
theorem dL_law_147 : decode cL_law 147 = .ok (.iaload, 1) := by decide +kernel
theorem dL_law_148 : decode cL_law 148 = .ok (.i2l, 1) := by decide +kernel
theorem dL_law_149 : decode cL_law 149 = .ok (.ldc2_w 25, 3) := by decide +kernel
theorem dL_law_152 : decode cL_law 152 = .ok (.land, 1) := by decide +kernel
theorem dL_law_153 : decode cL_law 153 = .ok (.lor, 1) := by decide +kernel
theorem dL_law_154 : decode cL_law 154 = .ok (.aload_n 3, 1) := by decide +kernel
theorem dL_law_155 : decode cL_law 155 = .ok (.invokestatic 27, 3) := by decide +kernel
theorem dL_law_158 : decode cL_law 158 = .ok (.istore 5, 2) := by decide +kernel
theorem dL_law_160 : decode cL_law 160 = .ok (.aload_n 2, 1) := by decide +kernel
theorem dL_law_161 : decode cL_law 161 = .ok (.aload_n 0, 1) := by decide +kernel
theorem dL_law_162 : decode cL_law 162 = .ok (.iload 4, 2) := by decide +kernel
theorem dL_law_164 : decode cL_law 164 = .ok (.iconst 1, 1) := by decide +kernel
theorem dL_law_165 : decode cL_law 165 = .ok (.iadd, 1) := by decide +kernel
theorem dL_law_166 : decode cL_law 166 = .ok (.iaload, 1) := by decide +kernel
theorem dL_law_167 : decode cL_law 167 = .ok (.aload_n 0, 1) := by decide +kernel
theorem dL_law_168 : decode cL_law 168 = .ok (.iload 4, 2) := by decide +kernel
theorem dL_law_170 : decode cL_law 170 = .ok (.iconst 2, 1) := by decide +kernel
theorem dL_law_171 : decode cL_law 171 = .ok (.iadd, 1) := by decide +kernel
theorem dL_law_172 : decode cL_law 172 = .ok (.iaload, 1) := by decide +kernel
theorem dL_law_173 : decode cL_law 173 = .ok (.aload_n 0, 1) := by decide +kernel
theorem dL_law_174 : decode cL_law 174 = .ok (.iload 4, 2) := by decide +kernel
theorem dL_law_176 : decode cL_law 176 = .ok (.iconst 3, 1) := by decide +kernel
theorem dL_law_177 : decode cL_law 177 = .ok (.iadd, 1) := by decide +kernel
theorem dL_law_178 : decode cL_law 178 = .ok (.iaload, 1) := by decide +kernel
theorem dL_law_179 : decode cL_law 179 = .ok (.i2l, 1) := by decide +kernel
theorem dL_law_180 : decode cL_law 180 = .ok (.bipush 32, 2) := by decide +kernel
theorem dL_law_182 : decode cL_law 182 = .ok (.lshl, 1) := by decide +kernel
theorem dL_law_183 : decode cL_law 183 = .ok (.aload_n 0, 1) := by decide +kernel
theorem dL_law_184 : decode cL_law 184 = .ok (.iload 4, 2) := by decide +kernel
theorem dL_law_186 : decode cL_law 186 = .ok (.iconst 4, 1) := by decide +kernel
theorem dL_law_187 : decode cL_law 187 = .ok (.iadd, 1) := by decide +kernel
theorem dL_law_188 : decode cL_law 188 = .ok (.iaload, 1) := by decide +kernel
theorem dL_law_189 : decode cL_law 189 = .ok (.i2l, 1) := by decide +kernel
theorem dL_law_190 : decode cL_law 190 = .ok (.ldc2_w 25, 3) := by decide +kernel
theorem dL_law_193 : decode cL_law 193 = .ok (.land, 1) := by decide +kernel
theorem dL_law_194 : decode cL_law 194 = .ok (.lor, 1) := by decide +kernel
theorem dL_law_195 : decode cL_law 195 = .ok (.aload_n 0, 1) := by decide +kernel
theorem dL_law_196 : decode cL_law 196 = .ok (.iload 4, 2) := by decide +kernel
theorem dL_law_198 : decode cL_law 198 = .ok (.iconst 5, 1) := by decide +kernel
theorem dL_law_199 : decode cL_law 199 = .ok (.iadd, 1) := by decide +kernel
theorem dL_law_200 : decode cL_law 200 = .ok (.iaload, 1) := by decide +kernel
theorem dL_law_201 : decode cL_law 201 = .ok (.i2l, 1) := by decide +kernel
theorem dL_law_202 : decode cL_law 202 = .ok (.bipush 32, 2) := by decide +kernel
theorem dL_law_204 : decode cL_law 204 = .ok (.lshl, 1) := by decide +kernel
theorem dL_law_205 : decode cL_law 205 = .ok (.aload_n 0, 1) := by decide +kernel
theorem dL_law_206 : decode cL_law 206 = .ok (.iload 4, 2) := by decide +kernel
theorem dL_law_208 : decode cL_law 208 = .ok (.bipush 6, 2) := by decide +kernel
theorem dL_law_210 : decode cL_law 210 = .ok (.iadd, 1) := by decide +kernel
theorem dL_law_211 : decode cL_law 211 = .ok (.iaload, 1) := by decide +kernel
theorem dL_law_212 : decode cL_law 212 = .ok (.i2l, 1) := by decide +kernel
theorem dL_law_213 : decode cL_law 213 = .ok (.ldc2_w 25, 3) := by decide +kernel
theorem dL_law_216 : decode cL_law 216 = .ok (.land, 1) := by decide +kernel
theorem dL_law_217 : decode cL_law 217 = .ok (.lor, 1) := by decide +kernel
theorem dL_law_218 : decode cL_law 218 = .ok (.invokevirtual 32, 3) := by decide +kernel
theorem dL_law_221 : decode cL_law 221 = .ok (.istore 6, 2) := by decide +kernel
theorem dL_law_223 : decode cL_law 223 = .ok (.aload_n 2, 1) := by decide +kernel
theorem dL_law_224 : decode cL_law 224 = .ok (.invokevirtual 33, 3) := by decide +kernel
theorem dL_law_227 : decode cL_law 227 = .ok (.iload 5, 2) := by decide +kernel
theorem dL_law_229 : decode cL_law 229 = .ok (.if_icmp .eq 5, 3) := by decide +kernel
theorem dL_law_232 : decode cL_law 232 = .ok (.iconst 0, 1) := by decide +kernel
theorem dL_law_233 : decode cL_law 233 = .ok (.ireturn, 1) := by decide +kernel
theorem dL_law_234 : decode cL_law 234 = .ok (.iload 5, 2) := by decide +kernel
theorem dL_law_236 : decode cL_law 236 = .ok (.ifCond .ne 15, 3) := by decide +kernel
theorem dL_law_239 : decode cL_law 239 = .ok (.aload_n 3, 1) := by decide +kernel
theorem dL_law_240 : decode cL_law 240 = .ok (.iconst 0, 1) := by decide +kernel
theorem dL_law_241 : decode cL_law 241 = .ok (.laload, 1) := by decide +kernel
theorem dL_law_242 : decode cL_law 242 = .ok (.iload 6, 2) := by decide +kernel
theorem dL_law_244 : decode cL_law 244 = .ok (.i2l, 1) := by decide +kernel
theorem dL_law_245 : decode cL_law 245 = .ok (.lcmp, 1) := by decide +kernel
theorem dL_law_246 : decode cL_law 246 = .ok (.ifCond .eq 5, 3) := by decide +kernel
theorem dL_law_249 : decode cL_law 249 = .ok (.iconst 0, 1) := by decide +kernel
theorem dL_law_250 : decode cL_law 250 = .ok (.ireturn, 1) := by decide +kernel
theorem dL_law_251 : decode cL_law 251 = .ok (.goto 569, 3) := by decide +kernel
theorem dL_law_254 : decode cL_law 254 = .ok (.aload_n 1, 1) := by decide +kernel
theorem dL_law_255 : decode cL_law 255 = .ok (.aload_n 0, 1) := by decide +kernel
theorem dL_law_256 : decode cL_law 256 = .ok (.iload 4, 2) := by decide +kernel
theorem dL_law_258 : decode cL_law 258 = .ok (.iconst 1, 1) := by decide +kernel
theorem dL_law_259 : decode cL_law 259 = .ok (.iadd, 1) := by decide +kernel
theorem dL_law_260 : decode cL_law 260 = .ok (.iaload, 1) := by decide +kernel
theorem dL_law_261 : decode cL_law 261 = .ok (.aload_n 0, 1) := by decide +kernel
theorem dL_law_262 : decode cL_law 262 = .ok (.iload 4, 2) := by decide +kernel
theorem dL_law_264 : decode cL_law 264 = .ok (.iconst 2, 1) := by decide +kernel
theorem dL_law_265 : decode cL_law 265 = .ok (.iadd, 1) := by decide +kernel
theorem dL_law_266 : decode cL_law 266 = .ok (.iaload, 1) := by decide +kernel
theorem dL_law_267 : decode cL_law 267 = .ok (.aload_n 0, 1) := by decide +kernel
theorem dL_law_268 : decode cL_law 268 = .ok (.iload 4, 2) := by decide +kernel
theorem dL_law_270 : decode cL_law 270 = .ok (.iconst 3, 1) := by decide +kernel
theorem dL_law_271 : decode cL_law 271 = .ok (.iadd, 1) := by decide +kernel
end
section
theorem dL_law_272 : decode cL_law 272 = .ok (.iaload, 1) := by decide +kernel
theorem dL_law_273 : decode cL_law 273 = .ok (.ifCond .eq 7, 3) := by decide +kernel
theorem dL_law_276 : decode cL_law 276 = .ok (.iconst 1, 1) := by decide +kernel
theorem dL_law_277 : decode cL_law 277 = .ok (.goto 4, 3) := by decide +kernel
theorem dL_law_280 : decode cL_law 280 = .ok (.iconst 0, 1) := by decide +kernel
theorem dL_law_281 : decode cL_law 281 = .ok (.invokevirtual 37, 3) := by decide +kernel
theorem dL_law_284 : decode cL_law 284 = .ok (.aload_n 2, 1) := by decide +kernel
theorem dL_law_285 : decode cL_law 285 = .ok (.aload_n 0, 1) := by decide +kernel
theorem dL_law_286 : decode cL_law 286 = .ok (.iload 4, 2) := by decide +kernel
theorem dL_law_288 : decode cL_law 288 = .ok (.iconst 1, 1) := by decide +kernel
theorem dL_law_289 : decode cL_law 289 = .ok (.iadd, 1) := by decide +kernel
theorem dL_law_290 : decode cL_law 290 = .ok (.iaload, 1) := by decide +kernel
theorem dL_law_291 : decode cL_law 291 = .ok (.aload_n 0, 1) := by decide +kernel
theorem dL_law_292 : decode cL_law 292 = .ok (.iload 4, 2) := by decide +kernel
theorem dL_law_294 : decode cL_law 294 = .ok (.iconst 2, 1) := by decide +kernel
theorem dL_law_295 : decode cL_law 295 = .ok (.iadd, 1) := by decide +kernel
theorem dL_law_296 : decode cL_law 296 = .ok (.iaload, 1) := by decide +kernel
theorem dL_law_297 : decode cL_law 297 = .ok (.aload_n 0, 1) := by decide +kernel
theorem dL_law_298 : decode cL_law 298 = .ok (.iload 4, 2) := by decide +kernel
theorem dL_law_300 : decode cL_law 300 = .ok (.iconst 3, 1) := by decide +kernel
theorem dL_law_301 : decode cL_law 301 = .ok (.iadd, 1) := by decide +kernel
theorem dL_law_302 : decode cL_law 302 = .ok (.iaload, 1) := by decide +kernel
theorem dL_law_303 : decode cL_law 303 = .ok (.ifCond .eq 7, 3) := by decide +kernel
theorem dL_law_306 : decode cL_law 306 = .ok (.iconst 1, 1) := by decide +kernel
theorem dL_law_307 : decode cL_law 307 = .ok (.goto 4, 3) := by decide +kernel
theorem dL_law_310 : decode cL_law 310 = .ok (.iconst 0, 1) := by decide +kernel
theorem dL_law_311 : decode cL_law 311 = .ok (.invokevirtual 41, 3) := by decide +kernel
theorem dL_law_314 : decode cL_law 314 = .ok (.if_icmp .eq 506, 3) := by decide +kernel
theorem dL_law_317 : decode cL_law 317 = .ok (.iconst 0, 1) := by decide +kernel
theorem dL_law_318 : decode cL_law 318 = .ok (.ireturn, 1) := by decide +kernel
theorem dL_law_319 : decode cL_law 319 = .ok (.aload_n 1, 1) := by decide +kernel
theorem dL_law_320 : decode cL_law 320 = .ok (.aload_n 0, 1) := by decide +kernel
theorem dL_law_321 : decode cL_law 321 = .ok (.iload 4, 2) := by decide +kernel
theorem dL_law_323 : decode cL_law 323 = .ok (.iconst 1, 1) := by decide +kernel
theorem dL_law_324 : decode cL_law 324 = .ok (.iadd, 1) := by decide +kernel
theorem dL_law_325 : decode cL_law 325 = .ok (.iaload, 1) := by decide +kernel
theorem dL_law_326 : decode cL_law 326 = .ok (.aload_n 0, 1) := by decide +kernel
theorem dL_law_327 : decode cL_law 327 = .ok (.iload 4, 2) := by decide +kernel
theorem dL_law_329 : decode cL_law 329 = .ok (.iconst 2, 1) := by decide +kernel
theorem dL_law_330 : decode cL_law 330 = .ok (.iadd, 1) := by decide +kernel
theorem dL_law_331 : decode cL_law 331 = .ok (.iaload, 1) := by decide +kernel
theorem dL_law_332 : decode cL_law 332 = .ok (.aload_n 0, 1) := by decide +kernel
theorem dL_law_333 : decode cL_law 333 = .ok (.iload 4, 2) := by decide +kernel
theorem dL_law_335 : decode cL_law 335 = .ok (.iconst 3, 1) := by decide +kernel
theorem dL_law_336 : decode cL_law 336 = .ok (.iadd, 1) := by decide +kernel
theorem dL_law_337 : decode cL_law 337 = .ok (.iaload, 1) := by decide +kernel
theorem dL_law_338 : decode cL_law 338 = .ok (.i2l, 1) := by decide +kernel
theorem dL_law_339 : decode cL_law 339 = .ok (.bipush 32, 2) := by decide +kernel
theorem dL_law_341 : decode cL_law 341 = .ok (.lshl, 1) := by decide +kernel
theorem dL_law_342 : decode cL_law 342 = .ok (.aload_n 0, 1) := by decide +kernel
theorem dL_law_343 : decode cL_law 343 = .ok (.iload 4, 2) := by decide +kernel
theorem dL_law_345 : decode cL_law 345 = .ok (.iconst 4, 1) := by decide +kernel
theorem dL_law_346 : decode cL_law 346 = .ok (.iadd, 1) := by decide +kernel
theorem dL_law_347 : decode cL_law 347 = .ok (.iaload, 1) := by decide +kernel
theorem dL_law_348 : decode cL_law 348 = .ok (.i2l, 1) := by decide +kernel
theorem dL_law_349 : decode cL_law 349 = .ok (.ldc2_w 25, 3) := by decide +kernel
theorem dL_law_352 : decode cL_law 352 = .ok (.land, 1) := by decide +kernel
theorem dL_law_353 : decode cL_law 353 = .ok (.lor, 1) := by decide +kernel
theorem dL_law_354 : decode cL_law 354 = .ok (.invokevirtual 42, 3) := by decide +kernel
theorem dL_law_357 : decode cL_law 357 = .ok (.aload_n 2, 1) := by decide +kernel
theorem dL_law_358 : decode cL_law 358 = .ok (.aload_n 0, 1) := by decide +kernel
theorem dL_law_359 : decode cL_law 359 = .ok (.iload 4, 2) := by decide +kernel
theorem dL_law_361 : decode cL_law 361 = .ok (.iconst 1, 1) := by decide +kernel
theorem dL_law_362 : decode cL_law 362 = .ok (.iadd, 1) := by decide +kernel
theorem dL_law_363 : decode cL_law 363 = .ok (.iaload, 1) := by decide +kernel
theorem dL_law_364 : decode cL_law 364 = .ok (.aload_n 0, 1) := by decide +kernel
theorem dL_law_365 : decode cL_law 365 = .ok (.iload 4, 2) := by decide +kernel
theorem dL_law_367 : decode cL_law 367 = .ok (.iconst 2, 1) := by decide +kernel
theorem dL_law_368 : decode cL_law 368 = .ok (.iadd, 1) := by decide +kernel
theorem dL_law_369 : decode cL_law 369 = .ok (.iaload, 1) := by decide +kernel
theorem dL_law_370 : decode cL_law 370 = .ok (.aload_n 0, 1) := by decide +kernel
theorem dL_law_371 : decode cL_law 371 = .ok (.iload 4, 2) := by decide +kernel
theorem dL_law_373 : decode cL_law 373 = .ok (.iconst 3, 1) := by decide +kernel
theorem dL_law_374 : decode cL_law 374 = .ok (.iadd, 1) := by decide +kernel
theorem dL_law_375 : decode cL_law 375 = .ok (.iaload, 1) := by decide +kernel
theorem dL_law_376 : decode cL_law 376 = .ok (.i2l, 1) := by decide +kernel
theorem dL_law_377 : decode cL_law 377 = .ok (.bipush 32, 2) := by decide +kernel
theorem dL_law_379 : decode cL_law 379 = .ok (.lshl, 1) := by decide +kernel
theorem dL_law_380 : decode cL_law 380 = .ok (.aload_n 0, 1) := by decide +kernel
theorem dL_law_381 : decode cL_law 381 = .ok (.iload 4, 2) := by decide +kernel
theorem dL_law_383 : decode cL_law 383 = .ok (.iconst 4, 1) := by decide +kernel
theorem dL_law_384 : decode cL_law 384 = .ok (.iadd, 1) := by decide +kernel
theorem dL_law_385 : decode cL_law 385 = .ok (.iaload, 1) := by decide +kernel
theorem dL_law_386 : decode cL_law 386 = .ok (.i2l, 1) := by decide +kernel
theorem dL_law_387 : decode cL_law 387 = .ok (.ldc2_w 25, 3) := by decide +kernel
theorem dL_law_390 : decode cL_law 390 = .ok (.land, 1) := by decide +kernel
theorem dL_law_391 : decode cL_law 391 = .ok (.lor, 1) := by decide +kernel
theorem dL_law_392 : decode cL_law 392 = .ok (.invokevirtual 46, 3) := by decide +kernel
theorem dL_law_395 : decode cL_law 395 = .ok (.if_icmp .eq 425, 3) := by decide +kernel
theorem dL_law_398 : decode cL_law 398 = .ok (.iconst 0, 1) := by decide +kernel
theorem dL_law_399 : decode cL_law 399 = .ok (.ireturn, 1) := by decide +kernel
theorem dL_law_400 : decode cL_law 400 = .ok (.aload_n 1, 1) := by decide +kernel
theorem dL_law_401 : decode cL_law 401 = .ok (.aload_n 0, 1) := by decide +kernel
theorem dL_law_402 : decode cL_law 402 = .ok (.iload 4, 2) := by decide +kernel
theorem dL_law_404 : decode cL_law 404 = .ok (.iconst 1, 1) := by decide +kernel
theorem dL_law_405 : decode cL_law 405 = .ok (.iadd, 1) := by decide +kernel
theorem dL_law_406 : decode cL_law 406 = .ok (.iaload, 1) := by decide +kernel
theorem dL_law_407 : decode cL_law 407 = .ok (.aload_n 0, 1) := by decide +kernel
theorem dL_law_408 : decode cL_law 408 = .ok (.iload 4, 2) := by decide +kernel
theorem dL_law_410 : decode cL_law 410 = .ok (.iconst 2, 1) := by decide +kernel
theorem dL_law_411 : decode cL_law 411 = .ok (.iadd, 1) := by decide +kernel
theorem dL_law_412 : decode cL_law 412 = .ok (.iaload, 1) := by decide +kernel
theorem dL_law_413 : decode cL_law 413 = .ok (.aload_n 0, 1) := by decide +kernel
theorem dL_law_414 : decode cL_law 414 = .ok (.iload 4, 2) := by decide +kernel
theorem dL_law_416 : decode cL_law 416 = .ok (.iconst 3, 1) := by decide +kernel
theorem dL_law_417 : decode cL_law 417 = .ok (.iadd, 1) := by decide +kernel
theorem dL_law_418 : decode cL_law 418 = .ok (.iaload, 1) := by decide +kernel
theorem dL_law_419 : decode cL_law 419 = .ok (.i2l, 1) := by decide +kernel
theorem dL_law_420 : decode cL_law 420 = .ok (.bipush 32, 2) := by decide +kernel
theorem dL_law_422 : decode cL_law 422 = .ok (.lshl, 1) := by decide +kernel
theorem dL_law_423 : decode cL_law 423 = .ok (.aload_n 0, 1) := by decide +kernel
theorem dL_law_424 : decode cL_law 424 = .ok (.iload 4, 2) := by decide +kernel
theorem dL_law_426 : decode cL_law 426 = .ok (.iconst 4, 1) := by decide +kernel
theorem dL_law_427 : decode cL_law 427 = .ok (.iadd, 1) := by decide +kernel
theorem dL_law_428 : decode cL_law 428 = .ok (.iaload, 1) := by decide +kernel
theorem dL_law_429 : decode cL_law 429 = .ok (.i2l, 1) := by decide +kernel
theorem dL_law_430 : decode cL_law 430 = .ok (.ldc2_w 25, 3) := by decide +kernel
theorem dL_law_433 : decode cL_law 433 = .ok (.land, 1) := by decide +kernel
theorem dL_law_434 : decode cL_law 434 = .ok (.lor, 1) := by decide +kernel
theorem dL_law_435 : decode cL_law 435 = .ok (.invokevirtual 47, 3) := by decide +kernel
theorem dL_law_438 : decode cL_law 438 = .ok (.aload_n 2, 1) := by decide +kernel
theorem dL_law_439 : decode cL_law 439 = .ok (.aload_n 0, 1) := by decide +kernel
theorem dL_law_440 : decode cL_law 440 = .ok (.iload 4, 2) := by decide +kernel
theorem dL_law_442 : decode cL_law 442 = .ok (.iconst 1, 1) := by decide +kernel
theorem dL_law_443 : decode cL_law 443 = .ok (.iadd, 1) := by decide +kernel
theorem dL_law_444 : decode cL_law 444 = .ok (.iaload, 1) := by decide +kernel
theorem dL_law_445 : decode cL_law 445 = .ok (.aload_n 0, 1) := by decide +kernel
theorem dL_law_446 : decode cL_law 446 = .ok (.iload 4, 2) := by decide +kernel
theorem dL_law_448 : decode cL_law 448 = .ok (.iconst 2, 1) := by decide +kernel
theorem dL_law_449 : decode cL_law 449 = .ok (.iadd, 1) := by decide +kernel
theorem dL_law_450 : decode cL_law 450 = .ok (.iaload, 1) := by decide +kernel
theorem dL_law_451 : decode cL_law 451 = .ok (.aload_n 0, 1) := by decide +kernel
theorem dL_law_452 : decode cL_law 452 = .ok (.iload 4, 2) := by decide +kernel
theorem dL_law_454 : decode cL_law 454 = .ok (.iconst 3, 1) := by decide +kernel
theorem dL_law_455 : decode cL_law 455 = .ok (.iadd, 1) := by decide +kernel
theorem dL_law_456 : decode cL_law 456 = .ok (.iaload, 1) := by decide +kernel
theorem dL_law_457 : decode cL_law 457 = .ok (.i2l, 1) := by decide +kernel
theorem dL_law_458 : decode cL_law 458 = .ok (.bipush 32, 2) := by decide +kernel
theorem dL_law_460 : decode cL_law 460 = .ok (.lshl, 1) := by decide +kernel
theorem dL_law_461 : decode cL_law 461 = .ok (.aload_n 0, 1) := by decide +kernel
theorem dL_law_462 : decode cL_law 462 = .ok (.iload 4, 2) := by decide +kernel
theorem dL_law_464 : decode cL_law 464 = .ok (.iconst 4, 1) := by decide +kernel
theorem dL_law_465 : decode cL_law 465 = .ok (.iadd, 1) := by decide +kernel
theorem dL_law_466 : decode cL_law 466 = .ok (.iaload, 1) := by decide +kernel
theorem dL_law_467 : decode cL_law 467 = .ok (.i2l, 1) := by decide +kernel
theorem dL_law_468 : decode cL_law 468 = .ok (.ldc2_w 25, 3) := by decide +kernel
theorem dL_law_471 : decode cL_law 471 = .ok (.land, 1) := by decide +kernel
theorem dL_law_472 : decode cL_law 472 = .ok (.lor, 1) := by decide +kernel
theorem dL_law_473 : decode cL_law 473 = .ok (.invokevirtual 51, 3) := by decide +kernel
theorem dL_law_476 : decode cL_law 476 = .ok (.lcmp, 1) := by decide +kernel
theorem dL_law_477 : decode cL_law 477 = .ok (.ifCond .eq 343, 3) := by decide +kernel
theorem dL_law_480 : decode cL_law 480 = .ok (.iconst 0, 1) := by decide +kernel
theorem dL_law_481 : decode cL_law 481 = .ok (.ireturn, 1) := by decide +kernel
theorem dL_law_482 : decode cL_law 482 = .ok (.aload_n 1, 1) := by decide +kernel
theorem dL_law_483 : decode cL_law 483 = .ok (.aload_n 0, 1) := by decide +kernel
theorem dL_law_484 : decode cL_law 484 = .ok (.iload 4, 2) := by decide +kernel
theorem dL_law_486 : decode cL_law 486 = .ok (.iconst 1, 1) := by decide +kernel
theorem dL_law_487 : decode cL_law 487 = .ok (.iadd, 1) := by decide +kernel
theorem dL_law_488 : decode cL_law 488 = .ok (.iaload, 1) := by decide +kernel
theorem dL_law_489 : decode cL_law 489 = .ok (.invokevirtual 52, 3) := by decide +kernel
theorem dL_law_492 : decode cL_law 492 = .ok (.aload_n 2, 1) := by decide +kernel
theorem dL_law_493 : decode cL_law 493 = .ok (.aload_n 0, 1) := by decide +kernel
theorem dL_law_494 : decode cL_law 494 = .ok (.iload 4, 2) := by decide +kernel
theorem dL_law_496 : decode cL_law 496 = .ok (.iconst 1, 1) := by decide +kernel
theorem dL_law_497 : decode cL_law 497 = .ok (.iadd, 1) := by decide +kernel
theorem dL_law_498 : decode cL_law 498 = .ok (.iaload, 1) := by decide +kernel
theorem dL_law_499 : decode cL_law 499 = .ok (.invokevirtual 55, 3) := by decide +kernel
theorem dL_law_502 : decode cL_law 502 = .ok (.if_icmp .eq 318, 3) := by decide +kernel
theorem dL_law_505 : decode cL_law 505 = .ok (.iconst 0, 1) := by decide +kernel
theorem dL_law_506 : decode cL_law 506 = .ok (.ireturn, 1) := by decide +kernel
theorem dL_law_507 : decode cL_law 507 = .ok (.aload_n 1, 1) := by decide +kernel
theorem dL_law_508 : decode cL_law 508 = .ok (.aload_n 0, 1) := by decide +kernel
theorem dL_law_509 : decode cL_law 509 = .ok (.iload 4, 2) := by decide +kernel
theorem dL_law_511 : decode cL_law 511 = .ok (.iconst 1, 1) := by decide +kernel
theorem dL_law_512 : decode cL_law 512 = .ok (.iadd, 1) := by decide +kernel
theorem dL_law_513 : decode cL_law 513 = .ok (.iaload, 1) := by decide +kernel
theorem dL_law_514 : decode cL_law 514 = .ok (.aload_n 0, 1) := by decide +kernel
theorem dL_law_515 : decode cL_law 515 = .ok (.iload 4, 2) := by decide +kernel
theorem dL_law_517 : decode cL_law 517 = .ok (.iconst 2, 1) := by decide +kernel
theorem dL_law_518 : decode cL_law 518 = .ok (.iadd, 1) := by decide +kernel
theorem dL_law_519 : decode cL_law 519 = .ok (.iaload, 1) := by decide +kernel
theorem dL_law_520 : decode cL_law 520 = .ok (.i2l, 1) := by decide +kernel
theorem dL_law_521 : decode cL_law 521 = .ok (.bipush 32, 2) := by decide +kernel
theorem dL_law_523 : decode cL_law 523 = .ok (.lshl, 1) := by decide +kernel
theorem dL_law_524 : decode cL_law 524 = .ok (.aload_n 0, 1) := by decide +kernel
theorem dL_law_525 : decode cL_law 525 = .ok (.iload 4, 2) := by decide +kernel
theorem dL_law_527 : decode cL_law 527 = .ok (.iconst 3, 1) := by decide +kernel
theorem dL_law_528 : decode cL_law 528 = .ok (.iadd, 1) := by decide +kernel
theorem dL_law_529 : decode cL_law 529 = .ok (.iaload, 1) := by decide +kernel
theorem dL_law_530 : decode cL_law 530 = .ok (.i2l, 1) := by decide +kernel
theorem dL_law_531 : decode cL_law 531 = .ok (.ldc2_w 25, 3) := by decide +kernel
theorem dL_law_534 : decode cL_law 534 = .ok (.land, 1) := by decide +kernel
theorem dL_law_535 : decode cL_law 535 = .ok (.lor, 1) := by decide +kernel
theorem dL_law_536 : decode cL_law 536 = .ok (.aload_n 0, 1) := by decide +kernel
theorem dL_law_537 : decode cL_law 537 = .ok (.iload 4, 2) := by decide +kernel
theorem dL_law_539 : decode cL_law 539 = .ok (.iconst 4, 1) := by decide +kernel
theorem dL_law_540 : decode cL_law 540 = .ok (.iadd, 1) := by decide +kernel
theorem dL_law_541 : decode cL_law 541 = .ok (.iaload, 1) := by decide +kernel
theorem dL_law_542 : decode cL_law 542 = .ok (.i2l, 1) := by decide +kernel
theorem dL_law_543 : decode cL_law 543 = .ok (.bipush 32, 2) := by decide +kernel
end
section
theorem dL_law_545 : decode cL_law 545 = .ok (.lshl, 1) := by decide +kernel
theorem dL_law_546 : decode cL_law 546 = .ok (.aload_n 0, 1) := by decide +kernel
theorem dL_law_547 : decode cL_law 547 = .ok (.iload 4, 2) := by decide +kernel
theorem dL_law_549 : decode cL_law 549 = .ok (.iconst 5, 1) := by decide +kernel
theorem dL_law_550 : decode cL_law 550 = .ok (.iadd, 1) := by decide +kernel
theorem dL_law_551 : decode cL_law 551 = .ok (.iaload, 1) := by decide +kernel
theorem dL_law_552 : decode cL_law 552 = .ok (.i2l, 1) := by decide +kernel
theorem dL_law_553 : decode cL_law 553 = .ok (.ldc2_w 25, 3) := by decide +kernel
theorem dL_law_556 : decode cL_law 556 = .ok (.land, 1) := by decide +kernel
theorem dL_law_557 : decode cL_law 557 = .ok (.lor, 1) := by decide +kernel
theorem dL_law_558 : decode cL_law 558 = .ok (.invokevirtual 56, 3) := by decide +kernel
theorem dL_law_561 : decode cL_law 561 = .ok (.aload_n 2, 1) := by decide +kernel
theorem dL_law_562 : decode cL_law 562 = .ok (.aload_n 0, 1) := by decide +kernel
theorem dL_law_563 : decode cL_law 563 = .ok (.iload 4, 2) := by decide +kernel
theorem dL_law_565 : decode cL_law 565 = .ok (.iconst 1, 1) := by decide +kernel
theorem dL_law_566 : decode cL_law 566 = .ok (.iadd, 1) := by decide +kernel
theorem dL_law_567 : decode cL_law 567 = .ok (.iaload, 1) := by decide +kernel
theorem dL_law_568 : decode cL_law 568 = .ok (.aload_n 0, 1) := by decide +kernel
theorem dL_law_569 : decode cL_law 569 = .ok (.iload 4, 2) := by decide +kernel
theorem dL_law_571 : decode cL_law 571 = .ok (.iconst 2, 1) := by decide +kernel
theorem dL_law_572 : decode cL_law 572 = .ok (.iadd, 1) := by decide +kernel
theorem dL_law_573 : decode cL_law 573 = .ok (.iaload, 1) := by decide +kernel
theorem dL_law_574 : decode cL_law 574 = .ok (.i2l, 1) := by decide +kernel
theorem dL_law_575 : decode cL_law 575 = .ok (.bipush 32, 2) := by decide +kernel
theorem dL_law_577 : decode cL_law 577 = .ok (.lshl, 1) := by decide +kernel
theorem dL_law_578 : decode cL_law 578 = .ok (.aload_n 0, 1) := by decide +kernel
theorem dL_law_579 : decode cL_law 579 = .ok (.iload 4, 2) := by decide +kernel
theorem dL_law_581 : decode cL_law 581 = .ok (.iconst 3, 1) := by decide +kernel
theorem dL_law_582 : decode cL_law 582 = .ok (.iadd, 1) := by decide +kernel
theorem dL_law_583 : decode cL_law 583 = .ok (.iaload, 1) := by decide +kernel
theorem dL_law_584 : decode cL_law 584 = .ok (.i2l, 1) := by decide +kernel
theorem dL_law_585 : decode cL_law 585 = .ok (.ldc2_w 25, 3) := by decide +kernel
theorem dL_law_588 : decode cL_law 588 = .ok (.land, 1) := by decide +kernel
theorem dL_law_589 : decode cL_law 589 = .ok (.lor, 1) := by decide +kernel
theorem dL_law_590 : decode cL_law 590 = .ok (.aload_n 0, 1) := by decide +kernel
theorem dL_law_591 : decode cL_law 591 = .ok (.iload 4, 2) := by decide +kernel
theorem dL_law_593 : decode cL_law 593 = .ok (.iconst 4, 1) := by decide +kernel
theorem dL_law_594 : decode cL_law 594 = .ok (.iadd, 1) := by decide +kernel
theorem dL_law_595 : decode cL_law 595 = .ok (.iaload, 1) := by decide +kernel
theorem dL_law_596 : decode cL_law 596 = .ok (.i2l, 1) := by decide +kernel
theorem dL_law_597 : decode cL_law 597 = .ok (.bipush 32, 2) := by decide +kernel
theorem dL_law_599 : decode cL_law 599 = .ok (.lshl, 1) := by decide +kernel
theorem dL_law_600 : decode cL_law 600 = .ok (.aload_n 0, 1) := by decide +kernel
theorem dL_law_601 : decode cL_law 601 = .ok (.iload 4, 2) := by decide +kernel
theorem dL_law_603 : decode cL_law 603 = .ok (.iconst 5, 1) := by decide +kernel
theorem dL_law_604 : decode cL_law 604 = .ok (.iadd, 1) := by decide +kernel
theorem dL_law_605 : decode cL_law 605 = .ok (.iaload, 1) := by decide +kernel
theorem dL_law_606 : decode cL_law 606 = .ok (.i2l, 1) := by decide +kernel
theorem dL_law_607 : decode cL_law 607 = .ok (.ldc2_w 25, 3) := by decide +kernel
theorem dL_law_610 : decode cL_law 610 = .ok (.land, 1) := by decide +kernel
theorem dL_law_611 : decode cL_law 611 = .ok (.lor, 1) := by decide +kernel
theorem dL_law_612 : decode cL_law 612 = .ok (.invokevirtual 60, 3) := by decide +kernel
theorem dL_law_615 : decode cL_law 615 = .ok (.if_icmp .eq 205, 3) := by decide +kernel
theorem dL_law_618 : decode cL_law 618 = .ok (.iconst 0, 1) := by decide +kernel
theorem dL_law_619 : decode cL_law 619 = .ok (.ireturn, 1) := by decide +kernel
theorem dL_law_620 : decode cL_law 620 = .ok (.aload_n 1, 1) := by decide +kernel
theorem dL_law_621 : decode cL_law 621 = .ok (.aload_n 0, 1) := by decide +kernel
theorem dL_law_622 : decode cL_law 622 = .ok (.iload 4, 2) := by decide +kernel
theorem dL_law_624 : decode cL_law 624 = .ok (.iconst 1, 1) := by decide +kernel
theorem dL_law_625 : decode cL_law 625 = .ok (.iadd, 1) := by decide +kernel
theorem dL_law_626 : decode cL_law 626 = .ok (.iaload, 1) := by decide +kernel
theorem dL_law_627 : decode cL_law 627 = .ok (.aload_n 0, 1) := by decide +kernel
theorem dL_law_628 : decode cL_law 628 = .ok (.iload 4, 2) := by decide +kernel
theorem dL_law_630 : decode cL_law 630 = .ok (.iconst 2, 1) := by decide +kernel
theorem dL_law_631 : decode cL_law 631 = .ok (.iadd, 1) := by decide +kernel
theorem dL_law_632 : decode cL_law 632 = .ok (.iaload, 1) := by decide +kernel
theorem dL_law_633 : decode cL_law 633 = .ok (.i2l, 1) := by decide +kernel
theorem dL_law_634 : decode cL_law 634 = .ok (.bipush 32, 2) := by decide +kernel
theorem dL_law_636 : decode cL_law 636 = .ok (.lshl, 1) := by decide +kernel
theorem dL_law_637 : decode cL_law 637 = .ok (.aload_n 0, 1) := by decide +kernel
theorem dL_law_638 : decode cL_law 638 = .ok (.iload 4, 2) := by decide +kernel
theorem dL_law_640 : decode cL_law 640 = .ok (.iconst 3, 1) := by decide +kernel
theorem dL_law_641 : decode cL_law 641 = .ok (.iadd, 1) := by decide +kernel
theorem dL_law_642 : decode cL_law 642 = .ok (.iaload, 1) := by decide +kernel
theorem dL_law_643 : decode cL_law 643 = .ok (.i2l, 1) := by decide +kernel
theorem dL_law_644 : decode cL_law 644 = .ok (.ldc2_w 25, 3) := by decide +kernel
theorem dL_law_647 : decode cL_law 647 = .ok (.land, 1) := by decide +kernel
theorem dL_law_648 : decode cL_law 648 = .ok (.lor, 1) := by decide +kernel
theorem dL_law_649 : decode cL_law 649 = .ok (.invokevirtual 61, 3) := by decide +kernel
theorem dL_law_652 : decode cL_law 652 = .ok (.aload_n 2, 1) := by decide +kernel
theorem dL_law_653 : decode cL_law 653 = .ok (.aload_n 0, 1) := by decide +kernel
theorem dL_law_654 : decode cL_law 654 = .ok (.iload 4, 2) := by decide +kernel
theorem dL_law_656 : decode cL_law 656 = .ok (.iconst 1, 1) := by decide +kernel
theorem dL_law_657 : decode cL_law 657 = .ok (.iadd, 1) := by decide +kernel
theorem dL_law_658 : decode cL_law 658 = .ok (.iaload, 1) := by decide +kernel
theorem dL_law_659 : decode cL_law 659 = .ok (.aload_n 0, 1) := by decide +kernel
theorem dL_law_660 : decode cL_law 660 = .ok (.iload 4, 2) := by decide +kernel
theorem dL_law_662 : decode cL_law 662 = .ok (.iconst 2, 1) := by decide +kernel
theorem dL_law_663 : decode cL_law 663 = .ok (.iadd, 1) := by decide +kernel
theorem dL_law_664 : decode cL_law 664 = .ok (.iaload, 1) := by decide +kernel
theorem dL_law_665 : decode cL_law 665 = .ok (.i2l, 1) := by decide +kernel
theorem dL_law_666 : decode cL_law 666 = .ok (.bipush 32, 2) := by decide +kernel
theorem dL_law_668 : decode cL_law 668 = .ok (.lshl, 1) := by decide +kernel
theorem dL_law_669 : decode cL_law 669 = .ok (.aload_n 0, 1) := by decide +kernel
theorem dL_law_670 : decode cL_law 670 = .ok (.iload 4, 2) := by decide +kernel
theorem dL_law_672 : decode cL_law 672 = .ok (.iconst 3, 1) := by decide +kernel
theorem dL_law_673 : decode cL_law 673 = .ok (.iadd, 1) := by decide +kernel
theorem dL_law_674 : decode cL_law 674 = .ok (.iaload, 1) := by decide +kernel
theorem dL_law_675 : decode cL_law 675 = .ok (.i2l, 1) := by decide +kernel
theorem dL_law_676 : decode cL_law 676 = .ok (.ldc2_w 25, 3) := by decide +kernel
theorem dL_law_679 : decode cL_law 679 = .ok (.land, 1) := by decide +kernel
theorem dL_law_680 : decode cL_law 680 = .ok (.lor, 1) := by decide +kernel
theorem dL_law_681 : decode cL_law 681 = .ok (.invokevirtual 65, 3) := by decide +kernel
theorem dL_law_684 : decode cL_law 684 = .ok (.if_icmp .eq 136, 3) := by decide +kernel
theorem dL_law_687 : decode cL_law 687 = .ok (.iconst 0, 1) := by decide +kernel
theorem dL_law_688 : decode cL_law 688 = .ok (.ireturn, 1) := by decide +kernel
theorem dL_law_689 : decode cL_law 689 = .ok (.aload_n 1, 1) := by decide +kernel
theorem dL_law_690 : decode cL_law 690 = .ok (.aload_n 0, 1) := by decide +kernel
theorem dL_law_691 : decode cL_law 691 = .ok (.iload 4, 2) := by decide +kernel
theorem dL_law_693 : decode cL_law 693 = .ok (.iconst 1, 1) := by decide +kernel
theorem dL_law_694 : decode cL_law 694 = .ok (.iadd, 1) := by decide +kernel
theorem dL_law_695 : decode cL_law 695 = .ok (.iaload, 1) := by decide +kernel
theorem dL_law_696 : decode cL_law 696 = .ok (.aload_n 0, 1) := by decide +kernel
theorem dL_law_697 : decode cL_law 697 = .ok (.iload 4, 2) := by decide +kernel
theorem dL_law_699 : decode cL_law 699 = .ok (.iconst 2, 1) := by decide +kernel
theorem dL_law_700 : decode cL_law 700 = .ok (.iadd, 1) := by decide +kernel
theorem dL_law_701 : decode cL_law 701 = .ok (.iaload, 1) := by decide +kernel
theorem dL_law_702 : decode cL_law 702 = .ok (.invokevirtual 66, 3) := by decide +kernel
theorem dL_law_705 : decode cL_law 705 = .ok (.aload_n 2, 1) := by decide +kernel
theorem dL_law_706 : decode cL_law 706 = .ok (.aload_n 0, 1) := by decide +kernel
theorem dL_law_707 : decode cL_law 707 = .ok (.iload 4, 2) := by decide +kernel
theorem dL_law_709 : decode cL_law 709 = .ok (.iconst 1, 1) := by decide +kernel
theorem dL_law_710 : decode cL_law 710 = .ok (.iadd, 1) := by decide +kernel
theorem dL_law_711 : decode cL_law 711 = .ok (.iaload, 1) := by decide +kernel
theorem dL_law_712 : decode cL_law 712 = .ok (.aload_n 0, 1) := by decide +kernel
theorem dL_law_713 : decode cL_law 713 = .ok (.iload 4, 2) := by decide +kernel
theorem dL_law_715 : decode cL_law 715 = .ok (.iconst 2, 1) := by decide +kernel
theorem dL_law_716 : decode cL_law 716 = .ok (.iadd, 1) := by decide +kernel
theorem dL_law_717 : decode cL_law 717 = .ok (.iaload, 1) := by decide +kernel
theorem dL_law_718 : decode cL_law 718 = .ok (.invokevirtual 70, 3) := by decide +kernel
theorem dL_law_721 : decode cL_law 721 = .ok (.lcmp, 1) := by decide +kernel
theorem dL_law_722 : decode cL_law 722 = .ok (.ifCond .eq 98, 3) := by decide +kernel
theorem dL_law_725 : decode cL_law 725 = .ok (.iconst 0, 1) := by decide +kernel
theorem dL_law_726 : decode cL_law 726 = .ok (.ireturn, 1) := by decide +kernel
theorem dL_law_727 : decode cL_law 727 = .ok (.aload_n 1, 1) := by decide +kernel
theorem dL_law_728 : decode cL_law 728 = .ok (.aload_n 0, 1) := by decide +kernel
theorem dL_law_729 : decode cL_law 729 = .ok (.iload 4, 2) := by decide +kernel
theorem dL_law_731 : decode cL_law 731 = .ok (.iconst 1, 1) := by decide +kernel
theorem dL_law_732 : decode cL_law 732 = .ok (.iadd, 1) := by decide +kernel
theorem dL_law_733 : decode cL_law 733 = .ok (.iaload, 1) := by decide +kernel
theorem dL_law_734 : decode cL_law 734 = .ok (.aload_n 3, 1) := by decide +kernel
theorem dL_law_735 : decode cL_law 735 = .ok (.invokestatic 71, 3) := by decide +kernel
theorem dL_law_738 : decode cL_law 738 = .ok (.istore 5, 2) := by decide +kernel
theorem dL_law_740 : decode cL_law 740 = .ok (.aload_n 2, 1) := by decide +kernel
theorem dL_law_741 : decode cL_law 741 = .ok (.aload_n 0, 1) := by decide +kernel
theorem dL_law_742 : decode cL_law 742 = .ok (.iload 4, 2) := by decide +kernel
theorem dL_law_744 : decode cL_law 744 = .ok (.iconst 1, 1) := by decide +kernel
theorem dL_law_745 : decode cL_law 745 = .ok (.iadd, 1) := by decide +kernel
theorem dL_law_746 : decode cL_law 746 = .ok (.iaload, 1) := by decide +kernel
theorem dL_law_747 : decode cL_law 747 = .ok (.invokevirtual 74, 3) := by decide +kernel
theorem dL_law_750 : decode cL_law 750 = .ok (.istore 6, 2) := by decide +kernel
theorem dL_law_752 : decode cL_law 752 = .ok (.aload_n 2, 1) := by decide +kernel
theorem dL_law_753 : decode cL_law 753 = .ok (.invokevirtual 33, 3) := by decide +kernel
theorem dL_law_756 : decode cL_law 756 = .ok (.iload 5, 2) := by decide +kernel
theorem dL_law_758 : decode cL_law 758 = .ok (.if_icmp .eq 5, 3) := by decide +kernel
theorem dL_law_761 : decode cL_law 761 = .ok (.iconst 0, 1) := by decide +kernel
theorem dL_law_762 : decode cL_law 762 = .ok (.ireturn, 1) := by decide +kernel
theorem dL_law_763 : decode cL_law 763 = .ok (.iload 5, 2) := by decide +kernel
theorem dL_law_765 : decode cL_law 765 = .ok (.ifCond .ne 15, 3) := by decide +kernel
theorem dL_law_768 : decode cL_law 768 = .ok (.aload_n 3, 1) := by decide +kernel
theorem dL_law_769 : decode cL_law 769 = .ok (.iconst 0, 1) := by decide +kernel
theorem dL_law_770 : decode cL_law 770 = .ok (.laload, 1) := by decide +kernel
theorem dL_law_771 : decode cL_law 771 = .ok (.iload 6, 2) := by decide +kernel
theorem dL_law_773 : decode cL_law 773 = .ok (.i2l, 1) := by decide +kernel
theorem dL_law_774 : decode cL_law 774 = .ok (.lcmp, 1) := by decide +kernel
theorem dL_law_775 : decode cL_law 775 = .ok (.ifCond .eq 5, 3) := by decide +kernel
theorem dL_law_778 : decode cL_law 778 = .ok (.iconst 0, 1) := by decide +kernel
theorem dL_law_779 : decode cL_law 779 = .ok (.ireturn, 1) := by decide +kernel
theorem dL_law_780 : decode cL_law 780 = .ok (.goto 40, 3) := by decide +kernel
theorem dL_law_783 : decode cL_law 783 = .ok (.aload_n 1, 1) := by decide +kernel
theorem dL_law_784 : decode cL_law 784 = .ok (.aload_n 0, 1) := by decide +kernel
theorem dL_law_785 : decode cL_law 785 = .ok (.iload 4, 2) := by decide +kernel
theorem dL_law_787 : decode cL_law 787 = .ok (.iconst 1, 1) := by decide +kernel
theorem dL_law_788 : decode cL_law 788 = .ok (.iadd, 1) := by decide +kernel
theorem dL_law_789 : decode cL_law 789 = .ok (.iaload, 1) := by decide +kernel
theorem dL_law_790 : decode cL_law 790 = .ok (.aload_n 0, 1) := by decide +kernel
theorem dL_law_791 : decode cL_law 791 = .ok (.iload 4, 2) := by decide +kernel
theorem dL_law_793 : decode cL_law 793 = .ok (.iconst 2, 1) := by decide +kernel
theorem dL_law_794 : decode cL_law 794 = .ok (.iadd, 1) := by decide +kernel
theorem dL_law_795 : decode cL_law 795 = .ok (.iaload, 1) := by decide +kernel
theorem dL_law_796 : decode cL_law 796 = .ok (.invokevirtual 75, 3) := by decide +kernel
theorem dL_law_799 : decode cL_law 799 = .ok (.aload_n 2, 1) := by decide +kernel
theorem dL_law_800 : decode cL_law 800 = .ok (.aload_n 0, 1) := by decide +kernel
theorem dL_law_801 : decode cL_law 801 = .ok (.iload 4, 2) := by decide +kernel
theorem dL_law_803 : decode cL_law 803 = .ok (.iconst 1, 1) := by decide +kernel
theorem dL_law_804 : decode cL_law 804 = .ok (.iadd, 1) := by decide +kernel
theorem dL_law_805 : decode cL_law 805 = .ok (.iaload, 1) := by decide +kernel
theorem dL_law_806 : decode cL_law 806 = .ok (.aload_n 0, 1) := by decide +kernel
theorem dL_law_807 : decode cL_law 807 = .ok (.iload 4, 2) := by decide +kernel
theorem dL_law_809 : decode cL_law 809 = .ok (.iconst 2, 1) := by decide +kernel
theorem dL_law_810 : decode cL_law 810 = .ok (.iadd, 1) := by decide +kernel
theorem dL_law_811 : decode cL_law 811 = .ok (.iaload, 1) := by decide +kernel
theorem dL_law_812 : decode cL_law 812 = .ok (.invokevirtual 79, 3) := by decide +kernel
theorem dL_law_815 : decode cL_law 815 = .ok (.if_icmp .eq 5, 3) := by decide +kernel
theorem dL_law_818 : decode cL_law 818 = .ok (.iconst 0, 1) := by decide +kernel
theorem dL_law_819 : decode cL_law 819 = .ok (.ireturn, 1) := by decide +kernel
theorem dL_law_820 : decode cL_law 820 = .ok (.iinc 4 7, 3) := by decide +kernel
theorem dL_law_823 : decode cL_law 823 = .ok (.goto (-800), 3) := by decide +kernel
theorem dL_law_826 : decode cL_law 826 = .ok (.iconst 1, 1) := by decide +kernel
theorem dL_law_827 : decode cL_law 827 = .ok (.ireturn, 1) := by decide +kernel
end
section
/-! Own rows: the Option picture of a method (none: the machine itself would throw, or the fuel is out), and one row for each turn of a walk that a program lays. -/
section QA
theorem q_t {α : Type} {c : Prop} [Decidable c] {a b r : α} (h : (if c then a else b) = r) (hc : c) : a = r := by
  rw [if_pos hc] at h; exact h
theorem q_f {α : Type} {c : Prop} [Decidable c] {a b r : α} (h : (if c then a else b) = r) (hc : ¬ c) : b = r := by
  rw [if_neg hc] at h; exact h
theorem q_g {α : Type} {c : Prop} [Decidable c] {k : Option α} {r : α} (h : (if c then none else k) = some r) : ¬ c ∧ k = some r := by
  by_cases hc : c
  · rw [if_pos hc] at h; cases h
  · rw [if_neg hc] at h; exact ⟨hc, h⟩
def q_let {α β : Type} (a : α) (f : α → β) : β := f a
theorem q_l {α β : Type} {a : α} {f : α → β} {r : β} (h : q_let a f = r) : ∃ z, z = a ∧ f z = r := ⟨a, rfl, h⟩
def q_b {α β : Type} (o : Option α) (f : α → Option β) : Option β := match o with
  | none => none
  | some a => f a
theorem q_s {α β : Type} {o : Option α} {f : α → Option β} {r : β} (h : q_b o f = some r) : ∃ a, o = some a ∧ f a = some r := by
  cases o with
  | none => cases h
  | some a => exact ⟨a, rfl, h⟩
def q_b2 {α σ β : Type} (o : Option (α × σ)) (f : α → σ → Option β) : Option β := match o with
  | none => none
  | some a => f a.1 a.2
theorem q_s2 {α σ β : Type} {o : Option (α × σ)} {f : α → σ → Option β} {r : β} (h : q_b2 o f = some r) : ∃ a u, o = some (a, u) ∧ f a u = some r := by
  cases o with
  | none => cases h
  | some a => exact ⟨a.1, a.2, rfl, h⟩
theorem q_p {α σ : Type} {a b : α} {u v : σ} (h : some (a, u) = some (b, v)) : a = b ∧ u = v := by
  cases h; exact ⟨rfl, rfl⟩
end QA
section QW
variable {p : Program} {l : Launch} {e : Env} {R : Room} {s : State} {m : MethodId} {args : Array Value} {below : List Frame} {meth : Method} {c : Code} {H : Heap} {locs : List Loc} {cells slots : Nat} {Q : State → Prop} {cc : ByteArray} {pc : Nat} {ls : Array Slot} {rest : List Value}
theorem q_topi {x y : Int32} (h : y = x) (k : W p l e R s m args below meth c H locs cells slots Q (F0 m pc ls (.int y :: rest))) : W p l e R s m args below meth c H locs cells slots Q (F0 m pc ls (.int x :: rest)) := h ▸ k
theorem q_topl {x y : Int64} (h : y = x) (k : W p l e R s m args below meth c H locs cells slots Q (F0 m pc ls (.long y :: rest))) : W p l e R s m args below meth c H locs cells slots Q (F0 m pc ls (.long x :: rest)) := h ▸ k
theorem q_lc_lt (hexec : p.tables.exec = Jvm.exec) (hb : c.code = cc) {x y : Int64} {off : Int} {tgt : Nat} (d1 : decode cc pc = .ok (.lcmp, 1)) (d2 : decode cc (pc + 1) = .ok (.ifCond .lt off, 3)) (ht : ((pc + 1 : Nat) : Int) + off = (tgt : Int))
    (kt : x < y → W p l e R s m args below meth c H locs cells slots Q (F0 m tgt ls rest)) (kf : ¬ x < y → W p l e R s m args below meth c H locs cells slots Q (F0 m (pc + 1 + 3) ls rest)) : W p l e R s m args below meth c H locs cells slots Q (F0 m pc ls (.long y :: .long x :: rest)) :=
  W.lcmp hexec hb d1 (lv_if_lt hexec hb d2 ht (fun h => kt ((lg_cmp_lt x y).mp h)) (fun h => kf (fun h2 => h ((lg_cmp_lt x y).mpr h2))))
theorem q_lc_ge (hexec : p.tables.exec = Jvm.exec) (hb : c.code = cc) {x y : Int64} {off : Int} {tgt : Nat} (d1 : decode cc pc = .ok (.lcmp, 1)) (d2 : decode cc (pc + 1) = .ok (.ifCond .ge off, 3)) (ht : ((pc + 1 : Nat) : Int) + off = (tgt : Int))
    (kt : y ≤ x → W p l e R s m args below meth c H locs cells slots Q (F0 m tgt ls rest)) (kf : ¬ y ≤ x → W p l e R s m args below meth c H locs cells slots Q (F0 m (pc + 1 + 3) ls rest)) : W p l e R s m args below meth c H locs cells slots Q (F0 m pc ls (.long y :: .long x :: rest)) :=
  W.lcmp hexec hb d1 (lv_if_ge hexec hb d2 ht (fun h => kt ((lg_cmp_ge x y).mp h)) (fun h => kf (fun h2 => h ((lg_cmp_ge x y).mpr h2))))
theorem q_lc_gt (hexec : p.tables.exec = Jvm.exec) (hb : c.code = cc) {x y : Int64} {off : Int} {tgt : Nat} (d1 : decode cc pc = .ok (.lcmp, 1)) (d2 : decode cc (pc + 1) = .ok (.ifCond .gt off, 3)) (ht : ((pc + 1 : Nat) : Int) + off = (tgt : Int))
    (kt : y < x → W p l e R s m args below meth c H locs cells slots Q (F0 m tgt ls rest)) (kf : ¬ y < x → W p l e R s m args below meth c H locs cells slots Q (F0 m (pc + 1 + 3) ls rest)) : W p l e R s m args below meth c H locs cells slots Q (F0 m pc ls (.long y :: .long x :: rest)) :=
  W.lcmp hexec hb d1 (lv_if_gt hexec hb d2 ht (fun h => kt ((lg_cmp_gt x y).mp h)) (fun h => kf (fun h2 => h ((lg_cmp_gt x y).mpr h2))))
theorem q_lc_le (hexec : p.tables.exec = Jvm.exec) (hb : c.code = cc) {x y : Int64} {off : Int} {tgt : Nat} (d1 : decode cc pc = .ok (.lcmp, 1)) (d2 : decode cc (pc + 1) = .ok (.ifCond .le off, 3)) (ht : ((pc + 1 : Nat) : Int) + off = (tgt : Int))
    (kt : x ≤ y → W p l e R s m args below meth c H locs cells slots Q (F0 m tgt ls rest)) (kf : ¬ x ≤ y → W p l e R s m args below meth c H locs cells slots Q (F0 m (pc + 1 + 3) ls rest)) : W p l e R s m args below meth c H locs cells slots Q (F0 m pc ls (.long y :: .long x :: rest)) :=
  W.lcmp hexec hb d1 (lv_if_le hexec hb d2 ht (fun h => kt ((lg_cmp_le x y).mp h)) (fun h => kf (fun h2 => h ((lg_cmp_le x y).mpr h2))))
theorem q_lc_eq (hexec : p.tables.exec = Jvm.exec) (hb : c.code = cc) {x y : Int64} {off : Int} {tgt : Nat} (d1 : decode cc pc = .ok (.lcmp, 1)) (d2 : decode cc (pc + 1) = .ok (.ifCond .eq off, 3)) (ht : ((pc + 1 : Nat) : Int) + off = (tgt : Int))
    (kt : x = y → W p l e R s m args below meth c H locs cells slots Q (F0 m tgt ls rest)) (kf : ¬ x = y → W p l e R s m args below meth c H locs cells slots Q (F0 m (pc + 1 + 3) ls rest)) : W p l e R s m args below meth c H locs cells slots Q (F0 m pc ls (.long y :: .long x :: rest)) :=
  W.lcmp hexec hb d1 (lv_if_eq hexec hb d2 ht (fun h => kt ((lg_cmp_eq x y).mp h)) (fun h => kf (fun h2 => h ((lg_cmp_eq x y).mpr h2))))
theorem q_lc_ne (hexec : p.tables.exec = Jvm.exec) (hb : c.code = cc) {x y : Int64} {off : Int} {tgt : Nat} (d1 : decode cc pc = .ok (.lcmp, 1)) (d2 : decode cc (pc + 1) = .ok (.ifCond .ne off, 3)) (ht : ((pc + 1 : Nat) : Int) + off = (tgt : Int))
    (kt : ¬ x = y → W p l e R s m args below meth c H locs cells slots Q (F0 m tgt ls rest)) (kf : x = y → W p l e R s m args below meth c H locs cells slots Q (F0 m (pc + 1 + 3) ls rest)) : W p l e R s m args below meth c H locs cells slots Q (F0 m pc ls (.long y :: .long x :: rest)) :=
  W.lcmp hexec hb d1 (lv_if_ne hexec hb d2 ht (fun h => kt (fun h2 => h ((lg_cmp_eq x y).mpr h2))) (fun h => kf ((lg_cmp_eq x y).mp h)))
end QW
/-! Contracts: a world of a state u : σ comes in, a world of a state u' goes out; the addresses stay. -/
def gPre (D : va_G) (cl : List vw_C) (tys : List (ClassId × FieldType)) (sz : Nat) (w : va_W) (U : State) : Prop := U.heap.size = sz ∧ va_P D cl w U.heap ∧ va_K D cl tys U ∧ va_D (fun _ => True) w
def gAt {σ : Type} (D : va_G) (cl : List vw_C) (tys : List (ClassId × FieldType)) (A : Nat → Prop) (wf : σ → va_W) (u : σ) (t : State) : Prop := va_P D cl (wf u) t.heap ∧ va_K D cl tys t ∧ va_D A (wf u)
def Ki {σ : Type} (l : Launch) (y : MethodName) (ws : List Cond) (rm : Room) (D : va_G) (cl : List vw_C) (tys : List (ClassId × FieldType)) (wf : σ → va_W) (sz : Nat) (u : σ) (As : List Value) (r : Int32) (u' : σ) : Prop :=
  Met l y ws rm (va_Pc As (gPre D cl tys sz (wf u))) (va_Qi (fun r1 u1 => r1 = r ∧ u1 = u') (gAt D cl tys (va_A (wf u) sz) wf) (va_A (wf u) sz)) 0 0 (va_A (wf u) sz)
def Kl {σ : Type} (l : Launch) (y : MethodName) (ws : List Cond) (rm : Room) (D : va_G) (cl : List vw_C) (tys : List (ClassId × FieldType)) (wf : σ → va_W) (sz : Nat) (u : σ) (As : List Value) (r : Int64) (u' : σ) : Prop :=
  Met l y ws rm (va_Pc As (gPre D cl tys sz (wf u))) (va_Ql (fun r1 u1 => r1 = r ∧ u1 = u') (gAt D cl tys (va_A (wf u) sz) wf) (va_A (wf u) sz)) 0 0 (va_A (wf u) sz)
def Kv {σ : Type} (l : Launch) (y : MethodName) (ws : List Cond) (rm : Room) (D : va_G) (cl : List vw_C) (tys : List (ClassId × FieldType)) (wf : σ → va_W) (sz : Nat) (u : σ) (As : List Value) (u' : σ) : Prop :=
  Met l y ws rm (va_Pc As (gPre D cl tys sz (wf u))) (va_Qv (fun u1 => u1 = u') (gAt D cl tys (va_A (wf u) sz) wf) (va_A (wf u) sz)) 0 0 (va_A (wf u) sz)
/-- what a body may use of its start -/
def gCtx (p : Program) (s : State) (m : MethodId) (meth : Method) (c : Code) (args : Array Value) (cc : ByteArray) (maxL : Nat) (ret : Option FieldType) (ws : List Cond) (own : String) : Prop :=
  p.tables.exec = Jvm.exec ∧ c.code = cc ∧ c.maxLocals = maxL ∧ s.vm.findClass own = some m.cls ∧ (∀ w ∈ ws, w.before args s = true) ∧ meth.sig.returnType = ret ∧ meth.locks = false
theorem g_ofW {σ : Type} {l : Launch} {y : MethodName} {ws ws' : List Cond} {rm : Room} {D : va_G} {cl : List vw_C} {tys : List (ClassId × FieldType)} {wf : σ → va_W} {sz : Nat} {u : σ} {As : List Value} {cc : ByteArray} {maxL : Nat} {ret : Option FieldType} {Qf : (Nat → Prop) → Array Value → State → Outcome → State → Prop}
    (hy : plainName y.cls = true) (hw : ws = Cond.code y cc maxL ret :: ws') (hlen : (lg_sl As).length ≤ maxL)
    (body : ∀ (p : Program) (e : Env) (s : State) (m : MethodId) (below : List Frame) (meth : Method) (c : Code) (A : Nat → Prop) (ls : Array Slot), gCtx p s m meth c As.toArray cc maxL ret ws y.cls → va_K D cl tys s → va_P D cl (wf u) s.heap → va_D A (wf u) → (∀ q, s.heap.size ≤ q → A q) → lv_has ls maxL (lv_args 0 As) → W p l e rm s m As.toArray below meth c s.heap [] 0 0 (MQ below (Qf A) As.toArray s 0 0 A) (F0 m 0 ls [])) :
    Met l y ws rm (va_Pc As (gPre D cl tys sz (wf u))) (Qf (va_A (wf u) sz)) 0 0 (va_A (wf u) sz) := by
  refine Met.ofW (cc := cc) (maxL := maxL) (ret := ret) hy hw ?_
  intro p e s m args below meth c s₁ B hml hv
  obtain ⟨rfl, hsz, hP, hK, hD0⟩ := hv
  subst hsz
  have hD := hD0.self (sz := s.heap.size)
  have hA : ∀ q : Nat, s.heap.size ≤ q → va_A (wf u) s.heap.size q := fun q h => Or.inr h
  have hl := lv_entry As (n := maxL) hlen
  rw [lg_entry_eq]
  exact body p e s m below meth c (va_A (wf u) s.heap.size) _ ⟨B.exec, B.bytes, hml, findClass_of_methodNamed B.named, atoms_spec (ws := ws) B.pre, B.returns, B.notSynchronized⟩ hK hP hD hA hl
section QC
variable {p : Program} {l : Launch} {e : Env} {R : Room} {s : State} {m : MethodId} {args : Array Value} {below : List Frame} {meth : Method} {c : Code} {H : Heap} {locs : List Loc} {cells slots : Nat} {Q : State → Prop} {cc : ByteArray} {pc : Nat} {ls : Array Slot} {rest : List Value}
  {σ : Type} {wf : σ → va_W} {u u' uu : σ} {D : va_G} {cl : List vw_C} {tys : List (ClassId × FieldType)} {A : Nat → Prop} {Ts ws : List Cond} {own C : String} {nL n index maxL b : Nat} {y : MethodName} {bytes : ByteArray} {ret : Option FieldType} {rm : Room} {As st : List Value}
theorem g_blind {w : va_W} {sz : Nat} : FrameBlind (va_Pc As (gPre D cl tys sz w)) := fun a U g mk q => by
  obtain ⟨q0, q1, qP, qK, qD⟩ := q
  exact ⟨q0, q1, qP, va_K.moved (u := U) (U := U.calling g mk a) (Vm.Alike.refl U.vm) qK, qD⟩
theorem g_free (hD : va_D A (wf u)) (hS : va_S A s.heap H locs) (hA : ∀ q, s.heap.size ≤ q → A q) : ∀ q, va_A (wf u) H.size q → A q := fun q h => by
  rcases h with ⟨k, e, h⟩ | h
  · exact hD.2 k (q, e) h
  · exact hA q (Nat.le_trans hS.1 h)
theorem g_pre (hK : va_K D cl tys s) (hP : va_P D cl (wf u) H) (hD : va_D A (wf u)) : ∀ U : State, U.heap = H → s.WarmedH U.vm → va_Pc As (gPre D cl tys H.size (wf u)) As.toArray U := fun U hU hW =>
  ⟨rfl, by rw [hU], by rw [hU]; exact hP, va_K.moved hW.alike hK, hD.weaken (fun _ _ _ _ => trivial)⟩
theorem q_Vi {r : Int32} (S : CallFix p m c cc nL s args Ts own) (hM : Ki l y ws rm D cl tys wf H.size u (.ref b :: As) r u') (cw : CallW R s args own C index y bytes maxL ret ws rm 0 0 n) (hC : ∃ cell : Cell, H[b]? = some cell ∧ cell.vm.isStatics = false ∧ s.vm.findClass C = some cell.cls)
    (hK : va_K D cl tys s) (hP : va_P D cl (wf u) H) (hD : va_D A (wf u)) (hS : va_S A s.heap H locs) (hA : ∀ q, s.heap.size ≤ q → A q) (hn : As.length = n) (hsz : ls.size = nL) (hroom : (rest.map fun v => v.category).sum ≤ 8) (hst : st = As.reverse ++ .ref b :: rest) (hdg : decode cc pc = .ok (.invokevirtual index, 3)) (hf : cells ≤ R.cells ∧ slots ≤ R.slots)
    (kk : ∀ (H1 : Heap) (locs1 : List Loc), va_P D cl (wf u') H1 → va_D A (wf u') → va_S A s.heap H1 locs1 → W p l e R s m args below meth c H1 locs1 cells slots Q (F0 m (pc + 3) ls (.int r :: rest))) : W p l e R s m args below meth c H locs cells slots Q (F0 m pc ls st) := by
  have hF := g_free hD hS hA
  refine va_calli (va_runV (As := As) (rest := rest) S hM cw ⟨g_blind, hC, g_pre hK hP hD⟩ rfl hn hsz hst (lv_room hroom) hdg hf) hS (fun q _ h => hF q h) hF (fun r1 u1 t H1 locs1 ht hvm hw hB hz1 hk1 hS1 => ?_)
  obtain ⟨rfl, rfl⟩ := hw
  obtain ⟨hP1, hK1, hD1⟩ := hB
  rw [ht] at hP1
  exact kk H1 locs1 hP1 (hD1.weaken (fun _ _ _ h => hF _ h)) hS1
theorem q_Vl {r : Int64} (S : CallFix p m c cc nL s args Ts own) (hM : Kl l y ws rm D cl tys wf H.size u (.ref b :: As) r u') (cw : CallW R s args own C index y bytes maxL ret ws rm 0 0 n) (hC : ∃ cell : Cell, H[b]? = some cell ∧ cell.vm.isStatics = false ∧ s.vm.findClass C = some cell.cls)
    (hK : va_K D cl tys s) (hP : va_P D cl (wf u) H) (hD : va_D A (wf u)) (hS : va_S A s.heap H locs) (hA : ∀ q, s.heap.size ≤ q → A q) (hn : As.length = n) (hsz : ls.size = nL) (hroom : (rest.map fun v => v.category).sum ≤ 8) (hst : st = As.reverse ++ .ref b :: rest) (hdg : decode cc pc = .ok (.invokevirtual index, 3)) (hf : cells ≤ R.cells ∧ slots ≤ R.slots)
    (kk : ∀ (H1 : Heap) (locs1 : List Loc), va_P D cl (wf u') H1 → va_D A (wf u') → va_S A s.heap H1 locs1 → W p l e R s m args below meth c H1 locs1 cells slots Q (F0 m (pc + 3) ls (.long r :: rest))) : W p l e R s m args below meth c H locs cells slots Q (F0 m pc ls st) := by
  have hF := g_free hD hS hA
  refine va_calll (va_runV (As := As) (rest := rest) S hM cw ⟨g_blind, hC, g_pre hK hP hD⟩ rfl hn hsz hst (lv_room hroom) hdg hf) hS (fun q _ h => hF q h) hF (fun r1 u1 t H1 locs1 ht hvm hw hB hz1 hk1 hS1 => ?_)
  obtain ⟨rfl, rfl⟩ := hw
  obtain ⟨hP1, hK1, hD1⟩ := hB
  rw [ht] at hP1
  exact kk H1 locs1 hP1 (hD1.weaken (fun _ _ _ h => hF _ h)) hS1
theorem q_Vv (S : CallFix p m c cc nL s args Ts own) (hM : Kv l y ws rm D cl tys wf H.size u (.ref b :: As) u') (cw : CallW R s args own C index y bytes maxL ret ws rm 0 0 n) (hC : ∃ cell : Cell, H[b]? = some cell ∧ cell.vm.isStatics = false ∧ s.vm.findClass C = some cell.cls)
    (hK : va_K D cl tys s) (hP : va_P D cl (wf u) H) (hD : va_D A (wf u)) (hS : va_S A s.heap H locs) (hA : ∀ q, s.heap.size ≤ q → A q) (hn : As.length = n) (hsz : ls.size = nL) (hroom : (rest.map fun v => v.category).sum ≤ 8) (hst : st = As.reverse ++ .ref b :: rest) (hdg : decode cc pc = .ok (.invokevirtual index, 3)) (hf : cells ≤ R.cells ∧ slots ≤ R.slots)
    (kk : ∀ (H1 : Heap) (locs1 : List Loc), va_P D cl (wf u') H1 → va_D A (wf u') → va_S A s.heap H1 locs1 → W p l e R s m args below meth c H1 locs1 cells slots Q (F0 m (pc + 3) ls rest)) : W p l e R s m args below meth c H locs cells slots Q (F0 m pc ls st) := by
  have hF := g_free hD hS hA
  refine va_callv (va_runV (As := As) (rest := rest) S hM cw ⟨g_blind, hC, g_pre hK hP hD⟩ rfl hn hsz hst (lv_room hroom) hdg hf) hS (fun q _ h => hF q h) hF (fun u1 t H1 locs1 ht hvm hw hB hz1 hk1 hS1 => ?_)
  subst hw
  obtain ⟨hP1, hK1, hD1⟩ := hB
  rw [ht] at hP1
  exact kk H1 locs1 hP1 (hD1.weaken (fun _ _ _ h => hF _ h)) hS1
theorem q_Si {r : Int32} (S : CallFix p m c cc nL s args Ts own) (hM : Ki l y ws rm D cl tys wf H.size u As r u') (cw : CallB R s args own index y bytes maxL ret ws rm 0 0 n ∧ (Cond.static y).before args s = true)
    (hK : va_K D cl tys s) (hP : va_P D cl (wf u) H) (hD : va_D A (wf u)) (hS : va_S A s.heap H locs) (hA : ∀ q, s.heap.size ≤ q → A q) (hn : As.length = n) (hsz : ls.size = nL) (hroom : (rest.map fun v => v.category).sum ≤ 8) (hst : st = As.reverse ++ rest) (hdg : decode cc pc = .ok (.invokestatic index, 3)) (hf : cells ≤ R.cells ∧ slots ≤ R.slots)
    (kk : ∀ (H1 : Heap) (locs1 : List Loc), va_P D cl (wf u') H1 → va_D A (wf u') → va_S A s.heap H1 locs1 → W p l e R s m args below meth c H1 locs1 cells slots Q (F0 m (pc + 3) ls (.int r :: rest))) : W p l e R s m args below meth c H locs cells slots Q (F0 m pc ls st) := by
  have hF := g_free hD hS hA
  refine va_calli (va_runS (As := As) (rest := rest) S hM cw ⟨g_blind, g_pre hK hP hD⟩ rfl hn hsz hst (lv_room hroom) hdg hf) hS (fun q _ h => hF q h) hF (fun r1 u1 t H1 locs1 ht hvm hw hB hz1 hk1 hS1 => ?_)
  obtain ⟨rfl, rfl⟩ := hw
  obtain ⟨hP1, hK1, hD1⟩ := hB
  rw [ht] at hP1
  exact kk H1 locs1 hP1 (hD1.weaken (fun _ _ _ h => hF _ h)) hS1
theorem q_Sl {r : Int64} (S : CallFix p m c cc nL s args Ts own) (hM : Kl l y ws rm D cl tys wf H.size u As r u') (cw : CallB R s args own index y bytes maxL ret ws rm 0 0 n ∧ (Cond.static y).before args s = true)
    (hK : va_K D cl tys s) (hP : va_P D cl (wf u) H) (hD : va_D A (wf u)) (hS : va_S A s.heap H locs) (hA : ∀ q, s.heap.size ≤ q → A q) (hn : As.length = n) (hsz : ls.size = nL) (hroom : (rest.map fun v => v.category).sum ≤ 8) (hst : st = As.reverse ++ rest) (hdg : decode cc pc = .ok (.invokestatic index, 3)) (hf : cells ≤ R.cells ∧ slots ≤ R.slots)
    (kk : ∀ (H1 : Heap) (locs1 : List Loc), va_P D cl (wf u') H1 → va_D A (wf u') → va_S A s.heap H1 locs1 → W p l e R s m args below meth c H1 locs1 cells slots Q (F0 m (pc + 3) ls (.long r :: rest))) : W p l e R s m args below meth c H locs cells slots Q (F0 m pc ls st) := by
  have hF := g_free hD hS hA
  refine va_calll (va_runS (As := As) (rest := rest) S hM cw ⟨g_blind, g_pre hK hP hD⟩ rfl hn hsz hst (lv_room hroom) hdg hf) hS (fun q _ h => hF q h) hF (fun r1 u1 t H1 locs1 ht hvm hw hB hz1 hk1 hS1 => ?_)
  obtain ⟨rfl, rfl⟩ := hw
  obtain ⟨hP1, hK1, hD1⟩ := hB
  rw [ht] at hP1
  exact kk H1 locs1 hP1 (hD1.weaken (fun _ _ _ h => hF _ h)) hS1
theorem q_iret {v r : Int32} (hx : p.tables.exec = Jvm.exec) (hb : c.code = cc) (hr : meth.sig.returnType = some .int) (hlocks : meth.locks = false) (hK : va_K D cl tys s) (hP : va_P D cl (wf u) H) (hD : va_D A (wf u)) (hS : va_S A s.heap H locs) (hv : v = r) (hu : u = uu) (hdg : decode cc pc = .ok (.ireturn, 1)) :
    W p l e R s m args below meth c H locs cells slots (MQ below (va_Qi (fun r1 u1 => r1 = r ∧ u1 = uu) (gAt D cl tys A wf) A) args s cells slots A) (F0 m pc ls [.int v]) :=
  W.iret hx hb hr (fun t ht hW => ⟨⟨v, u, rfl, ⟨hv, hu⟩, by rw [ht]; exact hP, va_K.moved hW.alike hK, hD⟩, hS.F ht⟩) hS.2.2 hdg hlocks
theorem q_zret {v r : Int32} (hx : p.tables.exec = Jvm.exec) (hb : c.code = cc) (hr : meth.sig.returnType = some .boolean) (hlocks : meth.locks = false) (hK : va_K D cl tys s) (hP : va_P D cl (wf u) H) (hD : va_D A (wf u)) (hS : va_S A s.heap H locs) (hn : narrow .boolean (.int v) = .int v) (hv : v = r) (hu : u = uu) (hdg : decode cc pc = .ok (.ireturn, 1)) :
    W p l e R s m args below meth c H locs cells slots (MQ below (va_Qi (fun r1 u1 => r1 = r ∧ u1 = uu) (gAt D cl tys A wf) A) args s cells slots A) (F0 m pc ls [.int v]) :=
  W.zret hx hb hr hn (fun t ht hW => ⟨⟨v, u, rfl, ⟨hv, hu⟩, by rw [ht]; exact hP, va_K.moved hW.alike hK, hD⟩, hS.F ht⟩) hS.2.2 hdg hlocks
theorem q_lret {v r : Int64} (hx : p.tables.exec = Jvm.exec) (hb : c.code = cc) (hr : meth.sig.returnType = some .long) (hlocks : meth.locks = false) (hK : va_K D cl tys s) (hP : va_P D cl (wf u) H) (hD : va_D A (wf u)) (hS : va_S A s.heap H locs) (hv : v = r) (hu : u = uu) (hdg : decode cc pc = .ok (.lreturn, 1)) :
    W p l e R s m args below meth c H locs cells slots (MQ below (va_Ql (fun r1 u1 => r1 = r ∧ u1 = uu) (gAt D cl tys A wf) A) args s cells slots A) (F0 m pc ls [.long v]) :=
  W.lret hx hb hr (fun t ht hW => ⟨⟨v, u, rfl, ⟨hv, hu⟩, by rw [ht]; exact hP, va_K.moved hW.alike hK, hD⟩, hS.F ht⟩) hS.2.2 hdg hlocks
theorem q_vret (hx : p.tables.exec = Jvm.exec) (hb : c.code = cc) (hr : meth.sig.returnType = none) (hlocks : meth.locks = false) (hK : va_K D cl tys s) (hP : va_P D cl (wf u) H) (hD : va_D A (wf u)) (hS : va_S A s.heap H locs) (hu : u = uu) (hdg : decode cc pc = .ok (.return_, 1)) :
    W p l e R s m args below meth c H locs cells slots (MQ below (va_Qv (fun u1 => u1 = uu) (gAt D cl tys A wf) A) args s cells slots A) (F0 m pc ls []) :=
  W.vret hx hb hr (fun t ht hW => ⟨⟨u, rfl, hu, by rw [ht]; exact hP, va_K.moved hW.alike hK, hD⟩, hS.F ht⟩) hS.2.2 hdg hlocks
end QC
end
