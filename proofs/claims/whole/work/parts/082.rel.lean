/-! The pure side: both states hold the same numbers; what the reading methods answer. Own rows. -/
def R1 (c : Nat → Nat) (u v : gS) : Prop := c 0 ≤ 120 ∧ c 1 ≤ 100 ∧ c 2 ≤ 121 ∧ gf u 0 = nI (c 0) ∧ gf v 1 = nI (c 0) ∧ gf u 2 = nI (c 1) ∧ gf v 2 = nI (c 1) ∧ gf u 3 = nI (c 2) ∧ gf v 3 = nI (c 2)
def R2 (c : Nat → Nat) (a : Nat → Nat → Nat) (u v : gS) : Prop := ∀ i, i < c 0 → (gi u 0 i = nI (a 0 i) ∧ gi v 0 i = nI (a 0 i) ∧ a 0 i < 60) ∧ (gi u 1 i = nI (a 1 i) ∧ gi v 1 i = nI (a 1 i) ∧ a 1 i < 60) ∧ (gl u 0 i = lN (a 2 i) ∧ gl v 0 i = lN (a 2 i) ∧ 1 ≤ a 2 i ∧ a 2 i ≤ 10000) ∧ (gl u 1 i = lN (a 3 i) ∧ gl v 1 i = lN (a 3 i) ∧ 1 ≤ a 3 i ∧ a 3 i ≤ 1000)
def gt (o c : Nat) : Prop := o = 0 ∧ c = 0 ∨ o < c ∧ c ≤ 86400
def R3 (a : Nat → Nat → Nat) (u v : gS) : Prop := ∀ i, i < 120 → gl u 2 i = lN (a 4 i) ∧ gl v 2 i = lN (a 4 i) ∧ gl u 3 i = lN (a 5 i) ∧ gl v 3 i = lN (a 5 i) ∧ gt (a 4 i) (a 5 i)
def R4 (c : Nat → Nat) (a : Nat → Nat → Nat) (u v : gS) : Prop := ∀ j, j < c 1 → (gi u 2 j = nI (a 6 j) ∧ gi v 3 j = nI (a 6 j) ∧ a 6 j < c 0) ∧ (gi u 3 j = nI (a 7 j) ∧ gi v 4 j = nI (a 7 j) ∧ a 7 j ≤ 1) ∧ (gl u 5 j = lN (a 8 j) ∧ gl v 4 j = lN (a 8 j) ∧ a 8 j ≤ a 2 (a 6 j))
def R5 (c : Nat → Nat) (u v : gS) : Prop := ∀ i, i < c 2 → gi u 5 i = gi v 5 i
def R6 (a : Nat → Nat → Nat) (u v : gS) : Prop := (∀ f t, f < 120 → t < 120 → ((gl u 4 (2 * f + t / 64)).toBitVec.getLsbD (t % 64) = true ↔ a 10 (120 * f + t) = 1)) ∧ (∀ k, k < 14400 → gi v 2 k = nI (a 10 k) ∧ a 10 k ≤ 1) ∧ gf u 1 = nI (sumE (a 10) 14400)
def Re (c : Nat → Nat) (a : Nat → Nat → Nat) (u v : gS) : Prop := R1 c u v ∧ R2 c a u v ∧ R3 a u v ∧ R4 c a u v ∧ R5 c u v ∧ R6 a u v
def gG (a : Nat → Nat → Nat) (q p : Nat) : Prop := a 1 q = a 0 p ∧ a 10 (120 * q + p) = 0
def gEn (a : Nat → Nat → Nat) (p t : Nat) : Nat := entN (a 4 p) (a 5 p) t
def gLe (a : Nat → Nat → Nat) (p : Nat) : Nat := secN (a 3 p) (a 2 p)
theorem Re_GH {c : Nat → Nat} {a : Nat → Nat → Nat} {u v : gS} (h : Re c a u v) : GH (c 0) (gEn a) (gLe a) := by
  obtain ⟨r1, r2, r3, -⟩ := h
  refine ⟨fun p t _ => entN_ge, fun p t t' hp ht => entN_mono (r3 p (by have := r1.1; omega)).2.2.2.2 ht, fun p hp => ?_⟩
  obtain ⟨-, -, ⟨-, -, h1, -⟩, -, -, h2, h3⟩ := r2 p hp
  exact secN_pos h2 h3 h1
theorem in_cases (x : Int32) {n : Nat} (hn : n ≤ 120) : (x < 0 ∨ nI n ≤ x) ∨ ∃ j, j < n ∧ x = nI j := by
  rcases pk_ix x (n := n) (by omega) with h | h | h
  · exact Or.inl (Or.inl h)
  · exact Or.inl (Or.inr h)
  · exact Or.inr h
theorem isP0_out {u : gS} {x : Int32} {n : Nat} (hg : gf u 0 = nI n) (h : x < 0 ∨ nI n ≤ x) : fX0_isPiece u x = some 0 := by
  unfold fX0_isPiece; rw [hg]
  by_cases h1 : x < 0
  · rw [if_pos h1]
  · rw [if_neg h1, if_pos (h.resolve_left h1)]
theorem isP0_in {u : gS} {j n : Nat} (hg : gf u 0 = nI n) (hn : n ≤ 120) (h : j < n) : fX0_isPiece u (nI j) = some 1 := by
  unfold fX0_isPiece; rw [hg, if_neg (nI_pos (by omega)), if_neg (nI_ge h (by omega))]
theorem isP1_out {u : gS} {x : Int32} {n : Nat} (hg : gf u 1 = nI n) (h : x < 0 ∨ nI n ≤ x) : fX1_isPiece u x = some 0 := by
  unfold fX1_isPiece; rw [hg]
  by_cases h1 : x < 0
  · rw [if_pos h1]
  · rw [if_neg h1, if_pos (h.resolve_left h1)]
theorem isP1_in {u : gS} {j n : Nat} (hg : gf u 1 = nI n) (hn : n ≤ 120) (h : j < n) : fX1_isPiece u (nI j) = some 1 := by
  unfold fX1_isPiece; rw [hg, if_neg (nI_pos (by omega)), if_neg (nI_ge h (by omega))]
theorem isS0_out {u : gS} {x : Int32} {n : Nat} (hg : gf u 2 = nI n) (h : x < 0 ∨ nI n ≤ x) : fX0_isStop u x = some 0 := by
  unfold fX0_isStop; rw [hg]
  by_cases h1 : x < 0
  · rw [if_pos h1]
  · rw [if_neg h1, if_pos (h.resolve_left h1)]
theorem isS0_in {u : gS} {j n : Nat} (hg : gf u 2 = nI n) (hn : n ≤ 120) (h : j < n) : fX0_isStop u (nI j) = some 1 := by
  unfold fX0_isStop; rw [hg, if_neg (nI_pos (by omega)), if_neg (nI_ge h (by omega))]
theorem isS1_out {u : gS} {x : Int32} {n : Nat} (hg : gf u 2 = nI n) (h : x < 0 ∨ nI n ≤ x) : fX1_isStop u x = some 0 := by
  unfold fX1_isStop; rw [hg]
  by_cases h1 : x < 0
  · rw [if_pos h1]
  · rw [if_neg h1, if_pos (h.resolve_left h1)]
theorem isS1_in {u : gS} {j n : Nat} (hg : gf u 2 = nI n) (hn : n ≤ 120) (h : j < n) : fX1_isStop u (nI j) = some 1 := by
  unfold fX1_isStop; rw [hg, if_neg (nI_pos (by omega)), if_neg (nI_ge h (by omega))]
theorem ix2 {j N : Nat} (h : j < N) (hN : N ≤ 14400) : ¬ (nI j < 0 ∨ N ≤ j) := fun hh => hh.elim (fun h1 => nI_pos (by omega) h1) (fun h1 => by omega)
theorem i10 : ¬ ((1 : Int32) = 0) := by decide
/-! bits of the barred turns -/
theorem bit_tp : ∀ k, k < 64 → ((1 : Int64) <<< ((nI k).toInt64 &&& 63)).toBitVec = BitVec.twoPow 64 k := by decide +kernel
theorem tp_ne : ∀ k, k < 64 → BitVec.twoPow 64 k ≠ 0#64 := by decide +kernel
theorem wOf {u : gS} {f t : Nat} (hf : f < 120) (ht : t < 120) : fX0_wordOfTurn u (nI f) (nI t) = some (nI (2 * f + t / 64)) := by
  unfold fX0_wordOfTurn
  rw [show (64 : Int32) = nI 64 from rfl, show (2 : Int32) = nI 2 from rfl, pk_div (by omega) (by omega) (by omega), pk_mul, nI_add, Nat.mul_comm]
theorem bOf {u : gS} {t : Nat} (ht : t < 120) : ∃ m : Int64, fX0_bitOfTurn u (nI t) = some m ∧ m.toBitVec = BitVec.twoPow 64 (t % 64) := by
  refine ⟨_, rfl, ?_⟩
  rw [show (64 : Int32) = nI 64 from rfl, pk_rem (by omega) (by omega) (by omega)]
  exact bit_tp _ (Nat.mod_lt _ (by omega))
theorem and_z {w m : Int64} {k : Nat} (hk : k < 64) (hm : m.toBitVec = BitVec.twoPow 64 k) : w &&& m = 0 ↔ ¬ w.toBitVec.getLsbD k = true := by
  rw [← Int64.toBitVec_inj, Int64.toBitVec_and, hm, BitVec.and_twoPow]
  show _ = 0#64 ↔ _
  by_cases h : w.toBitVec.getLsbD k = true
  · rw [if_pos h]; simp [h, tp_ne k hk]
  · rw [if_neg h]; simp [h]
theorem isB0 {c : Nat → Nat} {a : Nat → Nat → Nat} {u v : gS} (h : R6 a u v) {f t : Nat} (hf : f < 120) (ht : t < 120) : fX0_isBarred u (nI f) (nI t) = some (if a 10 (120 * f + t) = 1 then 1 else 0) := by
  obtain ⟨m, hm, hb⟩ := bOf (u := u) ht
  unfold fX0_isBarred
  rw [wOf hf ht, qb_s, if_neg (ix_ok (show 2 * f + t / 64 < 240 by omega) (by omega)), hm, qb_s, cl_n (show 2 * f + t / 64 < 14500 by omega)]
  have hz := and_z (w := gl u 4 (2 * f + t / 64)) (Nat.mod_lt t (by omega : 0 < 64)) hb
  have hr := h.1 f t hf ht
  by_cases e : a 10 (120 * f + t) = 1
  · rw [if_pos e, if_neg (fun hh => hz.mp hh (hr.mpr e))]
  · rw [if_neg e, if_pos (hz.mpr (fun hh => e (hr.mp hh)))]
section Ev
variable {c : Nat → Nat} {a : Nat → Nat → Nat} {u v : gS}
theorem may0 (h : Re c a u v) {q p : Nat} (hq : q < c 0) (hp : p < c 0) : (gG a q p ∧ fX0_mayGoOn u (nI q) (nI p) = some 1) ∨ (¬ gG a q p ∧ fX0_mayGoOn u (nI q) (nI p) = some 0) := by
  obtain ⟨r1, r2, -, -, -, r6⟩ := h
  have hn := r1.1
  obtain ⟨-, ⟨e1, -, e2⟩, -⟩ := r2 q hq
  obtain ⟨⟨e3, -, e4⟩, -⟩ := r2 p hp
  unfold fX0_mayGoOn gG
  simp only [cl_n (show q < 14500 by omega), cl_n (show p < 14500 by omega), if_neg (ix2 (show q < 120 by omega) (by omega)), if_neg (ix2 (show p < 120 by omega) (by omega)), e1, e3]
  have hk := (r6.2.1 (120 * q + p) (by omega)).2
  by_cases h1 : a 1 q = a 0 p
  · rw [if_pos (show nI (a 1 q) = nI (a 0 p) by rw [h1]), isB0 (c := c) r6 (by omega) (by omega), qb_s]
    by_cases h2 : a 10 (120 * q + p) = 1
    · rw [if_pos h2, if_neg i10]; exact Or.inr ⟨fun hh => by omega, rfl⟩
    · rw [if_neg h2, if_pos rfl]; exact Or.inl ⟨⟨h1, by omega⟩, rfl⟩
  · rw [if_neg (show ¬ nI (a 1 q) = nI (a 0 p) from fun hh => h1 ((nI_eq (by omega) (by omega)).mp hh))]; exact Or.inr ⟨fun hh => h1 hh.1, rfl⟩
theorem may1 (h : Re c a u v) {q p : Nat} (hq : q < c 0) (hp : p < c 0) : (gG a q p ∧ fX1_leads v (nI q) (nI p) = some 1) ∨ (¬ gG a q p ∧ fX1_leads v (nI q) (nI p) = some 0) := by
  obtain ⟨r1, r2, -, -, -, r6⟩ := h
  have hn := r1.1
  obtain ⟨-, ⟨-, e1, e2⟩, -⟩ := r2 q hq
  obtain ⟨⟨-, e3, e4⟩, -⟩ := r2 p hp
  have ei : (120 : Int32) * nI q + nI p = nI (120 * q + p) := by rw [show (120 : Int32) = nI 120 from rfl, pk_mul, nI_add]
  obtain ⟨ek, hk⟩ := r6.2.1 (120 * q + p) (by omega)
  unfold fX1_leads gG
  simp only [ei, cl_n (show q < 14500 by omega), cl_n (show p < 14500 by omega), cl_n (show 120 * q + p < 14500 by omega), if_neg (ix2 (show q < 120 by omega) (by omega)), if_neg (ix2 (show p < 120 by omega) (by omega)), if_neg (ix2 (show 120 * q + p < 14400 by omega) (by omega)), e1, e3, ek]
  by_cases h1 : a 1 q = a 0 p
  · rw [if_pos (show nI (a 1 q) = nI (a 0 p) by rw [h1])]
    by_cases h2 : a 10 (120 * q + p) = 0
    · rw [h2, if_pos (show nI 0 = 0 from rfl)]; exact Or.inl ⟨⟨h1, rfl⟩, rfl⟩
    · rw [if_neg (nI_ne0 (show 0 < a 10 (120 * q + p) by omega) (by omega))]; exact Or.inr ⟨fun hh => h2 hh.2, rfl⟩
  · rw [if_neg (show ¬ nI (a 1 q) = nI (a 0 p) from fun hh => h1 ((nI_eq (by omega) (by omega)).mp hh))]; exact Or.inr ⟨fun hh => h1 hh.1, rfl⟩
theorem sec0 (h : Re c a u v) {p m : Nat} (hp : p < c 0) (hm : m ≤ 10000) : fX0_secondsFor u (nI p) (lN m) = some (lN (secN (a 3 p) m)) := by
  obtain ⟨r1, r2, -⟩ := h
  have hn := r1.1
  obtain ⟨-, -, -, e1, -, h1, h2⟩ := r2 p hp
  have f1 : ¬ lN (a 3 p) < (1 : Int64) := fun hh => by have := (pk_lLT (a := a 3 p) (b := 1) (by omega) (by omega)).mp hh; omega
  have f2 : ¬ lN (a 3 p) = (0 : Int64) := fun hh => by have := (pk_lEQ (a := a 3 p) (b := 0) (by omega) (by omega)).mp hh; omega
  unfold fX0_secondsFor
  simp only [cl_n (show p < 14500 by omega), if_neg (ix2 (show p < 120 by omega) (by omega)), e1, ql_s, if_neg f1, if_neg f2]
  rw [show (10 : Int64) = lN 10 from rfl, show (1 : Int64) = lN 1 from rfl, lN_mul, lN_add, lN_sub (by omega), pk_lDiv (by omega) (by omega) (by omega)]
  rfl
theorem sec1 (h : Re c a u v) {p m : Nat} (hp : p < c 0) (hm : m ≤ 10000) : fX1_seconds v (nI p) (lN m) = some (lN (secN (a 3 p) m)) := by
  obtain ⟨r1, r2, -⟩ := h
  have hn := r1.1
  obtain ⟨-, -, -, -, e1, h1, h2⟩ := r2 p hp
  have hd : 10 * m / a 3 p * a 3 p ≤ 10 * m := Nat.div_mul_le_self _ _
  have hd2 : 10 * m / a 3 p ≤ 10 * m := Nat.div_le_self _ _
  have f2 : ¬ lN (a 3 p) = (0 : Int64) := fun hh => by have := (pk_lEQ (a := a 3 p) (b := 0) (by omega) (by omega)).mp hh; omega
  have e2 : (10 : Int64) * lN m = lN (10 * m) := lN_mul 10 m
  have e3 : lN (10 * m) / lN (a 3 p) = lN (10 * m / a 3 p) := pk_lDiv (by omega) (by omega) (by omega)
  have e4 : lN (10 * m / a 3 p) + (1 : Int64) = lN (10 * m / a 3 p + 1) := lN_add _ 1
  unfold fX1_seconds
  simp only [cl_n (show p < 14500 by omega), if_neg (ix2 (show p < 120 by omega) (by omega)), e1, ql_s, if_neg f2, e2, e3, lN_mul, e4]
  unfold secN
  rw [secN_two h1]
  by_cases hh : 10 * m ≤ 10 * m / a 3 p * a 3 p
  · rw [if_pos ((pk_lLE (by omega) (by omega)).mpr hh), if_pos hh]
  · rw [if_neg (fun h2 => hh ((pk_lLE (by omega) (by omega)).mp h2)), if_neg hh]
theorem ent0 (h : Re c a u v) {p t : Nat} (hp : p < c 0) (ht : t < 2 ^ 62) : fX0_entryAtOrAfter u (nI p) (lN t) = some (lN (gEn a p t)) := by
  obtain ⟨r1, -, r3, -⟩ := h
  have hn := r1.1
  obtain ⟨e1, -, e2, -, h1⟩ := r3 p (by omega)
  have h1 : a 4 p = 0 ∧ a 5 p = 0 ∨ a 4 p < a 5 p ∧ a 5 p ≤ 86400 := h1
  have hmd : t % 86400 ≤ t := Nat.mod_le _ _
  have hml : t % 86400 < 86400 := Nat.mod_lt _ (by omega)
  have er : lN t - lN t / (86400 : Int64) * (86400 : Int64) = lN (t % 86400) := pk_lRem (b := 86400) (by omega) (by omega) (by omega)
  have e5 : lN t - lN (t % 86400) = lN (t - t % 86400) := lN_sub hmd
  have e6 : lN (t - t % 86400) + (86400 : Int64) = lN (t - t % 86400 + 86400) := lN_add _ 86400
  unfold fX0_entryAtOrAfter fX0_hasGate gEn entN
  simp only [cl_n (show p < 14500 by omega), if_neg (ix2 (show p < 120 by omega) (by omega)), e1, e2, ql_s, er, e5, e6, lN_add]
  by_cases h2 : a 5 p = 0
  · rw [if_pos (show lN (a 5 p) = (0 : Int64) by rw [h2]; rfl), qb_s, if_pos rfl, if_pos h2]
  · rw [if_neg (show ¬ lN (a 5 p) = (0 : Int64) from fun hh => h2 ((pk_lEQ (a := a 5 p) (b := 0) (by omega) (by omega)).mp hh)), qb_s, if_neg i10, if_neg h2]
    by_cases h3 : a 4 p ≤ t % 86400
    · rw [if_pos ((pk_lLE (a := a 4 p) (b := t % 86400) (by omega) (by omega)).mpr h3), if_pos h3]
      by_cases h4 : a 5 p ≤ t % 86400
      · rw [if_pos ((pk_lLE (a := a 5 p) (b := t % 86400) (by omega) (by omega)).mpr h4), if_pos h4]
      · rw [if_neg (fun hh => h4 ((pk_lLE (a := a 5 p) (b := t % 86400) (by omega) (by omega)).mp hh)), if_neg h4]
    · rw [if_neg (fun hh => h3 ((pk_lLE (a := a 4 p) (b := t % 86400) (by omega) (by omega)).mp hh)), if_neg h3]
theorem ent1 (h : Re c a u v) {p t : Nat} (hp : p < c 0) (ht : t < 2 ^ 62) : fX1_entry v (nI p) (lN t) = some (lN (gEn a p t)) := by
  obtain ⟨r1, -, r3, -⟩ := h
  have hn := r1.1
  obtain ⟨-, e1, -, e2, h1⟩ := r3 p (by omega)
  have h1 : a 4 p = 0 ∧ a 5 p = 0 ∨ a 4 p < a 5 p ∧ a 5 p ≤ 86400 := h1
  have hmd : t % 86400 ≤ t := Nat.mod_le _ _
  have hml : t % 86400 < 86400 := Nat.mod_lt _ (by omega)
  have er : lN t - lN t / (86400 : Int64) * (86400 : Int64) = lN (t % 86400) := pk_lRem (b := 86400) (by omega) (by omega) (by omega)
  have e5 : lN t - lN (t % 86400) = lN (t - t % 86400) := lN_sub hmd
  have e6 : lN (t - t % 86400) + (86400 : Int64) = lN (t - t % 86400 + 86400) := lN_add _ 86400
  unfold fX1_entry gEn entN
  simp only [cl_n (show p < 14500 by omega), if_neg (ix2 (show p < 120 by omega) (by omega)), e1, e2, ql_s, er, e5, e6, lN_add]
  by_cases h2 : a 5 p = 0
  · rw [if_pos (show lN (a 5 p) = (0 : Int64) by rw [h2]; rfl), if_pos h2]
  · rw [if_neg (show ¬ lN (a 5 p) = (0 : Int64) from fun hh => h2 ((pk_lEQ (a := a 5 p) (b := 0) (by omega) (by omega)).mp hh)), if_neg h2]
    by_cases h3 : a 4 p ≤ t % 86400
    · rw [if_pos ((pk_lLE (a := t - t % 86400 + a 4 p) (b := t) (by omega) (by omega)).mpr (by omega)), if_pos h3]
      by_cases h4 : a 5 p ≤ t % 86400
      · rw [if_pos ((pk_lLE (a := t - t % 86400 + a 5 p) (b := t) (by omega) (by omega)).mpr (by omega)), if_pos h4]
      · rw [if_neg (fun hh => h4 (by have := (pk_lLE (a := t - t % 86400 + a 5 p) (b := t) (by omega) (by omega)).mp hh; omega)), if_neg h4]
    · rw [if_neg (fun hh => h3 (by have := (pk_lLE (a := t - t % 86400 + a 4 p) (b := t) (by omega) (by omega)).mp hh; omega)), if_neg h3]
end Ev
