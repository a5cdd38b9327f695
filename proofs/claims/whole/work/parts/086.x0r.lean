/-! The pure side: what the class's way answers. Own rows. -/
def crN (s : Nat) : Nat := if s = 1 then 15 else 0
def fdN (a : Nat → Nat → Nat) (f t : Nat) : Nat := t + crN (a 7 f) + secN (a 3 (a 6 f)) (a 2 (a 6 f) - a 8 f)
def strt (a : Nat → Nat → Nat) (f g : Nat) : Prop := a 6 f = a 6 g ∧ a 8 f ≤ a 8 g
theorem crN_le (s : Nat) : crN s ≤ 15 := by unfold crN; split <;> omega
section W0
variable {c : Nat → Nat} {a : Nat → Nat → Nat} {u v : gS}
theorem sa0 (hR : Re c a u v) {j : Nat} (hj : j < c 1) : fX0_secondsAcross u (nI j) = some (lN (crN (a 7 j))) := by
  have hn := hR.1.2.1
  obtain ⟨-, ⟨e1, -, e2⟩, -⟩ := hR.2.2.2.1 j hj
  unfold fX0_secondsAcross crN
  simp only [cl_n (show j < 14500 by omega), if_neg (ix2 (show j < 100 by omega) (by omega)), e1]
  by_cases h : a 7 j = 1
  · rw [h, if_pos (show nI 1 = (1 : Int32) from rfl), if_pos rfl]; rfl
  · rw [if_neg (show ¬ nI (a 7 j) = (1 : Int32) from fun hh => h ((nI_eq (b := 1) (by omega) (by omega)).mp hh)), if_neg h]; rfl
theorem so0 (hR : Re c a u v) {f g : Nat} (hf : f < c 1) (hg : g < c 1) : (strt a f g ∧ fX0_isStraightOn u (nI f) (nI g) = some 1) ∨ (¬ strt a f g ∧ fX0_isStraightOn u (nI f) (nI g) = some 0) := by
  have hn := hR.1.2.1
  have hn0 := hR.1.1
  obtain ⟨⟨e1, -, b1⟩, -, e2, -, b2⟩ := hR.2.2.2.1 f hf
  obtain ⟨⟨e3, -, b3⟩, -, e4, -, b4⟩ := hR.2.2.2.1 g hg
  obtain ⟨-, -, ⟨-, -, -, b5⟩, -⟩ := hR.2.1 _ b1
  obtain ⟨-, -, ⟨-, -, -, b6⟩, -⟩ := hR.2.1 _ b3
  unfold fX0_isStraightOn strt
  simp only [cl_n (show f < 14500 by omega), cl_n (show g < 14500 by omega), if_neg (ix2 (show f < 100 by omega) (by omega)), if_neg (ix2 (show g < 100 by omega) (by omega)), e1, e2, e3, e4]
  by_cases h : a 6 f = a 6 g
  · rw [if_pos (show nI (a 6 f) = nI (a 6 g) by rw [h])]
    by_cases h2 : a 8 g < a 8 f
    · rw [if_pos ((pk_lLT (by omega) (by omega)).mpr h2)]; exact Or.inr ⟨fun hh => by omega, rfl⟩
    · rw [if_neg (fun hh => h2 ((pk_lLT (by omega) (by omega)).mp hh))]; exact Or.inl ⟨⟨h, by omega⟩, rfl⟩
  · rw [if_neg (fun hh => h ((nI_eq (by omega) (by omega)).mp hh))]; exact Or.inr ⟨fun hh => h hh.1, rfl⟩
theorem fl0 (hR : Re c a u v) {fi fd la : Nat} (hfi : fi < c 0) (hfd : fd < INF) (hla : la < c 0) : ∃ (w : gS) (E D : Nat → Nat), fX0_findLeastTimes u (nI fi) (lN fd) (nI la) = some w ∧ Fr0 u w ∧ HE (c 0) E D w ∧ SolB (c 0) (gG a) (gEn a) E D ∧ SolC (c 0) (gLe a) fi fd E D ∧ SolA (c 0) (gG a) (gEn a) E D (E la) := by
  have hI : INF = 4000000000000000000 := rfl
  have hn := hR.1.1
  obtain ⟨u2, h1, h2, h3⟩ := fg0 200 0 u hR (Nat.zero_le _) (by omega) (fun p hp => absurd hp (Nat.not_lt_zero p))
  have h1 : fX0_forgetLeastTimes u = some u2 := h1
  unfold fX0_findLeastTimes
  rw [h1, qb_s]
  simp only [cl_n (show fi < 14500 by omega), if_neg (ix2 (show fi < 120 by omega) (by omega)), ql_s]
  have f1 : Fr0 u (sl u2 7 (vp_updL (gl u2 7) fi (lN fd))) := h2.tr (Fr0.l7 _ _)
  have row : ∀ p, gl (sl u2 7 (vp_updL (gl u2 7) fi (lN fd))) 6 p = gl u2 6 p ∧ gl (sl u2 7 (vp_updL (gl u2 7) fi (lN fd))) 7 p = (if p = fi then lN fd else gl u2 7 p) ∧ gi (sl u2 7 (vp_updL (gl u2 7) fi (lN fd))) 4 p = gi u2 4 p := fun p => ⟨rfl, rfl, rfl⟩
  generalize (sl u2 7 (vp_updL (gl u2 7) fi (lN fd))) = u3 at f1 row ⊢
  have hH : H0 (c 0) (fun _ => INF) (fun p => if p = fi then fd else INF) (fun _ => false) u3 := fun p hp => by
    obtain ⟨x1, x2, x3⟩ := h3 p hp
    obtain ⟨y1, y2, y3⟩ := row p
    refine ⟨by rw [y1, x1], ?_, by rw [y3, x3]; rfl, Nat.le_refl _, ?_⟩
    · rw [y2, x2]
      show (if p = fi then lN fd else lN INF) = lN (if p = fi then fd else INF)
      by_cases e : p = fi
      · rw [if_pos e, if_pos e]
      · rw [if_neg e, if_neg e]
    · show (if p = fi then fd else INF) ≤ INF
      split <;> omega
  have hDI : DI (c 0) (gG a) (gEn a) (gLe a) fi fd (fun _ => INF) (fun p => if p = fi then fd else INF) (fun q => (fun _ => false) q = true) := by
    refine ⟨fun q p _ _ h => Bool.noConfusion h, fun q _ h => Bool.noConfusion h, fun p _ h => absurd h (Nat.lt_irrefl _), ⟨fun p _ hf => ?_, if_pos rfl, fun p _ => Nat.le_refl _, fun p _ => Nat.le_of_lt hfd⟩, fun q p _ _ h => Bool.noConfusion h⟩
    show (if p = fi then fd else INF) = min INF (INF + gLe a p)
    rw [if_neg hf]; omega
  obtain ⟨w, E, D, q1, q2, q3⟩ := fd0 hfi hfd hla 200 0 u3 _ _ _ (hR.fr0 f1) hH hDI (Nat.zero_le _) (Nat.zero_le _) (by omega)
  exact ⟨w, E, D, q1, f1.tr q2, q3⟩
theorem fdN_lt (hR : Re c a u v) {f t : Nat} (hf : f < c 1) (ht : t ≤ 1000000000000) : fdN a f t < INF := by
  have hI : INF = 4000000000000000000 := rfl
  obtain ⟨⟨-, -, b1⟩, -⟩ := hR.2.2.2.1 f hf
  obtain ⟨-, -, ⟨-, -, -, b5⟩, -, -, b6, -⟩ := hR.2.1 _ b1
  have h1 := crN_le (a 7 f)
  have h2 := secN_le b6 (show a 2 (a 6 f) - a 8 f ≤ 10000 by omega)
  unfold fdN; omega
theorem la0s (hR : Re c a u v) {f g t : Nat} (hf : f < c 1) (hg : g < c 1) (hs : strt a f g) : fX0_leastArrival u (nI f) (nI g) (lN t) = some (lN (t + crN (a 7 f) + secN (a 3 (a 6 f)) (a 8 g - a 8 f) + crN (a 7 g)), u) := by
  have hn := hR.1.2.1
  obtain ⟨⟨e1, -, b1⟩, -, e2, -, b2⟩ := hR.2.2.2.1 f hf
  obtain ⟨⟨e3, -, b3⟩, -, e4, -, b4⟩ := hR.2.2.2.1 g hg
  obtain ⟨-, -, ⟨-, -, -, b6⟩, -⟩ := hR.2.1 _ b3
  have hsub : lN (a 8 g) - lN (a 8 f) = lN (a 8 g - a 8 f) := lN_sub hs.2
  unfold fX0_leastArrival
  rw [sa0 hR hf, qb_s]
  simp only [cl_n (show f < 14500 by omega), cl_n (show g < 14500 by omega), if_neg (ix2 (show f < 100 by omega) (by omega)), if_neg (ix2 (show g < 100 by omega) (by omega)), ql_s, e1, e2, e3, e4, hsub]
  rcases so0 hR hf hg with ⟨-, h⟩ | ⟨h, -⟩
  · rw [h, qb_s, if_neg i10, sec0 hR b1 (by omega), qb_s, sa0 hR hg, qb_s, lN_add, lN_add, lN_add]
  · exact absurd hs h
theorem la0n (hR : Re c a u v) {f g t : Nat} (hf : f < c 1) (hg : g < c 1) (ht : t ≤ 1000000000000) (hs : ¬ strt a f g) : ∃ (w : gS) (E D : Nat → Nat), fX0_leastArrival u (nI f) (nI g) (lN t) = some (if E (a 6 g) = INF then (-1 : Int64) else lN (E (a 6 g) + secN (a 3 (a 6 g)) (a 8 g) + crN (a 7 g)), w) ∧ Fr0 u w ∧ HE (c 0) E D w ∧ SolB (c 0) (gG a) (gEn a) E D ∧ SolC (c 0) (gLe a) (a 6 f) (fdN a f t) E D ∧ SolA (c 0) (gG a) (gEn a) E D (E (a 6 g)) := by
  have hI : INF = 4000000000000000000 := rfl
  have hn := hR.1.2.1
  have hn0 := hR.1.1
  obtain ⟨⟨e1, -, b1⟩, -, e2, -, b2⟩ := hR.2.2.2.1 f hf
  obtain ⟨⟨e3, -, b3⟩, -, e4, -, b4⟩ := hR.2.2.2.1 g hg
  obtain ⟨-, -, ⟨e5, -, -, b5⟩, -⟩ := hR.2.1 _ b1
  obtain ⟨-, -, ⟨-, -, -, b6⟩, -⟩ := hR.2.1 _ b3
  have hsub : lN (a 2 (a 6 f)) - lN (a 8 f) = lN (a 2 (a 6 f) - a 8 f) := lN_sub b2
  obtain ⟨w, E, D, q1, q2, q3, q4, q5, q6⟩ := fl0 hR b1 (fdN_lt hR hf ht) b3
  refine ⟨w, E, D, ?_, q2, q3, q4, q5, q6⟩
  have hRw := hR.fr0 q2
  obtain ⟨x6, -, x8, -⟩ := q3 _ b3
  have e4w : gl w 5 g = lN (a 8 g) := by rw [q2.2.1 5 (by omega) (by omega)]; exact e4
  unfold fX0_leastArrival
  rw [sa0 hR hf, qb_s]
  simp only [cl_n (show f < 14500 by omega), cl_n (show g < 14500 by omega), cl_n (show a 6 f < 14500 by omega), cl_n (show a 6 g < 14500 by omega), if_neg (ix2 (show f < 100 by omega) (by omega)), if_neg (ix2 (show g < 100 by omega) (by omega)), if_neg (ix2 (show a 6 f < 120 by omega) (by omega)), if_neg (ix2 (show a 6 g < 120 by omega) (by omega)), ql_s, e1, e2, e3, e4, e5, hsub]
  rcases so0 hR hf hg with ⟨h, -⟩ | ⟨-, h⟩
  · exact absurd h hs
  · rw [h, qb_s, if_pos rfl, sec0 hR b1 (by omega), qb_s, lN_add, lN_add]
    have q1 : fX0_findLeastTimes u (nI (a 6 f)) (lN (t + crN (a 7 f) + secN (a 3 (a 6 f)) (a 2 (a 6 f) - a 8 f))) (nI (a 6 g)) = some w := q1
    rw [q1, qb_s]
    simp only [x6, e4w]
    by_cases hE : E (a 6 g) = INF
    · rw [if_pos hE, if_pos (by rw [hE]; rfl)]
    · rw [if_neg hE, if_neg (show ¬ lN (E (a 6 g)) = (4000000000000000000 : Int64) from fun hh => hE ((pk_lEQ (b := INF) (by omega) (by omega)).mp hh)), sec0 hRw b3 (by omega), qb_s, sa0 hRw hg, qb_s, lN_add, lN_add]
end W0
/-- the rows that a way may change -/
def FW0 (u w : gS) : Prop := (∀ k, k ≠ 4 → k ≠ 5 → gi w k = gi u k) ∧ (∀ k, k ≠ 6 → k ≠ 7 → gl w k = gl u k) ∧ ∀ k, k ≠ 3 → gf w k = gf u k
def WayA (n : Nat) (a : Nat → Nat → Nat) (f g t : Nat) (ans : Int64) (K : Nat) (ch : Nat → Nat) (E D : Nat → Nat) : Prop :=
  (strt a f g ∧ ans = lN (t + crN (a 7 f) + secN (a 3 (a 6 f)) (a 8 g - a 8 f) + crN (a 7 g)) ∧ K = 1 ∧ ch 0 = a 6 g) ∨
  (¬ strt a f g ∧ ((E (a 6 g) = INF ∧ ans = -1 ∧ K = 0) ∨ (E (a 6 g) < INF ∧ ans = lN (E (a 6 g) + secN (a 3 (a 6 g)) (a 8 g) + crN (a 7 g)) ∧ K ≤ 121 ∧ Chn n (gG a) (gEn a) (a 6 f) E D (a 6 g) K ch)))
