/-! The pure side: the class's search, on. Own rows. -/
def RX (a : Nat → Nat → Nat) (k : Nat) (E D : Nat → Nat) (u : gS) (p : Nat) : Prop := (gG a k p ∧ gEn a p (D k) < E p ∧ gl u 6 p = lN (gEn a p (D k)) ∧ gl u 7 p = lN (min (D p) (gEn a p (D k) + gLe a p))) ∨ (¬ (gG a k p ∧ gEn a p (D k) < E p) ∧ gl u 6 p = lN (E p) ∧ gl u 7 p = lN (D p))
theorem lmin {x y : Nat} (hx : x < 2 ^ 63) (hy : y < 2 ^ 63) : (if lN x < lN y then lN x else lN y) = lN (min y x) := by
  by_cases h : x < y
  · rw [if_pos ((pk_lLT hx hy).mpr h), Nat.min_eq_right (Nat.le_of_lt h)]
  · rw [if_neg (fun hh => h ((pk_lLT hx hy).mp hh)), Nat.min_eq_left (by omega)]
theorem gLe_le {c : Nat → Nat} {a : Nat → Nat → Nat} {u v : gS} (hR : Re c a u v) {p : Nat} (hp : p < c 0) : gLe a p ≤ 200000 := by
  obtain ⟨-, -, ⟨-, -, -, h1⟩, -, -, h2, -⟩ := hR.2.1 p hp
  exact secN_le h2 h1
theorem gEn_le {c : Nat → Nat} {a : Nat → Nat → Nat} {u v : gS} (hR : Re c a u v) {p t : Nat} (hp : p < c 0) : gEn a p t ≤ t + 172800 := entN_le (hR.2.2.1 p (by have := hR.1.1; omega)).2.2.2.2
theorem secL0 {c : Nat → Nat} {a : Nat → Nat → Nat} {u v : gS} (hR : Re c a u v) {p : Nat} (hp : p < c 0) : fX0_secondsFor u (nI p) (gl u 0 p) = some (lN (gLe a p)) := by
  obtain ⟨-, -, ⟨e, -, -, h1⟩, -⟩ := hR.2.1 p hp
  rw [e]; exact sec0 hR hp h1
theorem go0 {c : Nat → Nat} {a : Nat → Nat → Nat} {v : gS} {E D : Nat → Nat} {k : Nat} (hk : k < c 0) (hdk : D k < INF) (hE : ∀ p, p < c 0 → E p ≤ INF ∧ D p ≤ INF) : ∀ (m j : Nat) (u : gS), Re c a u v → j ≤ c 0 → c 0 - j < m → (∀ p, p < j → RX a k E D u p) → (∀ p, j ≤ p → p < c 0 → gl u 6 p = lN (E p) ∧ gl u 7 p = lN (D p)) →
    ∃ w, fX0_goOnFrom_L2 m u (nI k) (nI j) = some w ∧ Fr0 u w ∧ gi w 4 = gi u 4 ∧ ∀ p, p < c 0 → RX a k E D w p := by
  have hI : INF = 4000000000000000000 := rfl
  intro m
  induction m with
  | zero => intro j u _ _ h; omega
  | succ m ih =>
    intro j u hR hj hm hp hq
    have hn := hR.1.1
    have hg := hR.1.2.2.2.1
    have e7 : gl u 7 k = lN (D k) := by
      rcases Nat.lt_or_ge k j with h1 | h1
      · rcases hp k h1 with ⟨-, -, -, h2⟩ | ⟨-, -, h2⟩
        · rw [h2]
          have : D k ≤ gEn a k (D k) := entN_ge
          rw [Nat.min_eq_left (by omega)]
        · exact h2
      · exact (hq k h1 hk).2
    show ∃ w, fX0_goOnFrom_L2_b (fX0_goOnFrom_L2 m) u (nI k) (nI j) = some w ∧ _
    unfold fX0_goOnFrom_L2_b
    rw [hg]
    by_cases e : j = c 0
    · rw [if_pos (by rw [e]; exact Int32.le_refl _)]
      exact ⟨u, rfl, Fr0.rf u, rfl, fun p h => hp p (by omega)⟩
    · have hj0 : j < c 0 := by omega
      rw [if_neg (nI_ge hj0 (by omega))]
      simp only [cl_n (show j < 14500 by omega), cl_n (show k < 14500 by omega), if_neg (ix2 (show j < 120 by omega) (by omega)), if_neg (ix2 (show k < 120 by omega) (by omega)), ql_s, nI_s, e7]
      obtain ⟨x6, x7⟩ := hq j (Nat.le_refl _) hj0
      have ee := ent0 hR hj0 (show D k < 2 ^ 62 by omega)
      have el := gEn_le hR (t := D k) hj0
      have ll := gLe_le hR hj0
      obtain ⟨b1, b2⟩ := hE j hj0
      rcases may0 hR hk hj0 with ⟨hgo, hm0⟩ | ⟨hgo, hm0⟩
      · rw [hm0, qb_s, if_neg i10, ee, qb_s, x6]
        by_cases hle : E j ≤ gEn a j (D k)
        · rw [if_pos ((pk_lLE (by omega) (by omega)).mpr hle)]
          exact ih (j + 1) u hR (by omega) (by omega) (lt_s hp (Or.inr ⟨fun hh => by omega, x6, x7⟩)) (fun p h1 h2 => hq p (by omega) h2)
        · rw [if_neg (fun hh => hle ((pk_lLE (by omega) (by omega)).mp hh))]
          have f1 : Fr0 u (sl u 6 (vp_updL (gl u 6) j (lN (gEn a j (D k))))) := Fr0.l6 _ _
          have es := secL0 (hR.fr0 f1) hj0
          rw [es, qb_s, lN_add]
          have ev : gl (sl u 6 (vp_updL (gl u 6) j (lN (gEn a j (D k))))) 7 j = lN (D j) := x7
          rw [ev, lmin (by omega) (by omega)]
          have f2 : Fr0 u (sl (sl u 6 (vp_updL (gl u 6) j (lN (gEn a j (D k))))) 7 (vp_updL (gl (sl u 6 (vp_updL (gl u 6) j (lN (gEn a j (D k))))) 7) j (lN (min (D j) (gEn a j (D k) + gLe a j))))) := f1.tr (Fr0.l7 _ _)
          have row : ∀ p, gl (sl (sl u 6 (vp_updL (gl u 6) j (lN (gEn a j (D k))))) 7 (vp_updL (gl (sl u 6 (vp_updL (gl u 6) j (lN (gEn a j (D k))))) 7) j (lN (min (D j) (gEn a j (D k) + gLe a j))))) 6 p = (if p = j then lN (gEn a j (D k)) else gl u 6 p) ∧ gl (sl (sl u 6 (vp_updL (gl u 6) j (lN (gEn a j (D k))))) 7 (vp_updL (gl (sl u 6 (vp_updL (gl u 6) j (lN (gEn a j (D k))))) 7) j (lN (min (D j) (gEn a j (D k) + gLe a j))))) 7 p = (if p = j then lN (min (D j) (gEn a j (D k) + gLe a j)) else gl u 7 p) := fun p => ⟨rfl, rfl⟩
          have hz4 : gi (sl (sl u 6 (vp_updL (gl u 6) j (lN (gEn a j (D k))))) 7 (vp_updL (gl (sl u 6 (vp_updL (gl u 6) j (lN (gEn a j (D k))))) 7) j (lN (min (D j) (gEn a j (D k) + gLe a j))))) 4 = gi u 4 := rfl
          generalize (sl (sl u 6 (vp_updL (gl u 6) j (lN (gEn a j (D k))))) 7 (vp_updL (gl (sl u 6 (vp_updL (gl u 6) j (lN (gEn a j (D k))))) 7) j (lN (min (D j) (gEn a j (D k) + gLe a j))))) = z at f2 row hz4 ⊢
          obtain ⟨w, h1, h2, h3, h4⟩ := ih (j + 1) z (hR.fr0 f2) (by omega) (by omega) (lt_s (fun p h => by
              obtain ⟨r6, r7⟩ := row p
              unfold RX
              rw [r6, r7, if_neg (by omega), if_neg (by omega)]
              exact hp p h) (by
              obtain ⟨r6, r7⟩ := row j
              unfold RX
              rw [r6, r7, if_pos rfl, if_pos rfl]
              exact Or.inl ⟨hgo, by omega, rfl, rfl⟩)) (fun p h1 h2 => by
              obtain ⟨r6, r7⟩ := row p
              rw [r6, r7, if_neg (by omega), if_neg (by omega)]
              exact hq p (by omega) h2)
          exact ⟨w, h1, f2.tr h2, h3.trans hz4, h4⟩
      · rw [hm0, qb_s, if_pos rfl]
        exact ih (j + 1) u hR (by omega) (by omega) (lt_s hp (Or.inr ⟨fun hh => hgo hh.1, x6, x7⟩)) (fun p h1 h2 => hq p (by omega) h2)
theorem nI_m1 {k : Nat} (h : k < 2 ^ 31) : ¬ nI k = (-1 : Int32) := fun e => nI_pos h (by rw [e]; decide)
theorem RX_fun {n : Nat} {a : Nat → Nat → Nat} {k : Nat} {E D : Nat → Nat} {w : gS} (h : ∀ p, p < n → RX a k E D w p) : ∃ E' D' : Nat → Nat, ∀ p, p < n → ((gG a k p ∧ gEn a p (D k) < E p ∧ E' p = gEn a p (D k) ∧ D' p = min (D p) (gEn a p (D k) + gLe a p)) ∨ (¬ (gG a k p ∧ gEn a p (D k) < E p) ∧ E' p = E p ∧ D' p = D p)) ∧ gl w 6 p = lN (E' p) ∧ gl w 7 p = lN (D' p) := by
  refine ⟨fun p => if (a 1 k = a 0 p ∧ a 10 (120 * k + p) = 0) ∧ gEn a p (D k) < E p then gEn a p (D k) else E p, fun p => if (a 1 k = a 0 p ∧ a 10 (120 * k + p) = 0) ∧ gEn a p (D k) < E p then min (D p) (gEn a p (D k) + gLe a p) else D p, fun p hp => ?_⟩
  rcases h p hp with ⟨h1, h2, h3, h4⟩ | ⟨h1, h2, h3⟩
  · have hc : (a 1 k = a 0 p ∧ a 10 (120 * k + p) = 0) ∧ gEn a p (D k) < E p := ⟨h1, h2⟩
    simp only [if_pos hc]
    exact ⟨Or.inl ⟨h1, h2, trivial, trivial⟩, h3, h4⟩
  · have hc : ¬ ((a 1 k = a 0 p ∧ a 10 (120 * k + p) = 0) ∧ gEn a p (D k) < E p) := h1
    simp only [if_neg hc]
    exact ⟨Or.inr ⟨h1, trivial, trivial⟩, h2, h3⟩
def HE (n : Nat) (E D : Nat → Nat) (u : gS) : Prop := ∀ p, p < n → gl u 6 p = lN (E p) ∧ gl u 7 p = lN (D p) ∧ E p ≤ INF ∧ D p ≤ INF
theorem fd0 {c : Nat → Nat} {a : Nat → Nat → Nat} {v : gS} {fi fd la : Nat} (hfi : fi < c 0) (hfd : fd < INF) (hla : la < c 0) : ∀ (m r : Nat) (u : gS) (E D : Nat → Nat) (S : Nat → Bool), Re c a u v → H0 (c 0) E D S u → DI (c 0) (gG a) (gEn a) (gLe a) fi fd E D (fun q => S q = true) → r ≤ sumE (fun q => if S q = true then 1 else 0) (c 0) → r ≤ c 0 → c 0 - r < m →
    ∃ (w : gS) (E' D' : Nat → Nat), fX0_findLeastTimes_L14 m u (nI la) (nI r) = some w ∧ Fr0 u w ∧ HE (c 0) E' D' w ∧ SolB (c 0) (gG a) (gEn a) E' D' ∧ SolC (c 0) (gLe a) fi fd E' D' ∧ SolA (c 0) (gG a) (gEn a) E' D' (E' la) := by
  have hI : INF = 4000000000000000000 := rfl
  intro m
  induction m with
  | zero => intro r u E D S _ _ _ _ _ h; omega
  | succ m ih =>
    intro r u E D S hR hH hDI hsum hr hm
    have hn := hR.1.1
    have hg := hR.1.2.2.2.1
    have hGH := Re_GH hR
    have hHE : HE (c 0) E D u := fun p hp => by obtain ⟨h1, h2, -, h3, h4⟩ := hH p hp; exact ⟨h1, h2, h3, h4⟩
    have out : (∀ q, q < c 0 → D q < INF → D q ≤ E la → S q = true) → ∃ (w : gS) (E' D' : Nat → Nat), some u = some w ∧ Fr0 u w ∧ HE (c 0) E' D' w ∧ SolB (c 0) (gG a) (gEn a) E' D' ∧ SolC (c 0) (gLe a) fi fd E' D' ∧ SolA (c 0) (gG a) (gEn a) E' D' (E' la) := fun hB => by
      obtain ⟨s1, s2, s3⟩ := DI_end (B := E la) hDI hB
      exact ⟨u, E, D, rfl, Fr0.rf u, hHE, s1, s2, s3⟩
    show ∃ (w : gS) (E' D' : Nat → Nat), fX0_findLeastTimes_L14_b (fX0_findLeastTimes_L14 m) u (nI la) (nI r) = some w ∧ _
    unfold fX0_findLeastTimes_L14_b
    rw [hg]
    by_cases e : r = c 0
    · rw [if_pos (by rw [e]; exact Int32.le_refl _)]
      refine out (fun q hq _ _ => ?_)
      rcases hSq : S q with _ | _
      · exfalso
        have h1 := sumE_lt (E := fun _ => 1) (E' := fun q => if S q = true then 1 else 0) (c 0) (fun p _ => by split <;> omega) ⟨q, hq, by simp [hSq]⟩
        have h2 := sumE_bd (E := fun _ => 1) (b := 1) (c 0) (fun _ _ => Nat.le_refl _)
        omega
      · rfl
    · have hr0 : r < c 0 := by omega
      rw [if_neg (nI_ge hr0 (by omega))]
      have hea := ea0 hR hH 200 0 (-1) (lN INF) (Nat.zero_le _) (by omega) (Or.inl ⟨rfl, rfl, fun q hq => absurd hq (Nat.not_lt_zero q)⟩)
      rcases hea with ⟨h1, h2⟩ | ⟨k, h1, hk, hkS, hkI, hmin⟩
      · have h1 : fX0_earliestUnsettled u = some (-1) := h1
        rw [h1, qb_s, if_pos rfl]
        refine out (fun q hq hD _ => ?_)
        rcases hSq : S q with _ | _
        · have := h2 q hq (by simp [hSq]); omega
        · rfl
      · have h1 : fX0_earliestUnsettled u = some (nI k) := h1
        obtain ⟨y6, y7, -, y8, y9⟩ := hH la hla
        obtain ⟨z6, z7, z4, z8, z9⟩ := hH k hk
        rw [h1, qb_s, if_neg (nI_m1 (by omega))]
        simp only [cl_n (show k < 14500 by omega), cl_n (show la < 14500 by omega), if_neg (ix2 (show k < 120 by omega) (by omega)), if_neg (ix2 (show la < 120 by omega) (by omega)), ql_s, nI_s, y6, z7]
        by_cases hle : D k ≤ E la
        · rw [if_pos ((pk_lLE (by omega) (by omega)).mpr hle)]
          have f1 : Fr0 u (si u 4 (upd (gi u 4) k (vp_nar .boolean (1 : Int32)))) := Fr0.i4 _ _
          have row : ∀ p, gi (si u 4 (upd (gi u 4) k (vp_nar .boolean (1 : Int32)))) 4 p = (if p = k then 1 else gi u 4 p) := fun p => by
            show upd (gi u 4) k (vp_nar .boolean (1 : Int32)) p = _
            rw [up_v, nz1]
          have row6 : ∀ p, gl (si u 4 (upd (gi u 4) k (vp_nar .boolean (1 : Int32)))) 6 p = gl u 6 p ∧ gl (si u 4 (upd (gi u 4) k (vp_nar .boolean (1 : Int32)))) 7 p = gl u 7 p := fun p => ⟨rfl, rfl⟩
          generalize (si u 4 (upd (gi u 4) k (vp_nar .boolean (1 : Int32)))) = u1 at f1 row row6 ⊢
          obtain ⟨w, g1, g2, g3, g4⟩ := go0 hk hkI (fun p hp => ⟨(hH p hp).2.2.2.1, (hH p hp).2.2.2.2⟩) 200 0 u1 (hR.fr0 f1) (Nat.zero_le _) (by omega) (fun p hp => absurd hp (Nat.not_lt_zero p)) (fun p _ hp => by rw [(row6 p).1, (row6 p).2]; exact ⟨(hH p hp).1, (hH p hp).2.1⟩)
          have g1 : fX0_goOnFrom u1 (nI k) = some w := g1
          rw [g1, qb_s]
          obtain ⟨E', D', hx⟩ := RX_fun g4
          have hw := hR.fr0 (f1.tr g2)
          have bd : ∀ p, p < c 0 → E' p ≤ INF ∧ D' p ≤ INF := fun p hp => by
            have b1 := (hH p hp).2.2.2.1
            have b2 := (hH p hp).2.2.2.2
            rcases (hx p hp).1 with ⟨-, x1, x2, x3⟩ | ⟨-, x2, x3⟩ <;> omega
          have hS4 : ∀ p, p < c 0 → gi w 4 p = (if (decide (p = k) || S p) = true then 1 else 0) := fun p hp => by
            rw [g3, row p]
            by_cases e2 : p = k
            · rw [if_pos e2, if_pos (by simp [e2])]
            · rw [if_neg e2, (hH p hp).2.2.1]; simp [e2]
          have hDI2 : DI (c 0) (gG a) (gEn a) (gLe a) fi fd E' D' (fun q => (decide (q = k) || S q) = true) := DI_step hGH hDI hfd hfi hk hkS hkI hmin (fun q => by simp; constructor <;> (intro h; rcases h with h | h <;> simp [h])) (fun p hp => (hx p hp).1)
          have hs2 := sumE_lt (E := fun q => if (decide (q = k) || S q) = true then 1 else 0) (E' := fun q => if S q = true then 1 else 0) (c 0) (fun p _ => by by_cases h1 : S p = true <;> simp [h1]) ⟨k, hk, by simp [hkS]⟩
          obtain ⟨w2, E2, D2, q1, q2, q3⟩ := ih (r + 1) w E' D' (fun q => decide (q = k) || S q) hw (fun p hp => ⟨(hx p hp).2.1, (hx p hp).2.2, hS4 p hp, (bd p hp).1, (bd p hp).2⟩) hDI2 (by omega) (by omega) (by omega)
          exact ⟨w2, E2, D2, q1, (f1.tr g2).tr q2, q3⟩
        · rw [if_neg (fun hh => hle ((pk_lLE (by omega) (by omega)).mp hh))]
          refine out (fun q hq hD hDB => ?_)
          rcases hSq : S q with _ | _
          · have := hmin q hq (by simp [hSq]); omega
          · rfl
