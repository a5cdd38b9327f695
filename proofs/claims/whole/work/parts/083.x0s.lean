/-! The pure side: the class's search. Own rows. -/
def Fr0 (u w : gS) : Prop := (∀ k, k ≠ 4 → gi w k = gi u k) ∧ (∀ k, k ≠ 6 → k ≠ 7 → gl w k = gl u k) ∧ ∀ k, gf w k = gf u k
theorem Fr0.rf (u : gS) : Fr0 u u := ⟨fun _ _ => rfl, fun _ _ _ => rfl, fun _ => rfl⟩
theorem Fr0.tr {u w z : gS} (h : Fr0 u w) (h2 : Fr0 w z) : Fr0 u z := ⟨fun k hk => (h2.1 k hk).trans (h.1 k hk), fun k a b => (h2.2.1 k a b).trans (h.2.1 k a b), fun k => (h2.2.2 k).trans (h.2.2 k)⟩
theorem Fr0.i4 (u : gS) (f : Nat → Int32) : Fr0 u (si u 4 f) := ⟨fun k hk => by rw [gi_si, if_neg hk], fun _ _ _ => rfl, fun _ => rfl⟩
theorem Fr0.l6 (u : gS) (f : Nat → Int64) : Fr0 u (sl u 6 f) := ⟨fun _ _ => rfl, fun k hk _ => by rw [gl_sl, if_neg hk], fun _ => rfl⟩
theorem Fr0.l7 (u : gS) (f : Nat → Int64) : Fr0 u (sl u 7 f) := ⟨fun _ _ => rfl, fun k _ hk => by rw [gl_sl, if_neg hk], fun _ => rfl⟩
theorem Re.fr0 {c : Nat → Nat} {a : Nat → Nat → Nat} {u v w : gS} (h : Re c a u v) (hf : Fr0 u w) : Re c a w v := by
  unfold Re R1 R2 R3 R4 R5 R6 at *
  simp only [hf.1 0 (by omega), hf.1 1 (by omega), hf.1 2 (by omega), hf.1 3 (by omega), hf.1 5 (by omega), hf.2.1 0 (by omega) (by omega), hf.2.1 1 (by omega) (by omega), hf.2.1 2 (by omega) (by omega), hf.2.1 3 (by omega) (by omega), hf.2.1 4 (by omega) (by omega), hf.2.1 5 (by omega) (by omega), hf.2.2]
  exact h
theorem nz0 : vp_nar .boolean (0 : Int32) = 0 := by decide
theorem nz1 : vp_nar .boolean (1 : Int32) = 1 := by decide
theorem fg0 {c : Nat → Nat} {a : Nat → Nat → Nat} {v : gS} : ∀ (m j : Nat) (u : gS), Re c a u v → j ≤ c 0 → c 0 - j < m → (∀ p, p < j → gl u 6 p = lN INF ∧ gl u 7 p = lN INF ∧ gi u 4 p = 0) →
    ∃ w, fX0_forgetLeastTimes_L2 m u (nI j) = some w ∧ Fr0 u w ∧ ∀ p, p < c 0 → gl w 6 p = lN INF ∧ gl w 7 p = lN INF ∧ gi w 4 p = 0 := by
  intro m
  induction m with
  | zero => intro j u _ _ h; omega
  | succ m ih =>
    intro j u hR hj hm hp
    have hn := hR.1.1
    have hg := hR.1.2.2.2.1
    show ∃ w, fX0_forgetLeastTimes_L2_b (fX0_forgetLeastTimes_L2 m) u (nI j) = some w ∧ _
    unfold fX0_forgetLeastTimes_L2_b
    rw [hg]
    by_cases e : j = c 0
    · rw [if_pos (by rw [e]; exact Int32.le_refl _)]
      exact ⟨u, rfl, Fr0.rf u, fun p h => hp p (by omega)⟩
    · rw [if_neg (nI_ge (show j < c 0 by omega) (by omega))]
      simp only [cl_n (show j < 14500 by omega), if_neg (ix2 (show j < 120 by omega) (by omega)), ql_s, nI_s]
      have f1 : Fr0 u (si (sl (sl u 6 (vp_updL (gl u 6) j (4000000000000000000 : Int64))) 7 (vp_updL (gl (sl u 6 (vp_updL (gl u 6) j (4000000000000000000 : Int64))) 7) j (4000000000000000000 : Int64))) 4 (upd (gi (sl (sl u 6 (vp_updL (gl u 6) j (4000000000000000000 : Int64))) 7 (vp_updL (gl (sl u 6 (vp_updL (gl u 6) j (4000000000000000000 : Int64))) 7) j (4000000000000000000 : Int64))) 4) j (vp_nar .boolean (0 : Int32)))) := (Fr0.l6 _ _).tr ((Fr0.l7 _ _).tr (Fr0.i4 _ _))
      obtain ⟨w, h1, h2, h3⟩ := ih (j + 1) _ (hR.fr0 f1) (by omega) (by omega) (fun p hp1 => by
        show vp_updL (gl u 6) j (4000000000000000000 : Int64) p = lN INF ∧ vp_updL (gl u 7) j (4000000000000000000 : Int64) p = lN INF ∧ upd (gi u 4) j (vp_nar .boolean (0 : Int32)) p = 0
        rw [upL_v, upL_v, up_v, nz0]
        by_cases e2 : p = j
        · rw [if_pos e2, if_pos e2, if_pos e2]; exact ⟨rfl, rfl, rfl⟩
        · rw [if_neg e2, if_neg e2, if_neg e2]; exact hp p (by omega))
      exact ⟨w, h1, f1.tr h2, h3⟩
/-- the rows of the search hold E, D, S -/
def H0 (n : Nat) (E D : Nat → Nat) (S : Nat → Bool) (u : gS) : Prop := ∀ p, p < n → gl u 6 p = lN (E p) ∧ gl u 7 p = lN (D p) ∧ gi u 4 p = (if S p = true then 1 else 0) ∧ E p ≤ INF ∧ D p ≤ INF
theorem ea0 {c : Nat → Nat} {a : Nat → Nat → Nat} {u v : gS} {E D : Nat → Nat} {S : Nat → Bool} (hR : Re c a u v) (hH : H0 (c 0) E D S u) : ∀ (m j : Nat) (y1 : Int32) (y2 : Int64), j ≤ c 0 → c 0 - j < m →
    ((y1 = -1 ∧ y2 = lN INF ∧ ∀ q, q < j → ¬ S q = true → INF ≤ D q) ∨ ∃ k, y1 = nI k ∧ y2 = lN (D k) ∧ k < j ∧ ¬ S k = true ∧ D k < INF ∧ ∀ q, q < j → ¬ S q = true → D k ≤ D q) →
    (fX0_earliestUnsettled_L9 m u y1 y2 (nI j) = some (-1) ∧ ∀ q, q < c 0 → ¬ S q = true → INF ≤ D q) ∨ ∃ k, fX0_earliestUnsettled_L9 m u y1 y2 (nI j) = some (nI k) ∧ k < c 0 ∧ ¬ S k = true ∧ D k < INF ∧ ∀ q, q < c 0 → ¬ S q = true → D k ≤ D q := by
  intro m
  induction m with
  | zero => intro j y1 y2 _ h; omega
  | succ m ih =>
    intro j y1 y2 hj hm hP
    have hI : INF = 4000000000000000000 := rfl
    have hn := hR.1.1
    have hg := hR.1.2.2.2.1
    show (fX0_earliestUnsettled_L9_b (fX0_earliestUnsettled_L9 m) u y1 y2 (nI j) = some (-1) ∧ _) ∨ ∃ k, fX0_earliestUnsettled_L9_b (fX0_earliestUnsettled_L9 m) u y1 y2 (nI j) = some (nI k) ∧ _
    unfold fX0_earliestUnsettled_L9_b
    rw [hg]
    by_cases e : j = c 0
    · rw [if_pos (by rw [e]; exact Int32.le_refl _)]
      subst e
      rcases hP with ⟨rfl, -, h1⟩ | ⟨k, rfl, -, h1, h2, h3, h4⟩
      · exact Or.inl ⟨rfl, h1⟩
      · exact Or.inr ⟨k, rfl, h1, h2, h3, h4⟩
    · have hj0 : j < c 0 := by clear hP; omega
      have hj1 : j + 1 ≤ c 0 := hj0
      have hm1 : c 0 - (j + 1) < m := by clear hP; omega
      rw [if_neg (nI_ge hj0 (by omega))]
      obtain ⟨x1, x2, x3, x4, x5⟩ := hH j hj0
      simp only [cl_n (show j < 14500 by omega), if_neg (ix2 (show j < 120 by omega) (by omega)), ql_s, nI_s, x2, x3]
      by_cases hS : S j = true
      · simp only [if_pos hS, if_neg i10]
        refine ih (j + 1) y1 y2 hj1 hm1 ?_
        rcases hP with ⟨h0, h1, h2⟩ | ⟨k, h0, h1, h2, h3, h4, h5⟩
        · exact Or.inl ⟨h0, h1, fun q hq hs => h2 q (by have : q ≠ j := fun e => hs (e ▸ hS); omega) hs⟩
        · exact Or.inr ⟨k, h0, h1, by omega, h3, h4, fun q hq hs => h5 q (by have : q ≠ j := fun e => hs (e ▸ hS); omega) hs⟩
      · simp only [if_neg hS, if_pos]
        have key : ∃ t, y2 = lN t ∧ t ≤ INF ∧ ((y1 = -1 ∧ t = INF ∧ ∀ q, q < j → ¬ S q = true → INF ≤ D q) ∨ ∃ k, y1 = nI k ∧ t = D k ∧ k < j ∧ ¬ S k = true ∧ D k < INF ∧ ∀ q, q < j → ¬ S q = true → D k ≤ D q) := by
          rcases hP with ⟨h0, h1, h2⟩ | ⟨k, h0, h1, h2, h3, h4, h5⟩
          · exact ⟨INF, h1, Nat.le_refl _, Or.inl ⟨h0, rfl, h2⟩⟩
          · exact ⟨D k, h1, Nat.le_of_lt h4, Or.inr ⟨k, h0, rfl, h2, h3, h4, h5⟩⟩
        obtain ⟨t, ht, htI, hK⟩ := key
        rw [ht]
        by_cases hle : t ≤ D j
        · rw [if_pos ((pk_lLE (by omega) (by omega)).mpr hle)]
          refine ih (j + 1) y1 (lN t) hj1 hm1 ?_
          rcases hK with ⟨h0, h1, h2⟩ | ⟨k, h0, h1, h2, h3, h4, h5⟩
          · exact Or.inl ⟨h0, by rw [h1], lt_s (p := fun q => ¬ S q = true → INF ≤ D q) h2 (fun _ => by omega)⟩
          · exact Or.inr ⟨k, h0, by rw [h1], by omega, h3, h4, lt_s (p := fun q => ¬ S q = true → D k ≤ D q) h5 (fun _ => by omega)⟩
        · rw [if_neg (fun hh => hle ((pk_lLE (by omega) (by omega)).mp hh))]
          have hdj : D j < INF := by clear hP hK; omega
          refine ih (j + 1) (nI j) (lN (D j)) hj1 hm1 (Or.inr ⟨j, rfl, rfl, Nat.lt_succ_self j, hS, hdj, fun q hq hs => ?_⟩)
          by_cases e2 : q = j
          · subst e2; exact Nat.le_refl _
          · rcases hK with ⟨h0, h1, h2⟩ | ⟨k, h0, h1, h2, h3, h4, h5⟩
            · have := h2 q (by omega) hs; omega
            · have := h5 q (by omega) hs; omega
