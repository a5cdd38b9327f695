/-! The pure side: service answers alike. Own rows. -/
section P4
variable {c : Nat → Nat} {a : Nat → Nat → Nat} {u v : gS}
theorem hs0 (hR : Re c a u v) {j s : Nat} (hj : j < 120) (hs : s ≤ 1) : ∀ m k, k ≤ c 1 → c 1 - k < m → ((∃ i, k ≤ i ∧ i < c 1 ∧ a 6 i = j ∧ a 7 i = s) ∧ fX0_hasStopAtSide_L2 m u (nI j) (nI s) (nI k) = some 1) ∨ (¬ (∃ i, k ≤ i ∧ i < c 1 ∧ a 6 i = j ∧ a 7 i = s) ∧ fX0_hasStopAtSide_L2 m u (nI j) (nI s) (nI k) = some 0) := by
  have hn := hR.1.1
  have hn2 := hR.1.2.1
  have s0 : gf u 2 = nI (c 1) := hR.1.2.2.2.2.2.1
  intro m
  induction m with
  | zero => intro k _ h; omega
  | succ m ih =>
    intro k hk hm
    show ((∃ i, k ≤ i ∧ i < c 1 ∧ a 6 i = j ∧ a 7 i = s) ∧ fX0_hasStopAtSide_L2_b (fX0_hasStopAtSide_L2 m) u (nI j) (nI s) (nI k) = some 1) ∨ (¬ (∃ i, k ≤ i ∧ i < c 1 ∧ a 6 i = j ∧ a 7 i = s) ∧ fX0_hasStopAtSide_L2_b (fX0_hasStopAtSide_L2 m) u (nI j) (nI s) (nI k) = some 0)
    unfold fX0_hasStopAtSide_L2_b
    rw [s0]
    by_cases e : k = c 1
    · rw [if_pos (by rw [e]; exact Int32.le_refl _)]
      exact Or.inr ⟨fun ⟨i, h1, h2, _⟩ => by omega, rfl⟩
    · obtain ⟨⟨e1, -, b1⟩, ⟨e2, -, b2⟩, -⟩ := hR.2.2.2.1 k (by omega)
      have ix := ix_ok (show k < 100 by omega) (by omega)
      rw [if_neg (nI_ge (show k < c 1 by omega) (by omega)), if_neg ix, cl_n (show k < 14500 by omega), e1, e2]
      have nxt : (¬ (a 6 k = j ∧ a 7 k = s)) → ((∃ i, k ≤ i ∧ i < c 1 ∧ a 6 i = j ∧ a 7 i = s) ∧ fX0_hasStopAtSide_L2 m u (nI j) (nI s) (nI (k + 1)) = some 1) ∨ (¬ (∃ i, k ≤ i ∧ i < c 1 ∧ a 6 i = j ∧ a 7 i = s) ∧ fX0_hasStopAtSide_L2 m u (nI j) (nI s) (nI (k + 1)) = some 0) := fun hne => by
        rcases ih (k + 1) (by omega) (by omega) with ⟨⟨i, h1, h2, h3⟩, h4⟩ | ⟨h3, h4⟩
        · exact Or.inl ⟨⟨i, by omega, h2, h3⟩, h4⟩
        · refine Or.inr ⟨fun ⟨i, h1, h2, h5⟩ => ?_, h4⟩
          by_cases e9 : i = k
          · rw [e9] at h5; exact hne h5
          · exact h3 ⟨i, by omega, h2, h5⟩
      by_cases e3 : a 6 k = j
      · rw [if_pos (by rw [e3]), if_neg (ix2 (show k < 100 by omega) (by omega))]
        by_cases e4 : a 7 k = s
        · rw [if_pos (by rw [e4])]
          exact Or.inl ⟨⟨k, Nat.le_refl _, by omega, e3, e4⟩, rfl⟩
        · rw [if_neg (fun hh => e4 ((nI_eq (by omega) (by omega)).mp hh)), ql_s, nI_s]
          exact nxt (fun h => e4 h.2)
      · rw [if_neg (fun hh => e3 ((nI_eq (by omega) (by omega)).mp hh)), ql_s, nI_s]
        exact nxt (fun h => e3 h.1)
theorem hs1a (hR : Re c a u v) {j s : Nat} (hs : s ≤ 1) : ∀ m k, k ≤ c 1 → c 1 - k < m → fX1_service_L42 m v (nI j) (nI s) 1 (nI k) = fX1_service_L101 200 v (nI j) (nI s) 1 0 := by
  have hn2 := hR.1.2.1
  have s1 : gf v 2 = nI (c 1) := hR.1.2.2.2.2.2.2.1
  intro m
  induction m with
  | zero => intro k _ h; omega
  | succ m ih =>
    intro k hk hm
    show fX1_service_L42_b (fX1_service_L42 m) v (nI j) (nI s) 1 (nI k) = _
    unfold fX1_service_L42_b
    rw [s1]
    by_cases e : k = c 1
    · rw [if_pos (by rw [e]; exact Int32.le_refl _)]
    · rw [if_neg (nI_ge (show k < c 1 by omega) (by omega)), if_neg (nI_pos (show s < 2 ^ 31 by omega)), if_neg (show ¬ (2 : Int32) ≤ nI s from nI_ge (a := s) (b := 2) (by omega) (by omega)), if_neg i10, ql_s, nI_s]
      exact ih (k + 1) (by omega) (by omega)
theorem hs1 (hR : Re c a u v) {j s : Nat} (hj : j < 120) (hs : s ≤ 1) : ∀ m k, k ≤ c 1 → c 1 - k < m → ((∃ i, k ≤ i ∧ i < c 1 ∧ a 6 i = j ∧ a 7 i = s) ∧ fX1_service_L42 m v (nI j) (nI s) 0 (nI k) = fX1_service_L101 200 v (nI j) (nI s) 1 0) ∨ (¬ (∃ i, k ≤ i ∧ i < c 1 ∧ a 6 i = j ∧ a 7 i = s) ∧ fX1_service_L42 m v (nI j) (nI s) 0 (nI k) = fX1_service_L101 200 v (nI j) (nI s) 0 0) := by
  have hn := hR.1.1
  have hn2 := hR.1.2.1
  have s1 : gf v 2 = nI (c 1) := hR.1.2.2.2.2.2.2.1
  intro m
  induction m with
  | zero => intro k _ h; omega
  | succ m ih =>
    intro k hk hm
    show ((∃ i, k ≤ i ∧ i < c 1 ∧ a 6 i = j ∧ a 7 i = s) ∧ fX1_service_L42_b (fX1_service_L42 m) v (nI j) (nI s) 0 (nI k) = _) ∨ (¬ (∃ i, k ≤ i ∧ i < c 1 ∧ a 6 i = j ∧ a 7 i = s) ∧ fX1_service_L42_b (fX1_service_L42 m) v (nI j) (nI s) 0 (nI k) = _)
    unfold fX1_service_L42_b
    rw [s1]
    by_cases e : k = c 1
    · rw [if_pos (by rw [e]; exact Int32.le_refl _)]
      exact Or.inr ⟨fun ⟨i, h1, h2, _⟩ => by omega, rfl⟩
    · obtain ⟨⟨-, e1, b1⟩, ⟨-, e2, b2⟩, -⟩ := hR.2.2.2.1 k (by omega)
      have ix := ix_ok (show k < 100 by omega) (by omega)
      have hk1 := hs1a (j := j) hR hs m (k + 1) (by omega) (by omega)
      have z0 : (0 : Int32) = 0 := rfl
      rw [if_neg (nI_ge (show k < c 1 by omega) (by omega)), if_neg (nI_pos (show s < 2 ^ 31 by omega)), if_neg (show ¬ (2 : Int32) ≤ nI s from nI_ge (a := s) (b := 2) (by omega) (by omega)), if_pos z0, if_neg ix, cl_n (show k < 14500 by omega), e1, e2]
      have nxt : (¬ (a 6 k = j ∧ a 7 k = s)) → ((∃ i, k ≤ i ∧ i < c 1 ∧ a 6 i = j ∧ a 7 i = s) ∧ fX1_service_L42 m v (nI j) (nI s) 0 (nI (k + 1)) = fX1_service_L101 200 v (nI j) (nI s) 1 0) ∨ (¬ (∃ i, k ≤ i ∧ i < c 1 ∧ a 6 i = j ∧ a 7 i = s) ∧ fX1_service_L42 m v (nI j) (nI s) 0 (nI (k + 1)) = fX1_service_L101 200 v (nI j) (nI s) 0 0) := fun hne => by
        rcases ih (k + 1) (by omega) (by omega) with ⟨⟨i, h1, h2, h3⟩, h4⟩ | ⟨h3, h4⟩
        · exact Or.inl ⟨⟨i, by omega, h2, h3⟩, h4⟩
        · refine Or.inr ⟨fun ⟨i, h1, h2, h5⟩ => ?_, h4⟩
          by_cases e9 : i = k
          · rw [e9] at h5; exact hne h5
          · exact h3 ⟨i, by omega, h2, h5⟩
      by_cases e3 : a 6 k = j
      · rw [if_pos (by rw [e3]), if_neg (ix2 (show k < 100 by omega) (by omega))]
        by_cases e4 : a 7 k = s
        · rw [if_pos (by rw [e4]), ql_s, nI_s]
          exact Or.inl ⟨⟨k, Nat.le_refl _, by omega, e3, e4⟩, hk1⟩
        · rw [if_neg (fun hh => e4 ((nI_eq (by omega) (by omega)).mp hh)), ql_s, nI_s]
          exact nxt (fun h => e4 h.2)
      · rw [if_neg (fun hh => e3 ((nI_eq (by omega) (by omega)).mp hh)), ql_s, nI_s]
        exact nxt (fun h => e3 h.1)
theorem nar01 {y : Int32} (hy : y = 0 ∨ y = 1) : ¬ ¬ vp_nar .boolean y = y := by
  rcases hy with rfl | rfl
  · exact fun h => h rfl
  · exact fun h => h rfl
theorem l101_n {x1 x2 y3 : Int32} (hx : ¬ x2 = 3) (hy : y3 = 0 ∨ y3 = 1) : fX1_service_L101 200 v x1 x2 y3 0 = some (y3, v) := by
  show fX1_service_L101_b (fX1_service_L101 199) v x1 x2 y3 0 = _
  unfold fX1_service_L101_b
  by_cases h : gf v 1 ≤ 0
  · rw [if_pos h, if_neg (nar01 hy)]
  · rw [if_neg h, if_neg hx, if_neg (nar01 hy)]
theorem mg0 (hR : Re c a u v) {j : Nat} (hj : j < c 0) : ∀ m k, k ≤ c 0 → c 0 - k < m → ((∃ i, k ≤ i ∧ i < c 0 ∧ gG a j i) ∧ fX0_mayGoOnFrom_L2 m u (nI j) (nI k) = some 1) ∨ (¬ (∃ i, k ≤ i ∧ i < c 0 ∧ gG a j i) ∧ fX0_mayGoOnFrom_L2 m u (nI j) (nI k) = some 0) := by
  have hn := hR.1.1
  have s0 : gf u 0 = nI (c 0) := hR.1.2.2.2.1
  intro m
  induction m with
  | zero => intro k _ h; omega
  | succ m ih =>
    intro k hk hm
    show ((∃ i, k ≤ i ∧ i < c 0 ∧ gG a j i) ∧ fX0_mayGoOnFrom_L2_b (fX0_mayGoOnFrom_L2 m) u (nI j) (nI k) = some 1) ∨ (¬ (∃ i, k ≤ i ∧ i < c 0 ∧ gG a j i) ∧ fX0_mayGoOnFrom_L2_b (fX0_mayGoOnFrom_L2 m) u (nI j) (nI k) = some 0)
    unfold fX0_mayGoOnFrom_L2_b
    rw [s0]
    by_cases e : k = c 0
    · rw [if_pos (by rw [e]; exact Int32.le_refl _)]
      exact Or.inr ⟨fun ⟨i, h1, h2, _⟩ => by omega, rfl⟩
    · rw [if_neg (nI_ge (show k < c 0 by omega) (by omega))]
      rcases may0 hR hj (show k < c 0 by omega) with ⟨hg, hm0⟩ | ⟨hg, hm0⟩
      · rw [hm0, qb_s, if_neg i10]
        exact Or.inl ⟨⟨k, Nat.le_refl _, by omega, hg⟩, rfl⟩
      · rw [hm0, qb_s, if_pos rfl, ql_s, nI_s]
        rcases ih (k + 1) (by omega) (by omega) with ⟨⟨i, h1, h2, h3⟩, h4⟩ | ⟨h3, h4⟩
        · exact Or.inl ⟨⟨i, by omega, h2, h3⟩, h4⟩
        · refine Or.inr ⟨fun ⟨i, h1, h2, h5⟩ => ?_, h4⟩
          by_cases e9 : i = k
          · rw [e9] at h5; exact hg h5
          · exact h3 ⟨i, by omega, h2, h5⟩
theorem mg1a (hR : Re c a u v) {j : Nat} : ∀ m k, k ≤ c 0 → c 0 - k < m → fX1_service_L101 m v (nI j) 3 1 (nI k) = some (1, v) := by
  have hn := hR.1.1
  have s1 : gf v 1 = nI (c 0) := hR.1.2.2.2.2.1
  intro m
  induction m with
  | zero => intro k _ h; omega
  | succ m ih =>
    intro k hk hm
    show fX1_service_L101_b (fX1_service_L101 m) v (nI j) 3 1 (nI k) = _
    unfold fX1_service_L101_b
    rw [s1]
    by_cases e : k = c 0
    · rw [if_pos (by rw [e]; exact Int32.le_refl _), if_neg (nar01 (Or.inr rfl))]
    · rw [if_neg (nI_ge (show k < c 0 by omega) (by omega)), if_pos rfl, if_neg i10, ql_s, nI_s]
      exact ih (k + 1) (by omega) (by omega)
theorem mg1 (hR : Re c a u v) {j : Nat} (hj : j < c 0) : ∀ m k, k ≤ c 0 → c 0 - k < m → ((∃ i, k ≤ i ∧ i < c 0 ∧ gG a j i) ∧ fX1_service_L101 m v (nI j) 3 0 (nI k) = some (1, v)) ∨ (¬ (∃ i, k ≤ i ∧ i < c 0 ∧ gG a j i) ∧ fX1_service_L101 m v (nI j) 3 0 (nI k) = some (0, v)) := by
  have hn := hR.1.1
  have s1 : gf v 1 = nI (c 0) := hR.1.2.2.2.2.1
  intro m
  induction m with
  | zero => intro k _ h; omega
  | succ m ih =>
    intro k hk hm
    show ((∃ i, k ≤ i ∧ i < c 0 ∧ gG a j i) ∧ fX1_service_L101_b (fX1_service_L101 m) v (nI j) 3 0 (nI k) = some (1, v)) ∨ (¬ (∃ i, k ≤ i ∧ i < c 0 ∧ gG a j i) ∧ fX1_service_L101_b (fX1_service_L101 m) v (nI j) 3 0 (nI k) = some (0, v))
    unfold fX1_service_L101_b
    rw [s1]
    by_cases e : k = c 0
    · rw [if_pos (by rw [e]; exact Int32.le_refl _), if_neg (nar01 (Or.inl rfl))]
      exact Or.inr ⟨fun ⟨i, h1, h2, _⟩ => by omega, rfl⟩
    · have z3 : (3 : Int32) = 3 := rfl
      have z0 : (0 : Int32) = 0 := rfl
      rw [if_neg (nI_ge (show k < c 0 by omega) (by omega)), if_pos z3, if_pos z0]
      rcases may1 hR hj (show k < c 0 by omega) with ⟨hg, hm0⟩ | ⟨hg, hm0⟩
      · rw [hm0, qb_s, if_neg i10, ql_s, nI_s]
        exact Or.inl ⟨⟨k, Nat.le_refl _, by omega, hg⟩, mg1a hR m (k + 1) (by omega) (by omega)⟩
      · rw [hm0, qb_s, if_pos z0, ql_s, nI_s]
        rcases ih (k + 1) (by omega) (by omega) with ⟨⟨i, h1, h2, h3⟩, h4⟩ | ⟨h3, h4⟩
        · exact Or.inl ⟨⟨i, by omega, h2, h3⟩, h4⟩
        · refine Or.inr ⟨fun ⟨i, h1, h2, h5⟩ => ?_, h4⟩
          by_cases e9 : i = k
          · rw [e9] at h5; exact hg h5
          · exact h3 ⟨i, by omega, h2, h5⟩
theorem service_all (hR : Re c a u v) (x1 x2 : Int32) : ∃ r v', fX0_service u x1 x2 = some r ∧ fX1_service v x1 x2 = some (r, v') ∧ Rel u v' := by
  have hn := hR.1.1
  have hn2 := hR.1.2.1
  have hR1 : Re c a u (sf v 0 0) := hR.th 0
  have hRl : Rel u (sf v 0 0) := ⟨c, a, hR1⟩
  have g0 : gf u 0 = nI (c 0) := hR.1.2.2.2.1
  have g1 : gf (sf v 0 (0 : Int32)) 1 = nI (c 0) := hR.1.2.2.2.2.1
  have z0 : (0 : Int32) = 0 := rfl
  rcases in_cases x1 hn with h | ⟨j, hj, rfl⟩
  · refine ⟨0, sf v 0 0, ?_, ?_, hRl⟩
    · unfold fX0_service; rw [isP0_out g0 h, qb_s, if_pos z0]
    · unfold fX1_service; rw [ql_s, isP1_out g1 h, qb_s, if_pos z0]
  · have p0 := isP0_in g0 hn hj
    have p1 := isP1_in g1 hn hj
    have hj2 : j < 120 := by omega
    have sd : ∀ s, s ≤ 1 → ∃ r, (r = 0 ∨ r = 1) ∧ fX0_hasStopAtSide u (nI j) (nI s) = some r ∧ fX1_service_L42 200 (sf v 0 0) (nI j) (nI s) 0 0 = some (r, sf v 0 0) := fun s hs => by
      have hs3 : ¬ nI s = (3 : Int32) := fun hh => by have := (nI_eq (a := s) (b := 3) (by omega) (by omega)).mp hh; omega
      rcases hs0 hR hj2 hs 200 0 (by omega) (by omega) with ⟨h1, h2⟩ | ⟨h1, h2⟩
      · rcases hs1 hR1 hj2 hs 200 0 (by omega) (by omega) with ⟨h3, h4⟩ | ⟨h3, h4⟩
        · exact ⟨1, Or.inr rfl, h2, h4.trans (l101_n hs3 (Or.inr rfl))⟩
        · exact absurd h1 h3
      · rcases hs1 hR1 hj2 hs 200 0 (by omega) (by omega) with ⟨h3, h4⟩ | ⟨h3, h4⟩
        · exact absurd h3 h1
        · exact ⟨0, Or.inl rfl, h2, h4.trans (l101_n hs3 (Or.inl rfl))⟩
    by_cases q0 : x2 = 0
    · subst q0
      obtain ⟨r, hr, h1, h2⟩ := sd 0 (by omega)
      have h1 : fX0_hasStopAtSide u (nI j) 0 = some r := h1
      have h2 : fX1_service_L42 200 (sf v 0 0) (nI j) 0 0 0 = some (r, sf v 0 0) := h2
      refine ⟨r, sf v 0 0, ?_, ?_, hRl⟩
      · unfold fX0_service; rw [p0, qb_s, if_neg i10, if_pos z0, h1, qb_s, if_neg (nar01 hr)]
      · unfold fX1_service; rw [ql_s, p1, qb_s, if_neg i10, if_neg (by decide), h2]
    · by_cases q1 : x2 = 1
      · subst q1
        obtain ⟨r, hr, h1, h2⟩ := sd 1 (by omega)
        have h1 : fX0_hasStopAtSide u (nI j) 1 = some r := h1
        have h2 : fX1_service_L42 200 (sf v 0 0) (nI j) 1 0 0 = some (r, sf v 0 0) := h2
        refine ⟨r, sf v 0 0, ?_, ?_, hRl⟩
        · unfold fX0_service; rw [p0, qb_s, if_neg i10, if_neg i10, if_pos rfl, h1, qb_s, if_neg (nar01 hr)]
        · unfold fX1_service; rw [ql_s, p1, qb_s, if_neg i10, if_neg (by decide), h2]
      · by_cases q2 : x2 = 2
        · have ix := ix_ok hj2 (by omega)
          have cl := cl_n (show j < 14500 by omega)
          obtain ⟨-, -, e1, e2, hg⟩ := hR.2.2.1 j hj2
          have e2 : gl (sf v 0 (0 : Int32)) 3 j = lN (a 5 j) := e2
          have hg : a 4 j = 0 ∧ a 5 j = 0 ∨ a 4 j < a 5 j ∧ a 5 j ≤ 86400 := hg
          have k1 : fX0_service u (nI j) x2 = q_b (fX0_hasGate u (nI j)) fun r14 => if ¬ vp_nar .boolean r14 = r14 then none else some r14 := by
            unfold fX0_service; rw [p0, qb_s, if_neg i10, if_neg q0, if_neg q1, if_pos q2]
          by_cases q3 : a 5 j = 0
          · refine ⟨0, sf v 0 0, ?_, ?_, hRl⟩
            · rw [k1]; unfold fX0_hasGate; rw [if_neg ix, cl, e1, q3, if_pos (show lN 0 = (0 : Int64) from rfl), qb_s, if_neg (nar01 (Or.inl rfl))]
            · unfold fX1_service; rw [ql_s, p1, qb_s, if_neg i10, if_pos q2, if_neg ix, cl, e2, q3, if_pos (show lN 0 ≤ (0 : Int64) by decide)]
          · refine ⟨1, sf v 0 0, ?_, ?_, hRl⟩
            · rw [k1]; unfold fX0_hasGate; rw [if_neg ix, cl, e1, if_neg (show ¬ lN (a 5 j) = (0 : Int64) from fun hh => q3 ((pk_lEQ (a := a 5 j) (b := 0) (by omega) (by omega)).mp hh)), qb_s, if_neg (nar01 (Or.inr rfl))]
            · unfold fX1_service; rw [ql_s, p1, qb_s, if_neg i10, if_pos q2, if_neg ix, cl, e2, if_neg (show ¬ lN (a 5 j) ≤ (0 : Int64) from fun hh => q3 (by have := (pk_lLE (a := a 5 j) (b := 0) (by omega) (by omega)).mp hh; omega))]
        · have k0 : x2 < 0 ∨ (2 : Int32) ≤ x2 := by
            by_cases h : x2 < 0
            · exact Or.inl h
            · refine Or.inr (Int32.le_iff_toInt_le.mpr ?_)
              have h1 : ¬ x2.toInt < (0 : Int) := fun hh => h (Int32.lt_iff_toInt_lt.mpr hh)
              have h2 : ¬ x2.toInt = (0 : Int) := fun hh => q0 (Int32.toInt_inj.mp hh)
              have h3 : ¬ x2.toInt = (1 : Int) := fun hh => q1 (Int32.toInt_inj.mp hh)
              show (2 : Int) ≤ x2.toInt
              omega
          have k2 : fX1_service v (nI j) x2 = fX1_service_L101 200 (sf v 0 0) (nI j) x2 0 0 := by
            unfold fX1_service; rw [ql_s, p1, qb_s, if_neg i10, if_neg q2]
            show fX1_service_L42_b (fX1_service_L42 199) (sf v 0 0) (nI j) x2 0 0 = _
            unfold fX1_service_L42_b
            by_cases h : gf (sf v 0 (0 : Int32)) 2 ≤ 0
            · rw [if_pos h]
            · rw [if_neg h]
              by_cases h2 : x2 < 0
              · rw [if_pos h2]
              · rw [if_neg h2, if_pos (k0.resolve_left h2)]
          by_cases q3 : x2 = 3
          · have k1 : fX0_service u (nI j) x2 = q_b (fX0_mayGoOnFrom_L2 200 u (nI j) (nI 0)) fun r14 => if ¬ vp_nar .boolean r14 = r14 then none else some r14 := by
              unfold fX0_service; rw [p0, qb_s, if_neg i10, if_neg q0, if_neg q1, if_neg q2, if_pos q3]; rfl
            rcases mg0 hR hj 200 0 (by omega) (by omega) with ⟨h1, h2⟩ | ⟨h1, h2⟩
            · rcases mg1 hR1 hj 200 0 (by omega) (by omega) with ⟨h3, h4⟩ | ⟨h3, h4⟩
              · exact ⟨1, sf v 0 0, by rw [k1, h2, qb_s, if_neg (nar01 (Or.inr rfl))], by rw [k2, q3]; exact h4, hRl⟩
              · exact absurd h1 h3
            · rcases mg1 hR1 hj 200 0 (by omega) (by omega) with ⟨h3, h4⟩ | ⟨h3, h4⟩
              · exact absurd h3 h1
              · exact ⟨0, sf v 0 0, by rw [k1, h2, qb_s, if_neg (nar01 (Or.inl rfl))], by rw [k2, q3]; exact h4, hRl⟩
          · refine ⟨0, sf v 0 0, ?_, ?_, hRl⟩
            · unfold fX0_service; rw [p0, qb_s, if_neg i10, if_neg q0, if_neg q1, if_neg q2, if_neg q3]
            · rw [k2]; exact l101_n q3 (Or.inl rfl)
end P4
