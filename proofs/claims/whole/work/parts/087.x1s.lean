/-! The pure side: the reference's search. Own rows. -/
def Fr1 (v w : gS) : Prop := (∀ k, gi w k = gi v k) ∧ (∀ k, k ≠ 5 → k ≠ 6 → gl w k = gl v k) ∧ ∀ k, gf w k = gf v k
theorem Fr1.rf (u : gS) : Fr1 u u := ⟨fun _ => rfl, fun _ _ _ => rfl, fun _ => rfl⟩
theorem Fr1.tr {u w z : gS} (h : Fr1 u w) (h2 : Fr1 w z) : Fr1 u z := ⟨fun k => (h2.1 k).trans (h.1 k), fun k a b => (h2.2.1 k a b).trans (h.2.1 k a b), fun k => (h2.2.2 k).trans (h.2.2 k)⟩
theorem Fr1.l5 (u : gS) (f : Nat → Int64) : Fr1 u (sl u 5 f) := ⟨fun _ => rfl, fun k hk _ => by rw [gl_sl, if_neg hk], fun _ => rfl⟩
theorem Fr1.l6 (u : gS) (f : Nat → Int64) : Fr1 u (sl u 6 f) := ⟨fun _ => rfl, fun k _ hk => by rw [gl_sl, if_neg hk], fun _ => rfl⟩
theorem Re.fr1 {c : Nat → Nat} {a : Nat → Nat → Nat} {u v w : gS} (h : Re c a u v) (hf : Fr1 v w) : Re c a u w := by
  unfold Re R1 R2 R3 R4 R5 R6 at *
  simp only [hf.1, hf.2.1 0 (by omega) (by omega), hf.2.1 1 (by omega) (by omega), hf.2.1 2 (by omega) (by omega), hf.2.1 3 (by omega) (by omega), hf.2.1 4 (by omega) (by omega), hf.2.2]
  exact h
theorem Re.th {c : Nat → Nat} {a : Nat → Nat → Nat} {u v : gS} (h : Re c a u v) (x : Int32) : Re c a u (sf v 0 x) := h
theorem r3_1 {k9 : Nat} {y1 : Int32} {y2 : Int64} : ∀ (m j : Nat) (v : gS), j ≤ 120 → 120 - j < m → (∀ p, p < j → gl v 5 p = lN INF ∧ gl v 6 p = lN INF) →
    ∃ w z, fX1_reach_L3 k9 m v y1 y2 (nI j) = some (w, y1, y2, z) ∧ Fr1 v w ∧ ∀ p, p < 120 → gl w 5 p = lN INF ∧ gl w 6 p = lN INF := by
  intro m
  induction m with
  | zero => intro j v _ h; omega
  | succ m ih =>
    intro j v hj hm hp
    show ∃ w z, fX1_reach_L3_b k9 (fX1_reach_L3 k9 m) v y1 y2 (nI j) = some (w, y1, y2, z) ∧ _
    unfold fX1_reach_L3_b
    by_cases e : j = 120
    · rw [if_pos (show (120 : Int32) ≤ nI j by rw [e]; exact Int32.le_refl _)]
      exact ⟨v, _, rfl, Fr1.rf v, fun p h => hp p (by omega)⟩
    · rw [if_neg (show ¬ (120 : Int32) ≤ nI j from nI_ge (a := j) (b := 120) (by omega) (by omega))]
      simp only [cl_n (show j < 14500 by omega), if_neg (ix2 (show j < 120 by omega) (by omega)), ql_s, nI_s]
      have f1 : Fr1 v (sl (sl v 5 (vp_updL (gl v 5) j (4000000000000000000 : Int64))) 6 (vp_updL (gl (sl v 5 (vp_updL (gl v 5) j (4000000000000000000 : Int64))) 6) j (4000000000000000000 : Int64))) := (Fr1.l5 _ _).tr (Fr1.l6 _ _)
      obtain ⟨w, z, h1, h2, h3⟩ := ih (j + 1) (sl (sl v 5 (vp_updL (gl v 5) j (4000000000000000000 : Int64))) 6 (vp_updL (gl (sl v 5 (vp_updL (gl v 5) j (4000000000000000000 : Int64))) 6) j (4000000000000000000 : Int64))) (by omega) (by omega) (fun p hp1 => by
        show vp_updL (gl v 5) j (4000000000000000000 : Int64) p = lN INF ∧ vp_updL (gl v 6) j (4000000000000000000 : Int64) p = lN INF
        rw [upL_v, upL_v]
        by_cases e2 : p = j
        · rw [if_pos e2, if_pos e2]; exact ⟨rfl, rfl⟩
        · rw [if_neg e2, if_neg e2]; exact hp p (by omega))
      exact ⟨w, z, h1, f1.tr h2, h3⟩
def HE1 (n : Nat) (E D : Nat → Nat) (v : gS) : Prop := ∀ p, p < n → gl v 5 p = lN (E p) ∧ gl v 6 p = lN (D p) ∧ E p ≤ INF ∧ D p ≤ INF
theorem secL1 {c : Nat → Nat} {a : Nat → Nat → Nat} {u v : gS} (hR : Re c a u v) {p : Nat} (hp : p < c 0) : fX1_seconds v (nI p) (gl v 0 p) = some (lN (gLe a p)) := by
  obtain ⟨-, -, ⟨-, e, -, h1⟩, -⟩ := hR.2.1 p hp
  rw [e]; exact sec1 hR hp h1
section S1
variable {c : Nat → Nat} {a : Nat → Nat → Nat} {u : gS} {fi fd : Nat} {k9 : Nat}
theorem r79 (hfi : fi < c 0) (hfd : fd < INF) {k : Nat} (hk : k < c 0) : ∀ (m j : Nat) (v : gS) (E D : Nat → Nat) (y4 : Int32), Re c a u v → HE1 (c 0) E D v → BI (c 0) (gG a) (gEn a) (gLe a) fi fd E D → j ≤ c 0 → c 0 - j < m →
    ∃ w y z, fX1_reach_L79 k9 m v y4 (nI k) (nI j) = some (w, y, nI k, z) ∧ Fr1 v w ∧ ((y = y4 ∧ HE1 (c 0) E D w ∧ ∀ p, j ≤ p → p < c 0 → gG a k p → D k < INF → E p ≤ gEn a p (D k)) ∨ ∃ E' D', y = 1 ∧ HE1 (c 0) E' D' w ∧ BI (c 0) (gG a) (gEn a) (gLe a) fi fd E' D' ∧ sumE E' (c 0) < sumE E (c 0)) := by
  have hI : INF = 4000000000000000000 := rfl
  intro m
  induction m with
  | zero => intro j v E D y4 _ _ _ _ h; omega
  | succ m ih =>
    intro j v E D y4 hR hH hB hj hm
    have hn := hR.1.1
    have hg := hR.1.2.2.2.2.1
    show ∃ w y z, fX1_reach_L79_b k9 (fX1_reach_L79 k9 m) v y4 (nI k) (nI j) = some (w, y, nI k, z) ∧ _
    unfold fX1_reach_L79_b
    rw [hg]
    by_cases e : j = c 0
    · rw [if_pos (by rw [e]; exact Int32.le_refl _)]
      exact ⟨v, y4, _, rfl, Fr1.rf v, Or.inl ⟨rfl, hH, fun p h1 h2 => absurd h2 (by omega)⟩⟩
    · have hj0 : j < c 0 := by omega
      obtain ⟨-, d1, -, d2⟩ := hH k hk
      obtain ⟨x5, x6, x7, x8⟩ := hH j hj0
      rw [if_neg (nI_ge hj0 (by omega))]
      simp only [cl_n (show j < 14500 by omega), cl_n (show k < 14500 by omega), if_neg (ix2 (show j < 120 by omega) (by omega)), if_neg (ix2 (show k < 120 by omega) (by omega)), ql_s, nI_s, d1, x5]
      by_cases hD : INF ≤ D k
      · rw [if_pos (show (4000000000000000000 : Int64) ≤ lN (D k) from (pk_lLE (a := INF) (by omega) (by omega)).mpr hD)]
        exact ⟨v, y4, _, rfl, Fr1.rf v, Or.inl ⟨rfl, hH, fun p _ _ _ h => absurd h (by omega)⟩⟩
      · rw [if_neg (show ¬ (4000000000000000000 : Int64) ≤ lN (D k) from fun hh => hD ((pk_lLE (a := INF) (by omega) (by omega)).mp hh))]
        have el := gEn_le hR (t := D k) hj0
        have ll := gLe_le hR hj0
        rcases may1 hR hk hj0 with ⟨hgo, hm0⟩ | ⟨hgo, hm0⟩
        · rw [hm0, qb_s, if_neg i10, ent1 hR hj0 (show D k < 2 ^ 62 by omega), qb_s]
          by_cases hle : E j ≤ gEn a j (D k)
          · rw [if_pos ((pk_lLE (by omega) (by omega)).mpr hle)]
            obtain ⟨w, y, z, w1, w2, w3⟩ := ih (j + 1) v E D y4 hR hH hB (by omega) (by omega)
            refine ⟨w, y, z, w1, w2, ?_⟩
            rcases w3 with ⟨v1, v2, v3⟩ | w3
            · refine Or.inl ⟨v1, v2, fun p h1 h2 h3 h4 => ?_⟩
              by_cases ep : p = j
              · subst ep; exact hle
              · exact v3 p (by omega) h2 h3 h4
            · exact Or.inr w3
          · rw [if_neg (fun hh => hle ((pk_lLE (by omega) (by omega)).mp hh))]
            have f1 : Fr1 v (sl v 5 (vp_updL (gl v 5) j (lN (gEn a j (D k))))) := Fr1.l5 _ _
            rw [secL1 (hR.fr1 f1) hj0, qb_s, lN_add]
            have ev : gl (sl v 5 (vp_updL (gl v 5) j (lN (gEn a j (D k))))) 6 j = lN (D j) := x6
            rw [ev]
            have cont : ∀ z0 : gS, Fr1 v z0 → (∀ p, gl z0 5 p = (if p = j then lN (gEn a j (D k)) else gl v 5 p)) → (∀ p, gl z0 6 p = (if p = j then lN (min (D j) (gEn a j (D k) + gLe a j)) else gl v 6 p)) → ∃ w y z, fX1_reach_L79 k9 m z0 (1 : Int32) (nI k) (nI (j + 1)) = some (w, y, nI k, z) ∧ Fr1 v w ∧ ((y = y4 ∧ HE1 (c 0) E D w ∧ ∀ p, j ≤ p → p < c 0 → gG a k p → D k < INF → E p ≤ gEn a p (D k)) ∨ ∃ E' D', y = 1 ∧ HE1 (c 0) E' D' w ∧ BI (c 0) (gG a) (gEn a) (gLe a) fi fd E' D' ∧ sumE E' (c 0) < sumE E (c 0)) := fun z0 g1 g5 g6 => by
              have hB2 : BI (c 0) (gG a) (gEn a) (gLe a) fi fd (fun p => if p = j then gEn a j (D k) else E p) (fun p => if p = j then min (D j) (gEn a j (D k) + gLe a j) else D p) := BI_step (Re_GH hR) hB hfd hfi hk hj0 (by omega) hgo (by omega) (fun _ => rfl) (fun _ => rfl)
              have hH2 : HE1 (c 0) (fun p => if p = j then gEn a j (D k) else E p) (fun p => if p = j then min (D j) (gEn a j (D k) + gLe a j) else D p) z0 := fun p hp => by
                obtain ⟨t5, t6, t7, t8⟩ := hH p hp
                rw [g5, g6]
                by_cases ep : p = j
                · simp only [if_pos ep]; exact ⟨trivial, trivial, by omega, by omega⟩
                · simp only [if_neg ep]; exact ⟨t5, t6, t7, t8⟩
              have hs : sumE (fun p => if p = j then gEn a j (D k) else E p) (c 0) < sumE E (c 0) := sumE_lt _ (fun p hp => by
                by_cases ep : p = j
                · simp only [if_pos ep]; subst ep; omega
                · simp only [if_neg ep]; exact Nat.le_refl _) ⟨j, hj0, by simp only [if_pos]; omega⟩
              obtain ⟨w, y, z, w1, w2, w3⟩ := ih (j + 1) z0 _ _ 1 (hR.fr1 g1) hH2 hB2 (by omega) (by omega)
              refine ⟨w, y, z, w1, g1.tr w2, Or.inr ?_⟩
              rcases w3 with ⟨v1, v2, v3⟩ | ⟨E', D', v1, v2, v3, v4⟩
              · exact ⟨_, _, v1, v2, hB2, hs⟩
              · exact ⟨E', D', v1, v2, v3, by omega⟩
            by_cases hmn : D j ≤ gEn a j (D k) + gLe a j
            · rw [if_pos ((pk_lLE (by omega) (by omega)).mpr hmn)]
              refine cont _ (f1.tr (Fr1.l6 _ _)) (fun p => rfl) (fun p => ?_)
              rw [Nat.min_eq_left hmn]
              rfl
            · rw [if_neg (fun hh => hmn ((pk_lLE (by omega) (by omega)).mp hh))]
              refine cont _ (f1.tr (Fr1.l6 _ _)) (fun p => rfl) (fun p => ?_)
              rw [Nat.min_eq_right (by omega)]
              rfl
        · rw [hm0, qb_s, if_pos rfl, if_pos (show lN (E j) ≤ (4000000000000000000 : Int64) from (pk_lLE (b := INF) (by omega) (by omega)).mpr x7)]
          obtain ⟨w, y, z, w1, w2, w3⟩ := ih (j + 1) v E D y4 hR hH hB (by omega) (by omega)
          refine ⟨w, y, z, w1, w2, ?_⟩
          rcases w3 with ⟨v1, v2, v3⟩ | w3
          · refine Or.inl ⟨v1, v2, fun p h1 h2 h3 h4 => ?_⟩
            by_cases ep : p = j
            · subst ep; exact absurd h3 hgo
            · exact v3 p (by omega) h2 h3 h4
          · exact Or.inr w3
theorem r67 (hfi : fi < c 0) (hfd : fd < INF) : ∀ (m k : Nat) (v : gS) (E D : Nat → Nat) (y4 : Int32), Re c a u v → HE1 (c 0) E D v → BI (c 0) (gG a) (gEn a) (gLe a) fi fd E D → k ≤ c 0 → c 0 - k < m →
    ∃ w y z, fX1_reach_L67 k9 m v y4 (nI k) = some (w, y, z) ∧ Fr1 v w ∧ ((y = y4 ∧ HE1 (c 0) E D w ∧ ∀ q p, k ≤ q → q < c 0 → p < c 0 → gG a q p → D q < INF → E p ≤ gEn a p (D q)) ∨ ∃ E' D', y = 1 ∧ HE1 (c 0) E' D' w ∧ BI (c 0) (gG a) (gEn a) (gLe a) fi fd E' D' ∧ sumE E' (c 0) < sumE E (c 0)) := by
  intro m
  induction m with
  | zero => intro k v E D y4 _ _ _ _ h; omega
  | succ m ih =>
    intro k v E D y4 hR hH hB hk hm
    have hn := hR.1.1
    have hg := hR.1.2.2.2.2.1
    show ∃ w y z, fX1_reach_L67_b k9 (fX1_reach_L67 k9 m) v y4 (nI k) = some (w, y, z) ∧ _
    unfold fX1_reach_L67_b
    rw [hg]
    by_cases e : k = c 0
    · rw [if_pos (by rw [e]; exact Int32.le_refl _)]
      exact ⟨v, y4, _, rfl, Fr1.rf v, Or.inl ⟨rfl, hH, fun q p h1 h2 => absurd h2 (by omega)⟩⟩
    · have hk0 : k < c 0 := by omega
      rw [if_neg (nI_ge hk0 (by omega))]
      obtain ⟨w, y, z, w1, w2, w3⟩ := r79 (k9 := k9) hfi hfd hk0 200 0 v E D y4 hR hH hB (Nat.zero_le _) (by omega)
      have w1 : fX1_reach_L79 k9 200 v y4 (nI k) (0 : Int32) = some (w, y, nI k, z) := w1
      rw [w1, qb4_s, ql_s, nI_s]
      rcases w3 with ⟨v1, v2, v3⟩ | ⟨E', D', v1, v2, v3, v4⟩
      · obtain ⟨w', y', z', p1, p2, p3⟩ := ih (k + 1) w E D y (hR.fr1 w2) v2 hB (by omega) (by omega)
        refine ⟨w', y', z', p1, w2.tr p2, ?_⟩
        rcases p3 with ⟨o1, o2, o3⟩ | p3
        · refine Or.inl ⟨o1.trans v1, o2, fun q p h1 h2 h3 h4 h5 => ?_⟩
          by_cases eq : q = k
          · subst eq; exact v3 p (Nat.zero_le _) h3 h4 h5
          · exact o3 q p (by omega) h2 h3 h4 h5
        · exact Or.inr p3
      · obtain ⟨w', y', z', p1, p2, p3⟩ := ih (k + 1) w E' D' y (hR.fr1 w2) v2 v3 (by omega) (by omega)
        refine ⟨w', y', z', p1, w2.tr p2, Or.inr ?_⟩
        rcases p3 with ⟨o1, o2, o3⟩ | ⟨E2, D2, o1, o2, o3, o4⟩
        · exact ⟨E', D', o1.trans v1, o2, v3, v4⟩
        · exact ⟨E2, D2, o1, o2, o3, by omega⟩
theorem r56 (hfi : fi < c 0) (hfd : fd < INF) : ∀ (m : Nat) (v : gS) (E D : Nat → Nat), Re c a u v → HE1 (c 0) E D v → BI (c 0) (gG a) (gEn a) (gLe a) fi fd E D → sumE E (c 0) + 2 ≤ m →
    ∃ w z E' D', fX1_reach_L56 k9 m v (1 : Int32) = some (w, z) ∧ Fr1 v w ∧ HE1 (c 0) E' D' w ∧ BI (c 0) (gG a) (gEn a) (gLe a) fi fd E' D' ∧ ∀ q p, q < c 0 → p < c 0 → gG a q p → D' q < INF → E' p ≤ gEn a p (D' q) := by
  intro m
  induction m with
  | zero => intro v E D _ _ _ h; omega
  | succ m ih =>
    intro v E D hR hH hB hm
    have hn := hR.1.1
    show ∃ w z E' D', fX1_reach_L56_b k9 (fX1_reach_L56 k9 m) v (1 : Int32) = some (w, z) ∧ _
    unfold fX1_reach_L56_b
    rw [if_neg i10]
    obtain ⟨w, y, z, w1, w2, w3⟩ := r67 (k9 := k9) hfi hfd 200 0 v E D 0 hR hH hB (Nat.zero_le _) (by omega)
    have w1 : fX1_reach_L67 k9 200 v (0 : Int32) (0 : Int32) = some (w, y, z) := w1
    rw [w1, qb3_s]
    rcases w3 with ⟨v1, v2, v3⟩ | ⟨E', D', v1, v2, v3, v4⟩
    · obtain ⟨m', rfl⟩ : ∃ m', m = m' + 1 := ⟨m - 1, by omega⟩
      refine ⟨w, 0, E, D, ?_, w2, v2, hB, fun q p h1 h2 h3 h4 => v3 q p (Nat.zero_le _) h1 h2 h3 h4⟩
      rw [v1]
      show fX1_reach_L56_b k9 (fX1_reach_L56 k9 m') w 0 = some (w, 0)
      unfold fX1_reach_L56_b
      rw [if_pos rfl]
    · rw [v1]
      obtain ⟨w', z', E2, D2, p1, p2, p3⟩ := ih w E' D' (hR.fr1 w2) v2 v3 (by omega)
      exact ⟨w', z', E2, D2, p1, w2.tr p2, p3⟩
end S1
