/-! The pure side: the class's way. Own rows. -/
theorem pb0 {c : Nat → Nat} {a : Nat → Nat → Nat} {u v : gS} {E D : Nat → Nat} (hR : Re c a u v) (hH : HE (c 0) E D u) {p : Nat} (hp : p < c 0) : ∀ (m j : Nat), j ≤ c 0 → c 0 - j < m → (∀ q, q < j → ¬ (gG a q p ∧ gEn a p (D q) = E p)) →
    (∃ q, fX0_pieceBefore_L2 m u (nI p) (nI j) = some (nI q) ∧ q < c 0 ∧ (gG a q p ∧ gEn a p (D q) = E p) ∧ ∀ q', q' < q → ¬ (gG a q' p ∧ gEn a p (D q') = E p)) ∨ (fX0_pieceBefore_L2 m u (nI p) (nI j) = some (-1) ∧ ∀ q, q < c 0 → ¬ (gG a q p ∧ gEn a p (D q) = E p)) := by
  have hI : INF = 4000000000000000000 := rfl
  intro m
  induction m with
  | zero => intro j _ h; omega
  | succ m ih =>
    intro j hj hm hq
    have hn := hR.1.1
    have hg := hR.1.2.2.2.1
    show (∃ q, fX0_pieceBefore_L2_b (fX0_pieceBefore_L2 m) u (nI p) (nI j) = some (nI q) ∧ _) ∨ (fX0_pieceBefore_L2_b (fX0_pieceBefore_L2 m) u (nI p) (nI j) = some (-1) ∧ _)
    unfold fX0_pieceBefore_L2_b
    rw [hg]
    by_cases e : j = c 0
    · rw [if_pos (by rw [e]; exact Int32.le_refl _)]
      exact Or.inr ⟨rfl, fun q h => hq q (by omega)⟩
    · have hj0 : j < c 0 := by omega
      obtain ⟨x6, -, x8, -⟩ := hH p hp
      obtain ⟨-, y7, -, y8⟩ := hH j hj0
      rw [if_neg (nI_ge hj0 (by omega))]
      have el := gEn_le hR (t := D j) hp
      simp only [cl_n (show j < 14500 by omega), cl_n (show p < 14500 by omega), if_neg (ix2 (show j < 120 by omega) (by omega)), if_neg (ix2 (show p < 120 by omega) (by omega)), ql_s, nI_s, x6, y7]
      rcases may0 hR hj0 hp with ⟨hgo, hm0⟩ | ⟨hgo, hm0⟩
      · rw [hm0, qb_s, if_neg i10, ent0 hR hp (show D j < 2 ^ 62 by omega), qb_s]
        by_cases he : gEn a p (D j) = E p
        · rw [if_pos (by rw [he])]
          exact Or.inl ⟨j, rfl, hj0, ⟨hgo, he⟩, hq⟩
        · rw [if_neg (fun hh => he ((pk_lEQ (by omega) (by omega)).mp hh))]
          exact ih (j + 1) (by omega) (by omega) (lt_s (p := fun q => ¬ (gG a q p ∧ gEn a p (D q) = E p)) hq (fun h => he h.2))
      · rw [hm0, qb_s, if_pos rfl]
        exact ih (j + 1) (by omega) (by omega) (lt_s (p := fun q => ¬ (gG a q p ∧ gEn a p (D q) = E p)) hq (fun h => hgo h.1))
/-- the way back from p by the least piece before, till the first piece -/
def pre9 (go : Nat → Nat → Prop) (en : Nat → Nat → Nat) (E D : Nat → Nat) (q p : Nat) : Prop := (go q p ∧ en p (D q) = E p) ∧ ∀ q', q' < q → ¬ (go q' p ∧ en p (D q') = E p)
