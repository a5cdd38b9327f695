/-! The pure side: the reference's way. Own rows. -/
abbrev K9 : Nat := 120 * INF + 2
theorem E_bd {n : Nat} {go : Nat → Nat → Prop} {en : Nat → Nat → Nat} {le : Nat → Nat} {fi fd : Nat} {E D : Nat → Nat} (hG : GH n en le) (he : ∀ p t, p < n → en p t ≤ t + 172800) (hl : ∀ p, p < n → le p ≤ 200000) (hb : SolB n go en E D) (hc : SolC n le fi fd E D) : ∀ (N p : Nat), p < n → E p < INF → cntL E (E p) n ≤ N → E p ≤ fd + (N + 1) * 400000 := by
  intro N
  induction N with
  | zero =>
    intro p hp hI hN
    obtain ⟨q, hq, hgo, hD, e⟩ := hb p hp hI
    have h1 := he p (D q) hp
    have h2 := hG.1 p (D q) hp
    by_cases hf : q = fi
    · subst hf; rw [hc.2.1] at h1 e; omega
    · have e1 := hc.1 q hq hf
      have h4 := hG.2.2 q hq
      have := cntL_lt E (t := E p) (q := q) (by omega) n hq
      omega
  | succ N ih =>
    intro p hp hI hN
    obtain ⟨q, hq, hgo, hD, e⟩ := hb p hp hI
    have h1 := he p (D q) hp
    have h2 := hG.1 p (D q) hp
    by_cases hf : q = fi
    · subst hf; rw [hc.2.1] at h1 e; omega
    · have e1 := hc.1 q hq hf
      have h4 := hG.2.2 q hq
      have h5 := hl q hq
      have := cntL_lt E (t := E p) (q := q) (by omega) n hq
      have := ih q hq (by omega) (by omega)
      omega
section V1
variable {c : Nat → Nat} {a : Nat → Nat → Nat} {u v : gS}
theorem Re_E (hR : Re c a u v) {f t : Nat} {E D : Nat → Nat} (hf : f < c 1) (ht : t ≤ 1000000000000) (hb : SolB (c 0) (gG a) (gEn a) E D) (hc : SolC (c 0) (gLe a) (a 6 f) (fdN a f t) E D) {p : Nat} (hp : p < c 0) (hI : E p < INF) : E p ≤ 2000000000000 := by
  have hn := hR.1.1
  have h1 := E_bd (Re_GH hR) (fun p t hp => gEn_le hR hp) (fun p hp => gLe_le hR hp) hb hc (c 0) p hp hI (cntL_le _ _ _)
  obtain ⟨⟨-, -, b1⟩, -⟩ := hR.2.2.2.1 f hf
  obtain ⟨-, -, ⟨-, -, -, b5⟩, -, -, b6, -⟩ := hR.2.1 _ b1
  have h2 := crN_le (a 7 f)
  have h3 := secN_le b6 (show a 2 (a 6 f) - a 8 f ≤ 10000 by omega)
  unfold fdN at h1
  have h4 : (c 0 + 1) * 400000 ≤ 121 * 400000 := Nat.mul_le_mul_right _ (by omega)
  omega
theorem cr1 (hR : Re c a u v) {j : Nat} (hj : j < c 1) : fX1_crossing v (nI j) = some (lN (crN (a 7 j))) := by
  have hn := hR.1.2.1
  obtain ⟨-, ⟨-, e1, e2⟩, -⟩ := hR.2.2.2.1 j hj
  unfold fX1_crossing crN
  simp only [cl_n (show j < 14500 by omega), if_neg (ix2 (show j < 100 by omega) (by omega)), e1]
  by_cases h : a 7 j = 1
  · rw [h, if_pos (show nI 1 = (1 : Int32) from rfl), if_pos rfl]; rfl
  · rw [if_neg (show ¬ nI (a 7 j) = (1 : Int32) from fun hh => h ((nI_eq (b := 1) (by omega) (by omega)).mp hh)), if_neg h]; rfl
theorem rs1 (hR : Re c a u v) {f t : Nat} (hf : f < c 1) : fX1_rest v (nI f) (lN t) = some (lN (fdN a f t)) := by
  have hn := hR.1.2.1
  have hn0 := hR.1.1
  obtain ⟨⟨-, e1, b1⟩, -, -, e2, b2⟩ := hR.2.2.2.1 f hf
  obtain ⟨-, -, ⟨-, e5, -, b5⟩, -⟩ := hR.2.1 _ b1
  have hsub : lN (a 2 (a 6 f)) - lN (a 8 f) = lN (a 2 (a 6 f) - a 8 f) := lN_sub b2
  unfold fX1_rest
  rw [cr1 hR hf, qb_s]
  simp only [cl_n (show f < 14500 by omega), if_neg (ix2 (show f < 100 by omega) (by omega)), e1, e2]
  simp only [cl_n (show a 6 f < 14500 by omega), if_neg (ix2 (show a 6 f < 120 by omega) (by omega)), e5, hsub]
  rw [sec1 hR b1 (by omega), qb_s, lN_add, lN_add]
  rfl
theorem rc1 (hR : Re c a u v) {f t : Nat} (hf : f < c 1) (ht : t ≤ 1000000000000) : ∃ w E D, fX1_reach K9 v (nI f) (lN t) = some w ∧ Fr1 v w ∧ HE1 (c 0) E D w ∧ SolB (c 0) (gG a) (gEn a) E D ∧ SolC (c 0) (gLe a) (a 6 f) (fdN a f t) E D ∧ ∀ C, SolA (c 0) (gG a) (gEn a) E D C := by
  have hI : INF = 4000000000000000000 := rfl
  have hn := hR.1.2.1
  have hn0 := hR.1.1
  have hfd := fdN_lt hR hf ht
  obtain ⟨⟨-, e1, b1⟩, -⟩ := hR.2.2.2.1 f hf
  obtain ⟨w, z, h1, h2, h3⟩ := r3_1 (k9 := K9) (y1 := nI f) (y2 := lN t) 200 0 v (by omega) (by omega) (fun p hp => absurd hp (Nat.not_lt_zero p))
  have h1 : fX1_reach_L3 K9 200 v (nI f) (lN t) (0 : Int32) = some (w, nI f, lN t, z) := h1
  have e1w : gi w 3 f = nI (a 6 f) := by rw [h2.1 3]; exact e1
  unfold fX1_reach
  rw [h1, qb4_s, rs1 (hR.fr1 h2) hf, qb_s]
  simp only [cl_n (show f < 14500 by omega), if_neg (ix2 (show f < 100 by omega) (by omega)), e1w]
  simp only [cl_n (show a 6 f < 14500 by omega), if_neg (ix2 (show a 6 f < 120 by omega) (by omega)), ql_s]
  have f1 : Fr1 v (sl w 6 (vp_updL (gl w 6) (a 6 f) (lN (fdN a f t)))) := h2.tr (Fr1.l6 _ _)
  have row : ∀ p, gl (sl w 6 (vp_updL (gl w 6) (a 6 f) (lN (fdN a f t)))) 5 p = gl w 5 p ∧ gl (sl w 6 (vp_updL (gl w 6) (a 6 f) (lN (fdN a f t)))) 6 p = (if p = a 6 f then lN (fdN a f t) else gl w 6 p) := fun p => ⟨rfl, rfl⟩
  generalize (sl w 6 (vp_updL (gl w 6) (a 6 f) (lN (fdN a f t)))) = w1 at f1 row ⊢
  have hH : HE1 (c 0) (fun _ => INF) (fun p => if p = a 6 f then fdN a f t else INF) w1 := fun p hp => by
    obtain ⟨x1, x2⟩ := h3 p (by omega)
    obtain ⟨y1, y2⟩ := row p
    refine ⟨by rw [y1, x1], ?_, Nat.le_refl _, ?_⟩
    · rw [y2, x2]
      show (if p = a 6 f then lN (fdN a f t) else lN INF) = lN (if p = a 6 f then fdN a f t else INF)
      by_cases e : p = a 6 f
      · rw [if_pos e, if_pos e]
      · rw [if_neg e, if_neg e]
    · show (if p = a 6 f then fdN a f t else INF) ≤ INF
      split <;> omega
  have hB : BI (c 0) (gG a) (gEn a) (gLe a) (a 6 f) (fdN a f t) (fun _ => INF) (fun p => if p = a 6 f then fdN a f t else INF) := by
    refine ⟨fun p _ h => absurd h (Nat.lt_irrefl _), fun p _ hf => ?_, if_pos rfl, fun p _ => Nat.le_refl _, fun p _ => Nat.le_of_lt hfd⟩
    show (if p = a 6 f then fdN a f t else INF) = min INF (INF + gLe a p)
    rw [if_neg hf]; omega
  have hsum := sumE_bd (E := fun _ => INF) (b := INF) (c 0) (fun _ _ => Nat.le_refl _)
  have hs2 : c 0 * INF ≤ 120 * INF := Nat.mul_le_mul_right _ hn0
  obtain ⟨w2, z2, E, D, p1, p2, p3, p4, p5⟩ := r56 (k9 := K9) b1 hfd K9 w1 _ _ (hR.fr1 f1) hH hB (by unfold K9; omega)
  obtain ⟨s1, s2, s3⟩ := BI_end p4 p5
  rw [p1, qb2_s]
  exact ⟨w2, E, D, rfl, f1.tr p2, p3, s1, s2, s3⟩
theorem sg1 (hR : Re c a u v) {f g t : Nat} (hf : f < c 1) (hg : g < c 1) : (strt a f g ∧ fX1_straight v (nI f) (nI g) (lN t) = some (lN (t + crN (a 7 f) + secN (a 3 (a 6 f)) (a 8 g - a 8 f) + crN (a 7 g)))) ∨ (¬ strt a f g ∧ fX1_straight v (nI f) (nI g) (lN t) = some (lN INF)) := by
  have hn := hR.1.2.1
  have hn0 := hR.1.1
  obtain ⟨⟨-, e1, b1⟩, -, -, e2, b2⟩ := hR.2.2.2.1 f hf
  obtain ⟨⟨-, e3, b3⟩, -, -, e4, b4⟩ := hR.2.2.2.1 g hg
  obtain ⟨-, -, ⟨-, -, -, b5⟩, -⟩ := hR.2.1 _ b1
  obtain ⟨-, -, ⟨-, -, -, b6⟩, -⟩ := hR.2.1 _ b3
  unfold fX1_straight strt
  simp only [cl_n (show f < 14500 by omega), cl_n (show g < 14500 by omega), if_neg (ix2 (show f < 100 by omega) (by omega)), if_neg (ix2 (show g < 100 by omega) (by omega)), e1, e2, e3, e4]
  by_cases h : a 6 f = a 6 g
  · rw [if_pos (show nI (a 6 f) = nI (a 6 g) by rw [h])]
    by_cases h2 : a 8 g < a 8 f
    · rw [if_pos ((pk_lLT (by omega) (by omega)).mpr h2)]; exact Or.inr ⟨fun hh => by omega, rfl⟩
    · rw [if_neg (fun hh => h2 ((pk_lLT (by omega) (by omega)).mp hh)), if_neg i10, cr1 hR hf, qb_s, lN_sub (by omega), sec1 hR b1 (by omega), qb_s, cr1 hR hg, qb_s, lN_add, lN_add, lN_add]
      exact Or.inl ⟨⟨h, by omega⟩, rfl⟩
  · rw [if_neg (show ¬ nI (a 6 f) = nI (a 6 g) from fun hh => h ((nI_eq (by omega) (by omega)).mp hh))]; exact Or.inr ⟨fun hh => h hh.1, rfl⟩
theorem ar1 (hR : Re c a u v) {E D : Nat → Nat} (hH : HE1 (c 0) E D v) {g : Nat} (hg : g < c 1) : fX1_around v (nI g) = some (lN (if E (a 6 g) = INF then INF else E (a 6 g) + secN (a 3 (a 6 g)) (a 8 g) + crN (a 7 g))) := by
  have hI : INF = 4000000000000000000 := rfl
  have hn := hR.1.2.1
  have hn0 := hR.1.1
  obtain ⟨⟨-, e3, b3⟩, -, -, e4, b4⟩ := hR.2.2.2.1 g hg
  obtain ⟨-, -, ⟨-, -, -, b6⟩, -⟩ := hR.2.1 _ b3
  obtain ⟨x5, -, x7, -⟩ := hH _ b3
  unfold fX1_around
  simp only [cl_n (show g < 14500 by omega), if_neg (ix2 (show g < 100 by omega) (by omega)), e3, e4, ql_s]
  simp only [cl_n (show a 6 g < 14500 by omega), if_neg (ix2 (show a 6 g < 120 by omega) (by omega)), x5]
  by_cases hE : E (a 6 g) = INF
  · rw [if_pos hE, if_pos (by rw [hE]; rfl)]; rfl
  · rw [if_neg hE, if_neg (show ¬ lN (E (a 6 g)) = (4000000000000000000 : Int64) from fun hh => hE ((pk_lEQ (b := INF) (by omega) (by omega)).mp hh)), sec1 hR b3 (by omega), qb_s, cr1 hR hg, qb_s, lN_add, lN_add]
theorem bf1 (hR : Re c a u v) {E D : Nat → Nat} (hH : HE1 (c 0) E D v) {p : Nat} (hp : p < c 0) (hE : E p < INF) : ∀ (m j : Nat) (y2 : Int32), j ≤ c 0 → j < m →
    ((y2 = -1 ∧ ∀ q, j ≤ q → q < c 0 → ¬ (gG a q p ∧ gEn a p (D q) = E p)) ∨ ∃ b, y2 = nI b ∧ b < c 0 ∧ (gG a b p ∧ gEn a p (D b) = E p) ∧ ∀ q, j ≤ q → q < b → ¬ (gG a q p ∧ gEn a p (D q) = E p)) →
    (fX1_before_L9 m v (nI p) y2 (nI j - 1) = some (-1) ∧ ∀ q, q < c 0 → ¬ (gG a q p ∧ gEn a p (D q) = E p)) ∨ ∃ b, fX1_before_L9 m v (nI p) y2 (nI j - 1) = some (nI b) ∧ b < c 0 ∧ pre9 (gG a) (gEn a) E D b p := by
  have hI : INF = 4000000000000000000 := rfl
  intro m
  induction m with
  | zero => intro j y2 _ h; omega
  | succ m ih =>
    intro j y2 hj hm hP
    have hn := hR.1.1
    show (fX1_before_L9_b (fX1_before_L9 m) v (nI p) y2 (nI j - 1) = some (-1) ∧ _) ∨ ∃ b, fX1_before_L9_b (fX1_before_L9 m) v (nI p) y2 (nI j - 1) = some (nI b) ∧ _
    unfold fX1_before_L9_b
    match j, hj, hm, hP with
    | 0, hj, hm, hP =>
      rw [if_pos (show nI 0 - 1 < 0 by decide)]
      rcases hP with ⟨rfl, h⟩ | ⟨b, rfl, h1, h2, h3⟩
      · exact Or.inl ⟨rfl, fun q hq => h q (Nat.zero_le _) hq⟩
      · exact Or.inr ⟨b, rfl, h1, h2, fun q hq => h3 q (Nat.zero_le _) hq⟩
    | j + 1, hj, hm, hP =>
      have hj1 : j ≤ c 0 := by clear hP; omega
      have hj0 : j < c 0 := by clear hP; omega
      have hm1 : j < m := by clear hP; omega
      have hneg : nI j + (-1 : Int32) = nI j - 1 := by rw [Int32.sub_eq_add_neg]
      obtain ⟨x5, -, x7, -⟩ := hH p hp
      obtain ⟨-, y6, -, y8⟩ := hH j hj0
      rw [nI_pred, if_neg (nI_pos (by omega))]
      have el := gEn_le hR (t := D j) hp
      have eg : D j ≤ gEn a p (D j) := entN_ge
      simp only [cl_n (show j < 14500 by omega), cl_n (show p < 14500 by omega), if_neg (ix2 (show j < 120 by omega) (by omega)), if_neg (ix2 (show p < 120 by omega) (by omega)), ql_s, hneg, x5, y6]
      have skip : ¬ (gG a j p ∧ gEn a p (D j) = E p) → (fX1_before_L9 m v (nI p) y2 (nI j - 1) = some (-1) ∧ ∀ q, q < c 0 → ¬ (gG a q p ∧ gEn a p (D q) = E p)) ∨ ∃ b, fX1_before_L9 m v (nI p) y2 (nI j - 1) = some (nI b) ∧ b < c 0 ∧ pre9 (gG a) (gEn a) E D b p := fun hno => by
        refine ih j y2 hj1 hm1 ?_
        rcases hP with ⟨h0, h⟩ | ⟨b, h0, h1, h2, h3⟩
        · refine Or.inl ⟨h0, fun q h1 h2 => ?_⟩
          by_cases eq : q = j
          · rw [eq]; exact hno
          · exact h q (by omega) h2
        · refine Or.inr ⟨b, h0, h1, h2, fun q h4 h5 => ?_⟩
          by_cases eq : q = j
          · rw [eq]; exact hno
          · exact h3 q (by omega) h5
      rcases may1 hR hj0 hp with ⟨hgo, hm0⟩ | ⟨hgo, hm0⟩
      · rw [hm0, qb_s, if_neg i10]
        by_cases hD : INF ≤ D j
        · rw [if_pos (show (4000000000000000000 : Int64) ≤ lN (D j) from (pk_lLE (a := INF) (by omega) (by omega)).mpr hD)]
          exact skip (fun h => by omega)
        · rw [if_neg (show ¬ (4000000000000000000 : Int64) ≤ lN (D j) from fun hh => hD ((pk_lLE (a := INF) (by omega) (by omega)).mp hh)), ent1 hR hp (show D j < 2 ^ 62 by omega), qb_s]
          by_cases he : gEn a p (D j) = E p
          · rw [if_pos (by rw [he])]
            exact ih j (nI j) hj1 hm1 (Or.inr ⟨j, rfl, hj0, ⟨hgo, he⟩, fun q h1 h2 => by omega⟩)
          · rw [if_neg (fun hh => he ((pk_lEQ (by omega) (by omega)).mp hh))]
            exact skip (fun h => he h.2)
      · rw [hm0, qb_s, if_pos rfl]
        exact skip (fun h => hgo h.1)
end V1
