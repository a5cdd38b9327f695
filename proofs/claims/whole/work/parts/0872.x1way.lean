/-! The pure side: the reference's way, whole; both ways are one. Own rows. -/
theorem Re.gh1 {c : Nat → Nat} {a : Nat → Nat → Nat} {u v w : gS} (h : Re c a u v) (hk : Fk v w) {K : Nat} (hK : K ≤ 121) (h3 : gf w 3 = nI K) : Re (cS c K) a (sf (si u 5 (gi w 5)) 3 (nI K)) w := by
  obtain ⟨⟨a1, a2, a3, a4, a5, a6, a7, a8, a9⟩, r2, r3, r4, r5, r6⟩ := h
  refine ⟨⟨a1, a2, hK, a4, ?_, a6, ?_, rfl, h3⟩, ?_, ?_, ?_, fun i _ => rfl, ?_⟩
  · rw [hk.2.2 1 (by omega)]; exact a5
  · rw [hk.2.2 2 (by omega)]; exact a7
  · unfold R2; simp only [hk.1 0 (by omega), hk.1 1 (by omega), hk.2.1]; exact r2
  · unfold R3; simp only [hk.2.1]; exact r3
  · unfold R4; simp only [hk.1 3 (by omega), hk.1 4 (by omega), hk.2.1]; exact r4
  · unfold R6; simp only [hk.1 2 (by omega)]; exact r6
theorem bfc {c : Nat → Nat} {a : Nat → Nat → Nat} {u v : gS} (hR : Re c a u v) {E D : Nat → Nat} (hH : HE1 (c 0) E D v) {p q : Nat} (hp : p < c 0) (hE : E p < INF) (hq : q < c 0) (h : pre9 (gG a) (gEn a) E D q p) : fX1_before v (nI p) = some (nI q) := by
  have hn := hR.1.1
  unfold fX1_before
  rw [ql_s, hR.1.2.2.2.2.1]
  rcases bf1 hR hH hp hE 200 (c 0) (-1) (Nat.le_refl _) (by omega) (Or.inl ⟨rfl, fun q h1 h2 => by omega⟩) with ⟨-, h2⟩ | ⟨b, h1, -, h2⟩
  · exact absurd h.1 (h2 q hq)
  · rw [h1, pre9_uni h h2]
theorem wl1 {n ns f t : Nat} {a : Nat → Nat → Nat} {E D : Nat → Nat} {p K : Nat} {ch : Nat → Nat} {y7 : Int64} {k9 : Nat} (hC : Chn n (gG a) (gEn a) (a 6 f) E D p K ch) (hK : K ≤ 121) (hfi : a 6 f < n) (hf : f < ns) (hDf : D (a 6 f) = fdN a f t) : ∀ (m i : Nat) (c : Nat → Nat) (u v : gS), Re c a u v → c 0 = n → c 1 = ns → c 2 = i → HE1 n E D v → 1 ≤ i → i < K → gi v 5 (i - 1) = nI (ch (i - 1)) → K - i < m →
    ∃ w, fX1_way_L120 k9 m v (nI f) (lN t) y7 (1 : Int32) = some (y7, w) ∧ Fk v w ∧ gf w 3 = nI K ∧ ∀ j, j < K → gi w 5 j = if i ≤ j then nI (ch j) else gi v 5 j := by
  obtain ⟨k1, k2, k3, k4, k5⟩ := id hC
  intro m
  induction m with
  | zero => intro i c u v _ _ _ _ _ _ _ _ h; omega
  | succ m ih =>
    intro i c u v hR hc0 hc1 hc2 hH hi1 hi2 hlast hm
    have hn : n ≤ 120 := by have := hR.1.1; omega
    have hns : ns ≤ 100 := by have := hR.1.2.1; omega
    have hg : gf v 3 = nI i := by have := hR.1.2.2.2.2.2.2.2.2; rw [hc2] at this; exact this
    obtain ⟨i', rfl⟩ : ∃ i', i = i' + 1 := ⟨i - 1, by omega⟩
    have hlast : gi v 5 i' = nI (ch i') := hlast
    obtain ⟨m1, m2, -, m4, m5⟩ := k3 i' (by omega)
    have hbf : fX1_before v (nI (ch i')) = some (nI (ch (i' + 1))) := bfc hR (by rw [hc0]; exact hH) (by rw [hc0]; exact m5) m4 (by rw [hc0]; exact m1) m2
    have e1 : gi v 3 f = nI (a 6 f) := (hR.2.2.2.1 f (by rw [hc1]; exact hf)).1.2.1
    show ∃ w, fX1_way_L120_b k9 (fX1_way_L120 k9 m) v (nI f) (lN t) y7 (1 : Int32) = some (y7, w) ∧ _
    unfold fX1_way_L120_b
    rw [if_neg i10, hg, nI_pred]
    simp only [cl_n (show i' < 14500 by omega), cl_n (show i' + 1 < 14500 by omega), if_neg (ix2 (show i' < 200 by omega) (by omega)), if_neg (ix2 (show i' + 1 < 200 by omega) (by omega)), cl_n (show f < 14500 by omega), if_neg (ix2 (show f < 100 by omega) (by omega)), ql_s, hlast]
    rw [hbf, qb_s]
    have eg : gf (si v 5 (upd (gi v 5) (i' + 1) (nI (ch (i' + 1))))) 3 + (1 : Int32) = nI (i' + 2) := by rw [show gf (si v 5 (upd (gi v 5) (i' + 1) (nI (ch (i' + 1))))) 3 = gf v 3 from rfl, hg]; exact nI_s (i' + 1)
    rw [eg]
    have hFk : Fk v (sf (si v 5 (upd (gi v 5) (i' + 1) (nI (ch (i' + 1))))) 3 (nI (i' + 2))) := ⟨fun k hk => by show (if k = 5 then _ else gi v k) = gi v k; rw [if_neg hk], fun k => rfl, fun k hk => by show (if k = 3 then _ else gf v k) = gf v k; rw [if_neg hk]⟩
    have r5 : ∀ j, gi (sf (si v 5 (upd (gi v 5) (i' + 1) (nI (ch (i' + 1))))) 3 (nI (i' + 2))) 5 j = if j = i' + 1 then nI (ch (i' + 1)) else gi v 5 j := fun j => up_v j
    have r3 : gf (sf (si v 5 (upd (gi v 5) (i' + 1) (nI (ch (i' + 1))))) 3 (nI (i' + 2))) 3 = nI (i' + 2) := rfl
    have hH2 : HE1 n E D (sf (si v 5 (upd (gi v 5) (i' + 1) (nI (ch (i' + 1))))) 3 (nI (i' + 2))) := hH
    have e3 : gi (sf (si v 5 (upd (gi v 5) (i' + 1) (nI (ch (i' + 1))))) 3 (nI (i' + 2))) 3 f = nI (a 6 f) := e1
    generalize (sf (si v 5 (upd (gi v 5) (i' + 1) (nI (ch (i' + 1))))) 3 (nI (i' + 2))) = v1 at hFk r5 r3 hH2 e3 ⊢
    have hR2 := hR.gh1 hFk (K := i' + 2) (by omega) r3
    rw [e3]
    by_cases hl : i' + 2 = K
    · have e2 : ch (i' + 1) = a 6 f := by rw [show i' + 1 = K - 1 by omega]; exact k4
      obtain ⟨m', rfl⟩ : ∃ m', m = m' + 1 := ⟨m - 1, by omega⟩
      have e6 : gl v1 6 (a 6 f) = lN (fdN a f t) := by rw [(hH2 _ hfi).2.1, hDf]
      rw [if_pos (by rw [e2]), e2]
      simp only [cl_n (show a 6 f < 14500 by omega), if_neg (ix2 (show a 6 f < 120 by omega) (by omega)), e6]
      rw [rs1 hR2 (f := f) (t := t) (show f < c 1 by omega), qb_s, if_pos rfl]
      refine ⟨v1, ?_, hFk, by rw [r3, hl], fun j hj => ?_⟩
      · show fX1_way_L120_b k9 (fX1_way_L120 k9 m') v1 (nI f) (lN t) y7 (0 : Int32) = some (y7, v1)
        unfold fX1_way_L120_b
        rw [if_pos rfl]
      · rw [r5]
        by_cases e2 : j = i' + 1
        · subst e2; rw [if_pos rfl, if_pos (Nat.le_refl _)]
        · rw [if_neg e2, if_neg (by omega)]
    · have hne : ch (i' + 1) ≠ a 6 f := k5 (i' + 1) (by omega) (by omega)
      rw [if_neg (fun hh => hne ((nI_eq (by omega) (by omega)).mp hh))]
      obtain ⟨w, w1, w2, w3, w4⟩ := ih (i' + 2) (cS c (i' + 2)) _ v1 hR2 hc0 hc1 rfl hH2 (by omega) (by omega) (by rw [show i' + 2 - 1 = i' + 1 by omega, r5, if_pos rfl]) (by omega)
      refine ⟨w, w1, hFk.tr w2, w3, fun j hj => ?_⟩
      rw [w4 j hj, r5]
      by_cases e2 : j = i' + 1
      · subst e2; rw [if_neg (by omega), if_pos rfl, if_pos (Nat.le_refl _)]
      · by_cases e3 : i' + 2 ≤ j
        · rw [if_pos e3, if_pos (by omega)]
        · rw [if_neg e3, if_neg e2, if_neg (by omega)]
def FW1 (v w : gS) : Prop := (∀ k, k ≠ 5 → gi w k = gi v k) ∧ (∀ k, k ≠ 5 → k ≠ 6 → gl w k = gl v k) ∧ ∀ k, k ≠ 0 → k ≠ 3 → gf w k = gf v k
theorem Fk.FW1 {v w z : gS} (h : Fr1 v w) (h2 : Fk w z) : FW1 v z := ⟨fun k h5 => (h2.1 k h5).trans (h.1 k), fun k h6 h7 => (h2.2.1 k).trans (h.2.1 k h6 h7), fun k h0 h3 => (h2.2.2 k h3).trans (h.2.2 k)⟩
theorem FW1.th {v w : gS} {x : Int32} (h : FW1 (sf v 0 x) w) : FW1 v w := ⟨h.1, h.2.1, fun k h0 h3 => (h.2.2 k h0 h3).trans (by show (if k = 0 then x else gf v k) = gf v k; rw [if_neg h0])⟩
theorem in1_ok {v : gS} {x lo hi : Int64} (h1 : ¬ x < lo) (h2 : ¬ hi < x) : fX1_in v x lo hi = some 1 := by unfold fX1_in; rw [if_neg h1, if_neg h2]
theorem in1_no {v : gS} {x lo hi : Int64} (h : x < lo ∨ hi < x) : fX1_in v x lo hi = some 0 := by
  unfold fX1_in
  by_cases h1 : x < lo
  · rw [if_pos h1]
  · rw [if_neg h1, if_pos (h.resolve_left h1)]
section U1
variable {c : Nat → Nat} {a : Nat → Nat → Nat} {u v : gS}
theorem way1 (hR : Re c a u v) {f g t : Nat} (hf : f < c 1) (hg : g < c 1) (ht : t ≤ 1000000000000) : ∃ (w : gS) (ans : Int64) (K : Nat) (ch E D : Nat → Nat), fX1_way K9 v (nI f) (nI g) (lN t) = some (ans, w) ∧ FW1 v w ∧ gf w 3 = nI K ∧ K ≤ 121 ∧ (∀ j, j < K → gi w 5 j = nI (ch j)) ∧ WayA (c 0) a f g t ans K ch E D ∧ (SolB (c 0) (gG a) (gEn a) E D ∧ SolC (c 0) (gLe a) (a 6 f) (fdN a f t) E D ∧ ∀ C, SolA (c 0) (gG a) (gEn a) E D C) := by
  have hI : INF = 4000000000000000000 := rfl
  have hn := hR.1.2.1
  have hn0 := hR.1.1
  obtain ⟨⟨-, -, b1⟩, -, -, -, b2⟩ := hR.2.2.2.1 f hf
  obtain ⟨⟨-, e3, b3⟩, -, -, -, b4⟩ := hR.2.2.2.1 g hg
  obtain ⟨-, -, ⟨-, -, -, b5⟩, -, -, b6, -⟩ := hR.2.1 _ b1
  obtain ⟨-, -, ⟨-, -, -, b7⟩, -, -, b8, -⟩ := hR.2.1 _ b3
  have hRs := hR.th (0 : Int32)
  have h3 : gf (sf v 0 (0 : Int32)) 2 = nI (c 1) := hR.1.2.2.2.2.2.2.1
  obtain ⟨w, E, D, q1, q2, q3, q4, q5, q6⟩ := rc1 hRs hf ht
  have hRw := hRs.fr1 q2
  obtain ⟨-, -, x8, -⟩ := q3 _ b3
  have hEfd := q5.2.2.2 _ b3
  have l1 := crN_le (a 7 f)
  have l2 := crN_le (a 7 g)
  have l3 := secN_le b6 (show a 8 g - a 8 f ≤ 10000 by omega)
  have l4 := secN_le b8 (show a 8 g ≤ 10000 by omega)
  have hz2 : (0 : Int32).toNatClampNeg = 0 := rfl
  have hz3 : ¬ ((0 : Int32) < 0 ∨ 200 ≤ 0) := by decide
  have e3w : gi (sf w 3 (0 : Int32)) 3 g = nI (a 6 g) := by show gi w 3 g = _; rw [q2.1 3]; exact e3
  have hf1 : Fk w (sf (si (sf w 3 (0 : Int32)) 5 (upd (gi (sf w 3 (0 : Int32)) 5) 0 (nI (a 6 g)))) 3 (1 : Int32)) := ⟨fun k hk => by show (if k = 5 then _ else gi w k) = gi w k; rw [if_neg hk], fun k => rfl, fun k hk => by show (if k = 3 then _ else (if k = 3 then _ else gf w k)) = gf w k; rw [if_neg hk, if_neg hk]⟩
  have r5 : gi (sf (si (sf w 3 (0 : Int32)) 5 (upd (gi (sf w 3 (0 : Int32)) 5) 0 (nI (a 6 g)))) 3 (1 : Int32)) 5 0 = nI (a 6 g) := by show upd (gi w 5) 0 (nI (a 6 g)) 0 = _; rw [up_v, if_pos rfl]
  have r3 : gf (sf (si (sf w 3 (0 : Int32)) 5 (upd (gi (sf w 3 (0 : Int32)) 5) 0 (nI (a 6 g)))) 3 (1 : Int32)) 3 = nI 1 := rfl
  have rH : HE1 (c 0) E D (sf (si (sf w 3 (0 : Int32)) 5 (upd (gi (sf w 3 (0 : Int32)) 5) 0 (nI (a 6 g)))) 3 (1 : Int32)) := q3
  unfold fX1_way
  rw [ql_s, isS1_in h3 (by omega) hf, qb_s, if_neg i10, isS1_in h3 (by omega) hg, qb_s, if_neg i10, in1_ok (lN_n0 (by omega)) (fun hh => by have := (pk_lLT (a := 1000000000000) (b := t) (by omega) (by omega)).mp hh; omega), qb_s, if_neg i10, q1, qb_s, ar1 hRw q3 hg]
  rcases sg1 hRw (t := t) hf hg with ⟨hs, h⟩ | ⟨hs, h⟩
  · rw [h, qb_s, qb_s, ql_s]
    have hmono := secN_mono (s := a 3 (a 6 f)) (show a 8 g - a 8 f ≤ a 2 (a 6 f) - a 8 f by have := hs.1; rw [this]; omega)
    have hle : t + crN (a 7 f) + secN (a 3 (a 6 f)) (a 8 g - a 8 f) + crN (a 7 g) ≤ (if E (a 6 g) = INF then INF else E (a 6 g) + secN (a 3 (a 6 g)) (a 8 g) + crN (a 7 g)) := by
      unfold fdN at hEfd
      split <;> omega
    have hlt : (if E (a 6 g) = INF then INF else E (a 6 g) + secN (a 3 (a 6 g)) (a 8 g) + crN (a 7 g)) < 2 ^ 63 := by split <;> omega
    rw [if_neg (show ¬ lN (t + crN (a 7 f) + secN (a 3 (a 6 f)) (a 8 g - a 8 f) + crN (a 7 g)) = (4000000000000000000 : Int64) from fun hh => by have := (pk_lEQ (b := INF) (by omega) (by omega)).mp hh; omega)]
    simp only [cl_n (show g < 14500 by omega), if_neg (ix2 (show g < 100 by omega) (by omega)), hz2, if_neg hz3, ql_s, e3w]
    rw [if_neg (fun hh => by have := (pk_lLT hlt (by omega)).mp hh; omega)]
    exact ⟨_, _, 1, fun _ => a 6 g, E, D, rfl, (Fk.FW1 q2 hf1).th, r3, by omega, fun j hj => by rw [show j = 0 by omega]; exact r5, Or.inl ⟨hs, rfl, rfl, rfl⟩, q4, q5, q6⟩
  · rw [h, qb_s, qb_s, ql_s, if_pos (show lN INF = (4000000000000000000 : Int64) from rfl)]
    by_cases hE : E (a 6 g) = INF
    · have hz0 : Fk w (sf w 3 (0 : Int32)) := ⟨fun _ _ => rfl, fun _ => rfl, fun k hk => by show (if k = 3 then _ else gf w k) = gf w k; rw [if_neg hk]⟩
      simp only [if_pos hE]
      rw [if_pos (show lN INF = (4000000000000000000 : Int64) from rfl)]
      exact ⟨sf w 3 0, _, 0, fun _ => 0, E, D, rfl, (Fk.FW1 q2 hz0).th, rfl, by omega, fun j hj => absurd hj (Nat.not_lt_zero j), Or.inr ⟨hs, Or.inl ⟨hE, rfl, rfl⟩⟩, q4, q5, q6⟩
    · have hEI : E (a 6 g) < INF := by omega
      have hbd := Re_E hR hf ht q4 q5 b3 hEI
      simp only [if_neg hE]
      rw [if_neg (show ¬ lN (E (a 6 g) + secN (a 3 (a 6 g)) (a 8 g) + crN (a 7 g)) = (4000000000000000000 : Int64) from fun hh => by have := (pk_lEQ (b := INF) (by omega) (by omega)).mp hh; omega)]
      simp only [cl_n (show g < 14500 by omega), if_neg (ix2 (show g < 100 by omega) (by omega)), hz2, if_neg hz3, ql_s, e3w]
      rw [if_pos ((pk_lLT (b := INF) (by omega) (by omega)).mpr (by omega))]
      have hRv := hRw.gh1 hf1 (K := 1) (by omega) r3
      have hself := cntL_self E (q := a 6 g) (c 0) b3
      obtain ⟨K, ch, hK, hC⟩ := chn_ex (Re_GH hR) q4 q5 (c 0 - 1) (a 6 g) b3 hEI (by omega)
      obtain ⟨c1, c2, c3, c4, c5⟩ := id hC
      obtain ⟨z, z1, z2, z3, z4⟩ := wl1 (y7 := lN (E (a 6 g) + secN (a 3 (a 6 g)) (a 8 g) + crN (a 7 g))) (k9 := K9) hC (by omega) b1 hf q5.2.1 200 1 (cS c 1) _ _ hRv rfl rfl rfl rH (by omega) (by omega) (by rw [show 1 - 1 = 0 from rfl, r5, c2]) (by omega)
      rw [z1]
      refine ⟨z, _, K, ch, E, D, rfl, (Fk.FW1 q2 (hf1.tr z2)).th, z3, by omega, fun j hj => ?_, Or.inr ⟨hs, Or.inr ⟨hEI, rfl, by omega, hC⟩⟩, q4, q5, q6⟩
      rw [z4 j hj]
      by_cases e : 1 ≤ j
      · rw [if_pos e]
      · rw [if_neg e, show j = 0 by omega, r5, c2]
end U1
