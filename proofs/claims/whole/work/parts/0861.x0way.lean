/-! The pure side: the class's way, whole. Own rows. -/
theorem Re.gh {c : Nat → Nat} {a : Nat → Nat → Nat} {u v w : gS} (h : Re c a u v) (hk : Fk u w) {K : Nat} (hK : K ≤ 121) (h3 : gf w 3 = nI K) : Re (cS c K) a w (sf (si v 5 (gi w 5)) 3 (nI K)) := by
  obtain ⟨⟨a1, a2, a3, a4, a5, a6, a7, a8, a9⟩, r2, r3, r4, r5, r6⟩ := h
  refine ⟨⟨a1, a2, hK, ?_, a5, ?_, a7, h3, rfl⟩, ?_, ?_, ?_, fun i _ => rfl, ?_⟩
  · rw [hk.2.2 0 (by omega)]; exact a4
  · rw [hk.2.2 2 (by omega)]; exact a6
  · unfold R2; simp only [hk.1 0 (by omega), hk.1 1 (by omega), hk.2.1]; exact r2
  · unfold R3; simp only [hk.2.1]; exact r3
  · unfold R4; simp only [hk.1 2 (by omega), hk.1 3 (by omega), hk.2.1]; exact r4
  · unfold R6; simp only [hk.2.1, hk.2.2 1 (by omega)]; exact r6
theorem lN_m1 {x : Nat} (h : x < 2 ^ 63) : ¬ lN x = (-1 : Int64) := fun e => by
  have h1 := pk_lT h
  rw [e] at h1
  have h2 : (-1 : Int64).toInt = -1 := rfl
  omega
theorem lN_n0 {x : Nat} (h : x < 2 ^ 63) : ¬ lN x < (0 : Int64) := fun e => by
  have := (pk_lLT (a := x) (b := 0) h (by omega)).mp e; omega
theorem Fk.tr {u w z : gS} (h : Fk u w) (h2 : Fk w z) : Fk u z := ⟨fun k hk => (h2.1 k hk).trans (h.1 k hk), fun k => (h2.2.1 k).trans (h.2.1 k), fun k hk => (h2.2.2 k hk).trans (h.2.2 k hk)⟩
theorem Fk.FW {u w z : gS} (h : Fr0 u w) (h2 : Fk w z) : FW0 u z := ⟨fun k h4 h5 => (h2.1 k h5).trans (h.1 k h4), fun k h6 h7 => (h2.2.1 k).trans (h.2.1 k h6 h7), fun k h3 => (h2.2.2 k h3).trans (h.2.2 k)⟩
section W1
variable {c : Nat → Nat} {a : Nat → Nat → Nat} {u v : gS}
/-- the first turns of keepSteps -/
theorem kp0 (hR : Re c a u v) {f g : Nat} (hf : f < c 1) (hg : g < c 1) : ∃ w v', Fk u w ∧ Re (cS c 1) a w v' ∧ gi w 5 0 = nI (a 6 g) ∧ gf w 3 = nI 1 ∧ fX0_keepSteps u (nI f) (nI g) = q_b (fX0_isStraightOn w (nI f) (nI g)) fun r5 => if r5 = 0 then q_b (fX0_pieceBefore w (nI (a 6 g))) fun r9 => fX0_keepSteps_L46 200 w (nI (a 6 f)) r9 else some w := by
  have hn := hR.1.2.1
  obtain ⟨⟨e1, -, b1⟩, -⟩ := hR.2.2.2.1 f hf
  obtain ⟨⟨e3, -, b3⟩, -⟩ := hR.2.2.2.1 g hg
  have hz : ¬ ((0 : Int32) < 0 ∨ 121 ≤ (0 : Int32).toNatClampNeg) := by decide
  have hz2 : (0 : Int32).toNatClampNeg = 0 := rfl
  have hz3 : ¬ ((0 : Int32) < 0 ∨ 121 ≤ 0) := by decide
  have hk : Fk u (sf (si u 5 (upd (gi u 5) 0 (nI (a 6 g)))) 3 (1 : Int32)) := ⟨fun k hk => by show (if k = 5 then _ else gi u k) = gi u k; rw [if_neg hk], fun k => rfl, fun k hk => by show (if k = 3 then _ else gf u k) = gf u k; rw [if_neg hk]⟩
  refine ⟨sf (si u 5 (upd (gi u 5) 0 (nI (a 6 g)))) 3 (1 : Int32), _, hk, hR.gh hk (by omega) rfl, ?_, rfl, ?_⟩
  · show upd (gi u 5) 0 (nI (a 6 g)) 0 = nI (a 6 g)
    rw [up_v, if_pos rfl]
  · unfold fX0_keepSteps
    simp only [cl_n (show f < 14500 by omega), cl_n (show g < 14500 by omega), if_neg (ix2 (show f < 100 by omega) (by omega)), if_neg (ix2 (show g < 100 by omega) (by omega)), hz2, if_neg hz3, ql_s, e1, e3]
theorem way0 (hR : Re c a u v) {f g t : Nat} (hf : f < c 1) (hg : g < c 1) (ht : t ≤ 1000000000000) : ∃ (w : gS) (ans : Int64) (K : Nat) (ch E D : Nat → Nat), fX0_way u (nI f) (nI g) (lN t) = some (ans, w) ∧ FW0 u w ∧ gf w 3 = nI K ∧ K ≤ 121 ∧ (∀ j, j < K → gi w 5 j = nI (ch j)) ∧ WayA (c 0) a f g t ans K ch E D ∧ (¬ strt a f g → SolB (c 0) (gG a) (gEn a) E D ∧ SolC (c 0) (gLe a) (a 6 f) (fdN a f t) E D ∧ SolA (c 0) (gG a) (gEn a) E D (E (a 6 g))) := by
  have hI : INF = 4000000000000000000 := rfl
  have hn := hR.1.2.1
  have hn0 := hR.1.1
  obtain ⟨⟨-, -, b1⟩, -, -, -, b2⟩ := hR.2.2.2.1 f hf
  obtain ⟨⟨-, -, b3⟩, -, -, -, b4⟩ := hR.2.2.2.1 g hg
  obtain ⟨-, -, ⟨-, -, -, b5⟩, -, -, b6, -⟩ := hR.2.1 _ b1
  obtain ⟨-, -, ⟨-, -, -, b7⟩, -, -, b8, -⟩ := hR.2.1 _ b3
  have h3 := hR.1.2.2.2.2.2.1
  have z0 : Fk u u := ⟨fun _ _ => rfl, fun _ => rfl, fun _ _ => rfl⟩
  have ts : ∀ z : gS, Fk z (sf z 3 (0 : Int32)) := fun z => ⟨fun _ _ => rfl, fun _ => rfl, fun k hk => by show (if k = 3 then _ else gf z k) = gf z k; rw [if_neg hk]⟩
  unfold fX0_way
  rw [isS0_in h3 (by omega) hf, qb_s, if_neg i10, isS0_in h3 (by omega) hg, qb_s, if_neg i10, if_neg (lN_n0 (by omega)), if_pos (show lN t ≤ (1000000000000 : Int64) from (pk_lLE (a := t) (b := 1000000000000) (by omega) (by omega)).mpr ht)]
  by_cases hs : strt a f g
  · rw [la0s hR hf hg hs, qb2_s, ql_s]
    have l1 := crN_le (a 7 f)
    have l2 := crN_le (a 7 g)
    have l3 := secN_le b6 (show a 8 g - a 8 f ≤ 10000 by omega)
    rw [if_neg (lN_m1 (by omega))]
    have hRz := hR.gh (ts u) (K := 0) (by omega) rfl
    obtain ⟨w, v', k1, k2, k3, k4, k5⟩ := kp0 hRz (f := f) (g := g) hf hg
    rcases so0 k2 (f := f) (g := g) hf hg with ⟨-, h⟩ | ⟨h, -⟩
    · rw [k5, h, qb_s, if_neg i10, qb_s]
      exact ⟨w, _, 1, fun _ => a 6 g, fun _ => 0, fun _ => 0, rfl, Fk.FW (Fr0.rf u) ((ts u).tr k1), k4, by omega, fun j hj => by rw [show j = 0 by omega]; exact k3, Or.inl ⟨hs, rfl, rfl, rfl⟩, fun h => absurd hs h⟩
    · exact absurd hs h
  · obtain ⟨w0, E, D, q1, q2, q3, q4, q5, q6⟩ := la0n hR hf hg ht hs
    rw [q1, qb2_s, ql_s]
    have hR0 := hR.fr0 q2
    have hGH := Re_GH hR
    obtain ⟨-, -, x8, -⟩ := q3 _ b3
    have hRz := hR0.gh (ts w0) (K := 0) (by omega) rfl
    by_cases hE : E (a 6 g) = INF
    · rw [if_pos hE, if_pos rfl]
      exact ⟨sf w0 3 0, _, 0, fun _ => 0, E, D, rfl, Fk.FW q2 (ts w0), rfl, by omega, fun j hj => absurd hj (Nat.not_lt_zero j), Or.inr ⟨hs, Or.inl ⟨hE, rfl, rfl⟩⟩, fun _ => ⟨q4, q5, q6⟩⟩
    · have l2 := crN_le (a 7 g)
      have l3 := secN_le b8 (show a 8 g ≤ 10000 by omega)
      rw [if_neg hE, if_neg (lN_m1 (by omega))]
      obtain ⟨w, v', k1, k2, k3, k4, k5⟩ := kp0 hRz (f := f) (g := g) hf hg
      have hself := cntL_self E (q := a 6 g) (c 0) b3
      obtain ⟨K, ch, hK, hC⟩ := chn_ex hGH q4 q5 (c 0 - 1) (a 6 g) b3 (by omega) (by omega)
      have hHw : HE (c 0) E D w := fun p hp => by
        have := q3 p hp
        rw [show gl w 6 = gl w0 6 from k1.2.1 6, show gl w 7 = gl w0 7 from k1.2.1 7]; exact this
      rcases so0 k2 (f := f) (g := g) hf hg with ⟨h, -⟩ | ⟨-, h⟩
      · exact absurd h hs
      · rw [k5, h, qb_s, if_pos rfl]
        obtain ⟨c1, c2, c3, c4, c5⟩ := id hC
        have hpb : fX0_pieceBefore w (nI (a 6 g)) = some (nI (ch 1)) := by
          rcases pb0 (E := E) (D := D) k2 hHw (p := a 6 g) b3 200 0 (Nat.zero_le _) (show c 0 - 0 < 200 by omega) (fun q hq => absurd hq (Nat.not_lt_zero q)) with ⟨q, h1, h2, h3, h4⟩ | ⟨h1, h2⟩
          · obtain ⟨m1, m2, -⟩ := c3 0 (by omega)
            rw [c2] at m2
            rw [show ch 1 = q from pre9_uni m2 ⟨h3, h4⟩]; exact h1
          · obtain ⟨m1, m2, -⟩ := c3 0 (by omega)
            rw [c2] at m2
            exact absurd m2.1 (h2 _ m1)
        rw [hpb, qb_s]
        obtain ⟨z, z1, z2, z3, z4⟩ := ks0 hC (by omega) b1 200 1 (cS (cS c 0) 1) w v' k2 rfl rfl hHw (by omega) (by omega) (by omega)
        rw [z1, qb_s]
        refine ⟨z, _, K, ch, E, D, rfl, Fk.FW q2 ((ts w0).tr (k1.tr z2)), z3, by omega, fun j hj => ?_, Or.inr ⟨hs, Or.inr ⟨by omega, rfl, by omega, hC⟩⟩, fun _ => ⟨q4, q5, q6⟩⟩
        rw [z4 j hj]
        by_cases e : 1 ≤ j
        · rw [if_pos e]
        · rw [if_neg e, show j = 0 by omega, k3, c2]
end W1
