/-! The pure side: way, table, step answer alike. Own rows. -/
theorem chn_uni {n : Nat} {go : Nat → Nat → Prop} {en : Nat → Nat → Nat} {fi : Nat} {E D E' D' : Nat → Nat} {p K K' : Nat} {ch ch' : Nat → Nat} (h : Chn n go en fi E D p K ch) (h' : Chn n go en fi E' D' p K' ch') (he : ∀ q r, q < n → r < n → E r < INF → E r ≤ E p → (pre9 go en E D q r ↔ pre9 go en E' D' q r)) : K = K' ∧ ∀ i, i < K → ch i = ch' i := by
  obtain ⟨k1, k2, k3, k4, k5⟩ := h
  obtain ⟨l1, l2, l3, l4, l5⟩ := h'
  have key : ∀ i, i < K → i < K' → ch i = ch' i := by
    intro i
    induction i with
    | zero => intro _ _; rw [k2, l2]
    | succ i ih =>
      intro h1 h2
      have e := ih (by omega) (by omega)
      obtain ⟨m1, m2, m3, m4, m5⟩ := k3 i h1
      obtain ⟨o1, o2, -⟩ := l3 i h2
      rw [← e] at o2
      exact pre9_uni ((he _ _ m1 m5 m4 m3).mp m2) o2
  have hK : K = K' := by
    rcases Nat.lt_trichotomy K K' with h | h | h
    · exact absurd ((key (K - 1) (by omega) (by omega)).symm.trans k4) (l5 (K - 1) (by omega) (by omega))
    · exact h
    · exact absurd ((key (K' - 1) (by omega) (by omega)).trans l4) (k5 (K' - 1) (by omega) (by omega))
  exact ⟨hK, fun i hi => key i hi (by omega)⟩
theorem Re.fw {c : Nat → Nat} {a : Nat → Nat → Nat} {u v u' v' : gS} (h : Re c a u v) (h0 : FW0 u u') (h1 : FW1 v v') {K : Nat} (hK : K ≤ 121) (e0 : gf u' 3 = nI K) (e1 : gf v' 3 = nI K) (h5 : ∀ i, i < K → gi u' 5 i = gi v' 5 i) : Re (cS c K) a u' v' := by
  obtain ⟨⟨a1, a2, a3, a4, a5, a6, a7, a8, a9⟩, r2, r3, r4, r5, r6⟩ := h
  refine ⟨⟨a1, a2, hK, ?_, ?_, ?_, ?_, e0, e1⟩, ?_, ?_, ?_, h5, ?_⟩
  · rw [h0.2.2 0 (by omega)]; exact a4
  · rw [h1.2.2 1 (by omega) (by omega)]; exact a5
  · rw [h0.2.2 2 (by omega)]; exact a6
  · rw [h1.2.2 2 (by omega) (by omega)]; exact a7
  · unfold R2; simp only [h0.1 0 (by omega) (by omega), h0.1 1 (by omega) (by omega), h0.2.1 0 (by omega) (by omega), h0.2.1 1 (by omega) (by omega), h1.1 0 (by omega), h1.1 1 (by omega), h1.2.1 0 (by omega) (by omega), h1.2.1 1 (by omega) (by omega)]; exact r2
  · unfold R3; simp only [h0.2.1 2 (by omega) (by omega), h0.2.1 3 (by omega) (by omega), h1.2.1 2 (by omega) (by omega), h1.2.1 3 (by omega) (by omega)]; exact r3
  · unfold R4; simp only [h0.1 2 (by omega) (by omega), h0.1 3 (by omega) (by omega), h0.2.1 5 (by omega) (by omega), h1.1 3 (by omega), h1.1 4 (by omega), h1.2.1 4 (by omega) (by omega)]; exact r4
  · unfold R6; simp only [h0.2.1 4 (by omega) (by omega), h0.2.2 1 (by omega), h1.1 2 (by omega)]; exact r6
def Al (a : Nat → Nat → Nat) (u v : gS) : Prop := ∃ c, Re c a u v
section A1
variable {c : Nat → Nat} {a : Nat → Nat → Nat} {u v : gS}
theorem way_all (hR : Re c a u v) (x y : Int32) (z : Int64) : ∃ r u' v', fX0_way u x y z = some (r, u') ∧ fX1_way K9 v x y z = some (r, v') ∧ Al a u' v' := by
  have hn := hR.1.2.1
  have g0 : gf u 2 = nI (c 1) := hR.1.2.2.2.2.2.1
  have g1 : gf (sf v 0 (0 : Int32)) 2 = nI (c 1) := hR.1.2.2.2.2.2.2.1
  rcases in_cases x (n := c 1) (by omega) with hx | ⟨f, hf, rfl⟩
  · refine ⟨-11, u, sf v 0 0, ?_, ?_, c, hR.th 0⟩
    · unfold fX0_way; rw [isS0_out g0 hx, qb_s, if_pos rfl]
    · unfold fX1_way; rw [ql_s, isS1_out g1 hx, qb_s, if_pos rfl]
  · rcases in_cases y (n := c 1) (by omega) with hy | ⟨g, hg, rfl⟩
    · refine ⟨-11, u, sf v 0 0, ?_, ?_, c, hR.th 0⟩
      · unfold fX0_way; rw [isS0_in g0 (by omega) hf, qb_s, if_neg i10, isS0_out g0 hy, qb_s, if_pos rfl]
      · unfold fX1_way; rw [ql_s, isS1_in g1 (by omega) hf, qb_s, if_neg i10, isS1_out g1 hy, qb_s, if_pos rfl]
    · by_cases hz : z < 0
      · refine ⟨-12, u, sf v 0 0, ?_, ?_, c, hR.th 0⟩
        · unfold fX0_way; rw [isS0_in g0 (by omega) hf, qb_s, if_neg i10, isS0_in g0 (by omega) hg, qb_s, if_neg i10, if_pos hz]
        · unfold fX1_way; rw [ql_s, isS1_in g1 (by omega) hf, qb_s, if_neg i10, isS1_in g1 (by omega) hg, qb_s, if_neg i10, in1_no (Or.inl hz), qb_s, if_pos rfl]
      · obtain ⟨t, ht, rfl⟩ := pk_lOf hz
        by_cases hle : t ≤ 1000000000000
        · obtain ⟨u', r0, K0, ch0, E0, D0, p1, p2, p3, p4, p5, p6, p7⟩ := way0 hR hf hg hle
          obtain ⟨v', r1, K1, ch1, E1, D1, q1, q2, q3, q4, q5, q6, q7, q8, q9⟩ := way1 hR hf hg hle
          have hb3 : a 6 g < c 0 := (hR.2.2.2.1 g hg).1.2.2
          have key : r0 = r1 ∧ K0 = K1 ∧ ∀ i, i < K0 → ch0 i = ch1 i := by
            rcases p6 with ⟨s1, s2, s3, s4⟩ | ⟨s1, s2⟩
            · rcases q6 with ⟨t1, t2, t3, t4⟩ | ⟨t1, -⟩
              · exact ⟨by rw [s2, t2], by omega, fun i hi => by rw [show i = 0 by omega, s4, t4]⟩
              · exact absurd s1 t1
            · obtain ⟨d1, d2, d3⟩ := p7 s1
              have hl := sol_last (Re_GH hR) d1 d2 d3 q7 q8 q9 hb3
              rcases q6 with ⟨t1, -⟩ | ⟨-, t2⟩
              · exact absurd t1 s1
              · rcases s2 with ⟨m1, m2, m3⟩ | ⟨m1, m2, m3, m4⟩
                · rcases t2 with ⟨o1, o2, o3⟩ | ⟨o1, -⟩
                  · exact ⟨by rw [m2, o2], by omega, fun i hi => by omega⟩
                  · omega
                · rcases t2 with ⟨o1, -⟩ | ⟨o1, o2, o3, o4⟩
                  · omega
                  · have hu := chn_uni m4 o4 (fun q r hq hr hI hB => by
                      have hx := fun q' (hq' : q' < c 0) => sol_pre (Re_GH hR) d1 d2 d3 q7 q8 q9 hq' hr hI hB
                      have hy : ∀ q', q' < c 0 → ((gG a q' r ∧ gEn a r (D0 q') = E0 r) ↔ (gG a q' r ∧ gEn a r (D1 q') = E1 r)) := fun q' hq' => by
                        have e := sol_E (Re_GH hR) d1 d2 d3 q7 q8 q9 hr (Or.inl ⟨hI, hB⟩)
                        constructor
                        · intro hh; exact ⟨hh.1, ((hx q' hq').mp hh.2).2⟩
                        · intro hh
                          refine ⟨hh.1, (hx q' hq').mpr ⟨?_, hh.2⟩⟩
                          have : D1 q' ≤ gEn a r (D1 q') := entN_ge
                          omega
                      unfold pre9
                      constructor
                      · intro ⟨h1, h2⟩; exact ⟨(hy q hq).mp h1, fun q' hq' hh => h2 q' hq' ((hy q' (by omega)).mpr hh)⟩
                      · intro ⟨h1, h2⟩; exact ⟨(hy q hq).mpr h1, fun q' hq' hh => h2 q' hq' ((hy q' (by omega)).mp hh)⟩)
                    exact ⟨by rw [m2, o2, hl], hu.1, hu.2⟩
          obtain ⟨rfl, rfl, hch⟩ := key
          exact ⟨r0, u', v', p1, q1, _, hR.fw p2 q2 p4 p3 q3 (fun i hi => by rw [p5 i hi, q5 i hi, hch i hi])⟩
        · have hgt : ¬ lN t ≤ (1000000000000 : Int64) := fun hh => hle ((pk_lLE (b := 1000000000000) ht (by omega)).mp hh)
          have hgt2 : (1000000000000 : Int64) < lN t := (pk_lLT (a := 1000000000000) (by omega) ht).mpr (by omega)
          refine ⟨-12, u, sf v 0 0, ?_, ?_, c, hR.th 0⟩
          · unfold fX0_way; rw [isS0_in g0 (by omega) hf, qb_s, if_neg i10, isS0_in g0 (by omega) hg, qb_s, if_neg i10, if_neg hz, if_neg hgt]
          · unfold fX1_way; rw [ql_s, isS1_in g1 (by omega) hf, qb_s, if_neg i10, isS1_in g1 (by omega) hg, qb_s, if_neg i10, in1_no (Or.inr hgt2), qb_s, if_pos rfl]
theorem table_all (hR : Re c a u v) (x y : Int32) : ∃ r u' v', fX0_table u x y = some (r, u') ∧ fX1_table K9 v x y = some (r, v') ∧ Al a u' v' := by
  have hI : INF = 4000000000000000000 := rfl
  have hn := hR.1.2.1
  have g0 : gf u 2 = nI (c 1) := hR.1.2.2.2.2.2.1
  have g1 : gf (sf v 0 (0 : Int32)) 2 = nI (c 1) := hR.1.2.2.2.2.2.2.1
  rcases in_cases x (n := c 1) (by omega) with hx | ⟨f, hf, rfl⟩
  · refine ⟨-11, u, sf v 0 0, ?_, ?_, c, hR.th 0⟩
    · unfold fX0_table; rw [isS0_out g0 hx, qb_s, if_pos rfl]
    · unfold fX1_table; rw [ql_s, isS1_out g1 hx, qb_s, if_pos rfl]
  · rcases in_cases y (n := c 1) (by omega) with hy | ⟨g, hg, rfl⟩
    · refine ⟨-11, u, sf v 0 0, ?_, ?_, c, hR.th 0⟩
      · unfold fX0_table; rw [isS0_in g0 (by omega) hf, qb_s, if_neg i10, isS0_out g0 hy, qb_s, if_pos rfl]
      · unfold fX1_table; rw [ql_s, isS1_in g1 (by omega) hf, qb_s, if_neg i10, isS1_out g1 hy, qb_s, if_pos rfl]
    · have hRs := hR.th (0 : Int32)
      have hn0 := hR.1.1
      obtain ⟨⟨-, -, b1⟩, -, -, -, b2⟩ := hR.2.2.2.1 f hf
      obtain ⟨⟨-, e3, b3⟩, -, -, -, b4⟩ := hR.2.2.2.1 g hg
      obtain ⟨-, -, ⟨-, -, -, b5⟩, -, -, b6, -⟩ := hR.2.1 _ b1
      obtain ⟨-, -, ⟨-, -, -, b7⟩, -, -, b8, -⟩ := hR.2.1 _ b3
      obtain ⟨w, E, D, q1, q2, q3, q4, q5, q6⟩ := rc1 hRs (t := 0) hf (by omega)
      have q1 : fX1_reach K9 (sf v 0 (0 : Int32)) (nI f) (0 : Int64) = some w := q1
      have hRw := hRs.fr1 q2
      have l1 := crN_le (a 7 f)
      have l2 := crN_le (a 7 g)
      have l3 := secN_le b6 (show a 8 g - a 8 f ≤ 10000 by omega)
      have l4 := secN_le b8 (show a 8 g ≤ 10000 by omega)
      have hEfd := q5.2.2.2 _ b3
      have x7 := (q3 _ b3).2.2.1
      unfold fX0_table fX1_table
      rw [isS0_in g0 (by omega) hf, qb_s, if_neg i10, isS0_in g0 (by omega) hg, qb_s, if_neg i10, ql_s, isS1_in g1 (by omega) hf, qb_s, if_neg i10, isS1_in g1 (by omega) hg, qb_s, if_neg i10, q1, qb_s, ar1 hRw q3 hg]
      rcases sg1 hRw (t := 0) hf hg with ⟨hs, h⟩ | ⟨hs, h⟩
      · have h : fX1_straight w (nI f) (nI g) (0 : Int64) = _ := h
        have hla : fX0_leastArrival u (nI f) (nI g) (0 : Int64) = _ := la0s hR (t := 0) hf hg hs
        rw [h, qb_s, qb_s, hla, qb2_s]
        have hmono := secN_mono (s := a 3 (a 6 f)) (show a 8 g - a 8 f ≤ a 2 (a 6 f) - a 8 f by have := hs.1; rw [this]; omega)
        have hle : 0 + crN (a 7 f) + secN (a 3 (a 6 f)) (a 8 g - a 8 f) + crN (a 7 g) ≤ (if E (a 6 g) = INF then INF else E (a 6 g) + secN (a 3 (a 6 g)) (a 8 g) + crN (a 7 g)) := by
          unfold fdN at hEfd
          split <;> omega
        have hlt : (if E (a 6 g) = INF then INF else E (a 6 g) + secN (a 3 (a 6 g)) (a 8 g) + crN (a 7 g)) < 2 ^ 63 := by split <;> omega
        generalize (if E (a 6 g) = INF then INF else E (a 6 g) + secN (a 3 (a 6 g)) (a 8 g) + crN (a 7 g)) = ot at hle hlt ⊢
        have hon : 0 + crN (a 7 f) + secN (a 3 (a 6 f)) (a 8 g - a 8 f) + crN (a 7 g) < 1000000 := by omega
        generalize 0 + crN (a 7 f) + secN (a 3 (a 6 f)) (a 8 g - a 8 f) + crN (a 7 g) = on at hle hon ⊢
        refine ⟨lN on, u, w, rfl, ?_, c, hRw⟩
        have hne : ∀ k, k = on → ¬ lN k = (4000000000000000000 : Int64) := fun k hk hh => by have := (pk_lEQ (b := INF) (by omega) (by omega)).mp hh; omega
        by_cases hc : ot ≤ on
        · have : ot = on := by omega
          subst this
          rw [if_pos ((pk_lLE hlt (by omega)).mpr hc), if_neg (hne _ rfl)]
        · rw [if_neg (fun hh => hc ((pk_lLE hlt (by omega)).mp hh)), if_neg (hne _ rfl)]
      · have h : fX1_straight w (nI f) (nI g) (0 : Int64) = _ := h
        obtain ⟨u', E0, D0, p1, p2, p3, p4, p5, p6⟩ := la0n hR (t := 0) hf hg (by omega) hs
        have p1 : fX0_leastArrival u (nI f) (nI g) (0 : Int64) = _ := p1
        have hl := sol_last (Re_GH hR) p4 p5 p6 q4 q5 q6 b3
        rw [h, qb_s, qb_s, p1, qb2_s, hl]
        refine ⟨_, u', w, rfl, ?_, c, (hRw.fr0 p2)⟩
        by_cases hE : E (a 6 g) = INF
        · simp only [if_pos hE]
          rw [if_pos (Int64.le_refl _), if_pos (show lN INF = (4000000000000000000 : Int64) from rfl)]
        · have hbd := Re_E hR (t := 0) hf (by omega) q4 q5 b3 (by omega)
          simp only [if_neg hE]
          rw [if_pos ((pk_lLE (b := INF) (by omega) (by omega)).mpr (by omega)), if_neg (show ¬ lN (E (a 6 g) + secN (a 3 (a 6 g)) (a 8 g) + crN (a 7 g)) = (4000000000000000000 : Int64) from fun hh => by have := (pk_lEQ (b := INF) (by omega) (by omega)).mp hh; omega)]
theorem step_all (hR : Re c a u v) (x : Int32) : ∃ r v', fX0_step u x = some r ∧ fX1_step v x = some (r, v') ∧ Re c a u v' := by
  have hn := hR.1.2.2.1
  have g0 : gf u 3 = nI (c 2) := hR.1.2.2.2.2.2.2.2.1
  have g1 : gf (sf v 0 (0 : Int32)) 3 = nI (c 2) := hR.1.2.2.2.2.2.2.2.2
  rcases pk_ix x (n := c 2) (by omega) with h | h | ⟨i, hi, rfl⟩
  · refine ⟨-1, sf v 0 0, ?_, ?_, hR.th 0⟩
    · unfold fX0_step; rw [if_pos h]
    · unfold fX1_step; rw [ql_s, if_pos h]
  · by_cases h0 : x < 0
    · refine ⟨-1, sf v 0 0, ?_, ?_, hR.th 0⟩
      · unfold fX0_step; rw [if_pos h0]
      · unfold fX1_step; rw [ql_s, if_pos h0]
    · refine ⟨-1, sf v 0 0, ?_, ?_, hR.th 0⟩
      · unfold fX0_step; rw [if_neg h0, g0, if_neg (Int32.not_lt.mpr h)]
      · unfold fX1_step; rw [ql_s, if_neg h0, g1, if_pos h]
  · obtain ⟨s, hs⟩ : ∃ s, c 2 = s + 1 := ⟨c 2 - 1, by omega⟩
    have e : nI (c 2) - (1 : Int32) - nI i = nI (s - i) := by rw [hs, nI_pred, pk_sub (by omega)]
    refine ⟨gi u 5 (s - i), sf v 0 0, ?_, ?_, hR.th 0⟩
    · unfold fX0_step
      rw [if_neg (nI_pos (by omega)), g0, if_pos (nI_lt hi (by omega)), e, cl_n (show s - i < 14500 by omega), if_neg (ix2 (show s - i < 121 by omega) (by omega))]
    · unfold fX1_step
      rw [ql_s, if_neg (nI_pos (by omega)), g1, if_neg (nI_ge hi (by omega)), e, cl_n (show s - i < 14500 by omega), if_neg (ix2 (show s - i < 200 by omega) (by omega)), hR.2.2.2.2.1 (s - i) (by omega)]
      rfl
end A1
