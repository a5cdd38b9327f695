/-! The pure side: piece, piece2, stop, gate, change answer alike. Own rows. -/
def Rel (u v : gS) : Prop := ∃ c a, Re c a u v
theorem Al.rel {a : Nat → Nat → Nat} {u v : gS} (h : Al a u v) : Rel u v := h.elim (fun c hc => ⟨c, a, hc⟩)
theorem cr0_out {u : gS} {x : Int32} (h : x < 0 ∨ nI 60 ≤ x) : fX0_isCrossing u x = some 0 := by
  unfold fX0_isCrossing
  by_cases h1 : x < 0
  · rw [if_pos h1]
  · rw [if_neg h1, if_pos (show (60 : Int32) ≤ x from h.resolve_left h1)]
theorem cr0_in {u : gS} {j : Nat} (h : j < 60) : fX0_isCrossing u (nI j) = some 1 := by
  unfold fX0_isCrossing
  rw [if_neg (nI_pos (by omega)), if_neg (show ¬ (60 : Int32) ≤ nI j from nI_ge (a := j) (b := 60) h (by omega))]
theorem i64_out {x : Int32} {n : Nat} {hi : Int64} (hn : n < 1000) (hh : hi.toInt = (n : Int)) (h : x < 0 ∨ nI (n + 1) ≤ x) : x.toInt64 < 0 ∨ hi < x.toInt64 := by
  rcases h with h | h
  · exact Or.inl ((i64_lt (0 : Int64) (a := 0) rfl).mpr (by have := Int32.lt_iff_toInt_lt.mp h; exact this))
  · refine Or.inr ((i64_gt hi hh).mpr ?_)
    have h1 := Int32.le_iff_toInt_le.mp h
    rw [nI_toInt (by omega)] at h1
    omega
theorem i64_in {v : gS} {j n : Nat} {hi : Int64} (hn : n < 1000) (hh : hi = lN n) (h : j ≤ n) : fX1_in v (nI j).toInt64 (0 : Int64) hi = some 1 := by
  rw [nI_l (by omega), hh]
  exact in1_ok (lN_n0 (by omega)) (fun h1 => by have := (pk_lLT (by omega) (by omega)).mp h1; omega)
theorem Re.ins {c : Nat → Nat} {a : Nat → Nat → Nat} {u v u' v' : gS} (h : Re c a u v) (hn : c 0 < 120) {j1 j2 l s : Nat} (b1 : j1 < 60) (b2 : j2 < 60) (b3 : 1 ≤ l ∧ l ≤ 10000) (b4 : 1 ≤ s ∧ s ≤ 1000)
    (hu0 : ∀ i, gi u' 0 i = if i = c 0 then nI j1 else gi u 0 i) (hu1 : ∀ i, gi u' 1 i = if i = c 0 then nI j2 else gi u 1 i) (hu2 : ∀ i, gl u' 0 i = if i = c 0 then lN l else gl u 0 i) (hu3 : ∀ i, gl u' 1 i = if i = c 0 then lN s else gl u 1 i)
    (hv0 : ∀ i, gi v' 0 i = if i = c 0 then nI j1 else gi v 0 i) (hv1 : ∀ i, gi v' 1 i = if i = c 0 then nI j2 else gi v 1 i) (hv2 : ∀ i, gl v' 0 i = if i = c 0 then lN l else gl v 0 i) (hv3 : ∀ i, gl v' 1 i = if i = c 0 then lN s else gl v 1 i)
    (fu : gi u' 2 = gi u 2 ∧ gi u' 3 = gi u 3 ∧ gi u' 5 = gi u 5 ∧ gl u' 2 = gl u 2 ∧ gl u' 3 = gl u 3 ∧ gl u' 4 = gl u 4 ∧ gl u' 5 = gl u 5 ∧ gf u' 0 = nI (c 0 + 1) ∧ gf u' 1 = gf u 1 ∧ gf u' 2 = gf u 2 ∧ gf u' 3 = gf u 3)
    (fv : gi v' 2 = gi v 2 ∧ gi v' 3 = gi v 3 ∧ gi v' 4 = gi v 4 ∧ gi v' 5 = gi v 5 ∧ gl v' 2 = gl v 2 ∧ gl v' 3 = gl v 3 ∧ gl v' 4 = gl v 4 ∧ gf v' 1 = nI (c 0 + 1) ∧ gf v' 2 = gf v 2 ∧ gf v' 3 = gf v 3) : Rel u' v' := by
  obtain ⟨⟨a1, a2, a3, a4, a5, a6, a7, a8, a9⟩, r2, r3, r4, r5, r6⟩ := h
  obtain ⟨f1, f2, f3, f4, f5, f6, f7, f8, f9, f10, f11⟩ := fu
  obtain ⟨g1, g2, g3, g4, g5, g6, g7, g8, g9, g10⟩ := fv
  refine ⟨fun k => if k = 0 then c 0 + 1 else c k, fun k i => if i = c 0 then (if k = 0 then j1 else if k = 1 then j2 else if k = 2 then l else if k = 3 then s else a k i) else a k i, ⟨?_, a2, a3, f8, g8, ?_, ?_, ?_, ?_⟩, fun i hi => ?_, fun i hi => ?_, fun j hj => ?_, fun i hi => ?_, ?_⟩
  · show c 0 + 1 ≤ 120; omega
  · show gf u' 2 = nI (c 1); rw [f10]; exact a6
  · show gf v' 2 = nI (c 1); rw [g9]; exact a7
  · show gf u' 3 = nI (c 2); rw [f11]; exact a8
  · show gf v' 3 = nI (c 2); rw [g10]; exact a9
  · have hi : i < c 0 + 1 := hi
    rw [hu0, hu1, hu2, hu3, hv0, hv1, hv2, hv3]
    by_cases e : i = c 0
    · simp only [if_pos e]
      exact ⟨⟨rfl, rfl, b1⟩, ⟨rfl, rfl, b2⟩, ⟨rfl, rfl, b3.1, b3.2⟩, rfl, rfl, b4.1, b4.2⟩
    · simp only [if_neg e]
      exact r2 i (by omega)
  · rw [f4, f5, g5, g6]
    have e4 : (if i = c 0 then (if (4 : Nat) = 0 then j1 else if (4 : Nat) = 1 then j2 else if (4 : Nat) = 2 then l else if (4 : Nat) = 3 then s else a 4 i) else a 4 i) = a 4 i := by split <;> rfl
    have e5 : (if i = c 0 then (if (5 : Nat) = 0 then j1 else if (5 : Nat) = 1 then j2 else if (5 : Nat) = 2 then l else if (5 : Nat) = 3 then s else a 5 i) else a 5 i) = a 5 i := by split <;> rfl
    simp only [e4, e5]
    exact r3 i hi
  · have hj : j < c 1 := hj
    obtain ⟨⟨x1, x2, x3⟩, ⟨x4, x5, x6⟩, x7, x8, x9⟩ := r4 j hj
    rw [f1, f2, f7, g2, g3, g7]
    have e6 : (if j = c 0 then (if (6 : Nat) = 0 then j1 else if (6 : Nat) = 1 then j2 else if (6 : Nat) = 2 then l else if (6 : Nat) = 3 then s else a 6 j) else a 6 j) = a 6 j := by split <;> rfl
    have e7 : (if j = c 0 then (if (7 : Nat) = 0 then j1 else if (7 : Nat) = 1 then j2 else if (7 : Nat) = 2 then l else if (7 : Nat) = 3 then s else a 7 j) else a 7 j) = a 7 j := by split <;> rfl
    have e8 : (if j = c 0 then (if (8 : Nat) = 0 then j1 else if (8 : Nat) = 1 then j2 else if (8 : Nat) = 2 then l else if (8 : Nat) = 3 then s else a 8 j) else a 8 j) = a 8 j := by split <;> rfl
    simp only [e6, e7, e8]
    refine ⟨⟨x1, x2, ?_⟩, ⟨x4, x5, x6⟩, x7, x8, ?_⟩
    · show a 6 j < c 0 + 1; omega
    · rw [if_neg (by omega)]; exact x9
  · have hi : i < c 2 := hi
    rw [f3, g4]; exact r5 i hi
  · have e10 : (fun i => if i = c 0 then (if (10 : Nat) = 0 then j1 else if (10 : Nat) = 1 then j2 else if (10 : Nat) = 2 then l else if (10 : Nat) = 3 then s else a 10 i) else a 10 i) = a 10 := funext (fun i => by split <;> rfl)
    have e10' : ∀ i, (if i = c 0 then (if (10 : Nat) = 0 then j1 else if (10 : Nat) = 1 then j2 else if (10 : Nat) = 2 then l else if (10 : Nat) = 3 then s else a 10 i) else a 10 i) = a 10 i := fun i => congrFun e10 i
    unfold R6
    simp only [e10', f6, f9, g1]
    exact r6
section P1
variable {c : Nat → Nat} {a : Nat → Nat → Nat} {u v : gS}
theorem piece_all (hR : Re c a u v) (x1 x2 : Int32) (x3 x4 : Int64) : ∃ (ro : Option Int32) (u' v' : gS) (b : Int32), fX0_piece u x1 x2 x3 x4 = some (ro, u') ∧ fX1_piece v x1 x2 x3 x4 = some (b, v') ∧ Rel u' v' ∧ ((ro = some b ∧ gf v' 0 = 0) ∨ (ro = none ∧ gf v' 0 = 1)) := by
  have hn := hR.1.1
  have g0 : gf u 0 = nI (c 0) := hR.1.2.2.2.1
  have g1 : gf v 1 = nI (c 0) := hR.1.2.2.2.2.1
  have hth : Rel u (sf v 0 0) := ⟨c, a, hR.th 0⟩
  have fin : ∀ b : Int32, fX0_piece u x1 x2 x3 x4 = some (some b, u) → fX1_piece v x1 x2 x3 x4 = some (b, sf v 0 0) → ∃ (ro : Option Int32) (u' v' : gS) (b : Int32), fX0_piece u x1 x2 x3 x4 = some (ro, u') ∧ fX1_piece v x1 x2 x3 x4 = some (b, v') ∧ Rel u' v' ∧ ((ro = some b ∧ gf v' 0 = 0) ∨ (ro = none ∧ gf v' 0 = 1)) := fun b h1 h2 => ⟨some b, u, sf v 0 0, b, h1, h2, hth, Or.inl ⟨rfl, rfl⟩⟩
  rcases pk_ix x1 (n := 60) (by omega) with h | h | ⟨j1, hj1, rfl⟩
  · refine fin (-11) ?_ ?_
    · unfold fX0_piece; rw [cr0_out (Or.inl h), qb_s, if_pos rfl]
    · unfold fX1_piece; rw [ql_s, in1_no (i64_out (n := 59) (by omega) rfl (Or.inl h)), qb_s, if_pos rfl]
  · refine fin (-11) ?_ ?_
    · unfold fX0_piece; rw [cr0_out (Or.inr h), qb_s, if_pos rfl]
    · unfold fX1_piece; rw [ql_s, in1_no (i64_out (n := 59) (by omega) rfl (Or.inr h)), qb_s, if_pos rfl]
  · have c1 := cr0_in (u := u) hj1
    have d1 : ∀ w : gS, fX1_in w (nI j1).toInt64 (0 : Int64) (59 : Int64) = some 1 := fun w => i64_in (n := 59) (by omega) rfl (by omega)
    rcases pk_ix x2 (n := 60) (by omega) with h | h | ⟨j2, hj2, rfl⟩
    · refine fin (-11) ?_ ?_
      · unfold fX0_piece; rw [c1, qb_s, if_neg i10, cr0_out (Or.inl h), qb_s, if_pos rfl]
      · unfold fX1_piece; rw [ql_s, d1, qb_s, if_neg i10, in1_no (i64_out (n := 59) (by omega) rfl (Or.inl h)), qb_s, if_pos rfl]
    · refine fin (-11) ?_ ?_
      · unfold fX0_piece; rw [c1, qb_s, if_neg i10, cr0_out (Or.inr h), qb_s, if_pos rfl]
      · unfold fX1_piece; rw [ql_s, d1, qb_s, if_neg i10, in1_no (i64_out (n := 59) (by omega) rfl (Or.inr h)), qb_s, if_pos rfl]
    · have c2 := cr0_in (u := u) hj2
      have d2 : ∀ w : gS, fX1_in w (nI j2).toInt64 (0 : Int64) (59 : Int64) = some 1 := fun w => i64_in (n := 59) (by omega) rfl (by omega)
      by_cases h3 : x3 < 1
      · refine fin (-12) ?_ ?_
        · unfold fX0_piece; rw [c1, qb_s, if_neg i10, c2, qb_s, if_neg i10, if_pos h3]
        · unfold fX1_piece; rw [ql_s, d1, qb_s, if_neg i10, d2, qb_s, if_neg i10, in1_no (Or.inl h3), qb_s, if_pos rfl]
      · by_cases h4 : 10000 < x3
        · refine fin (-12) ?_ ?_
          · unfold fX0_piece; rw [c1, qb_s, if_neg i10, c2, qb_s, if_neg i10, if_neg h3, if_pos h4]
          · unfold fX1_piece; rw [ql_s, d1, qb_s, if_neg i10, d2, qb_s, if_neg i10, in1_no (Or.inr h4), qb_s, if_pos rfl]
        · by_cases h5 : x4 < 0
          · refine fin (-12) ?_ ?_
            · unfold fX0_piece; rw [c1, qb_s, if_neg i10, c2, qb_s, if_neg i10, if_neg h3, if_neg h4, if_pos h5]
            · unfold fX1_piece; rw [ql_s, d1, qb_s, if_neg i10, d2, qb_s, if_neg i10, in1_ok h3 h4, qb_s, if_neg i10, in1_no (Or.inl h5), qb_s, if_pos rfl]
          · by_cases h6 : x4 ≤ 1000
            · have h6' : ¬ (1000 : Int64) < x4 := Int64.not_lt.mpr h6
              by_cases h7 : c 0 < 120
              · have k7 : gf u 0 < (120 : Int32) := by rw [g0]; exact nI_lt (a := c 0) (b := 120) h7 (by omega)
                have k8 : ¬ gf (sf v 0 (0 : Int32)) 1 = (120 : Int32) := fun hh => by
                  have hh : nI (c 0) = nI 120 := g1.symm.trans hh
                  have := (nI_eq (by omega) (by omega)).mp hh; omega
                by_cases h8 : x4 = 0
                · refine ⟨none, u, sf (sf v 0 0) 0 1, 0, ?_, ?_, ⟨c, a, (hR.th 0).th 1⟩, Or.inr ⟨rfl, rfl⟩⟩
                  · unfold fX0_piece; rw [c1, qb_s, if_neg i10, c2, qb_s, if_neg i10, if_neg h3, if_neg h4, if_neg h5, if_pos h6, if_pos k7, if_pos h8]
                  · unfold fX1_piece; rw [ql_s, d1, qb_s, if_neg i10, d2, qb_s, if_neg i10, in1_ok h3 h4, qb_s, if_neg i10, in1_ok h5 h6', qb_s, if_neg i10, if_neg k8, if_pos h8, ql_s, if_neg (show ¬ gf (sf (sf v 0 (0 : Int32)) 0 (1 : Int32)) 0 ≤ 0 by show ¬ (1 : Int32) ≤ 0; decide)]
                · obtain ⟨l, hl, rfl⟩ := pk_lOf (x := x3) (fun hh => h3 (Int64.lt_of_lt_of_le hh (by decide)))
                  obtain ⟨s, hs, rfl⟩ := pk_lOf h5
                  have bl : 1 ≤ l ∧ l ≤ 10000 := ⟨Nat.not_lt.mp (fun hh => h3 ((pk_lLT (b := 1) hl (by omega)).mpr hh)), Nat.not_lt.mp (fun hh => h4 ((pk_lLT (a := 10000) (by omega) hl).mpr hh))⟩
                  have bs : 1 ≤ s ∧ s ≤ 1000 := ⟨Nat.pos_of_ne_zero (fun hh => h8 (by rw [hh]; rfl)), (pk_lLE (b := 1000) hs (by omega)).mp h6⟩
                  refine ⟨some (nI (c 0)), sf (sl (sl (si (si u 0 (upd (gi u 0) (c 0) (nI j1))) 1 (upd (gi u 1) (c 0) (nI j2))) 0 (vp_updL (gl u 0) (c 0) (lN l))) 1 (vp_updL (gl u 1) (c 0) (lN s))) 0 (nI (c 0 + 1)), sf (sl (sl (si (si (sf (sf v 0 0) 0 0) 0 (upd (gi v 0) (c 0) (nI j1))) 1 (upd (gi v 1) (c 0) (nI j2))) 0 (vp_updL (gl v 0) (c 0) (lN l))) 1 (vp_updL (gl v 1) (c 0) (lN s))) 1 (nI (c 0 + 1)), nI (c 0), ?_, ?_, ?_, Or.inl ⟨rfl, rfl⟩⟩
                  · unfold fX0_piece
                    rw [c1, qb_s, if_neg i10, c2, qb_s, if_neg i10, if_neg h3, if_neg h4, if_neg h5, if_pos h6, if_pos k7, if_neg h8]
                    simp only [gf_si, gf_sl, gf_sf, gi_si, gl_si, gl_sl, g0, cl_n (show c 0 < 14500 by omega), if_neg (ix2 (show c 0 < 120 by omega) (by omega)), ql_s, nI_s, if_pos, nI_pred]
                    rfl
                  · unfold fX1_piece
                    rw [ql_s, d1, qb_s, if_neg i10, d2, qb_s, if_neg i10, in1_ok h3 h4, qb_s, if_neg i10, in1_ok h5 h6', qb_s, if_neg i10, if_neg k8, if_neg h8, ql_s, if_pos (show gf (sf (sf v 0 (0 : Int32)) 0 (0 : Int32)) 0 ≤ 0 by show (0 : Int32) ≤ 0; decide)]
                    have q1 : gf (sf (sf v 0 (0 : Int32)) 0 (0 : Int32)) 1 = nI (c 0) := g1
                    simp only [gf_si, gf_sl, gi_si, gl_si, gl_sl, q1, cl_n (show c 0 < 14500 by omega), if_neg (ix2 (show c 0 < 120 by omega) (by omega)), ql_s, nI_s]
                    have q2 : ∀ w : gS, gf (sf w 1 (nI (c 0 + 1))) 1 - (1 : Int32) = nI (c 0) := fun w => by show nI (c 0 + 1) - 1 = _; exact nI_pred _
                    rw [q2]
                    rfl
                  · exact hR.ins h7 hj1 hj2 bl bs (fun i => up_v i) (fun i => up_v i) (fun i => rfl) (fun i => rfl) (fun i => up_v i) (fun i => up_v i) (fun i => rfl) (fun i => rfl) ⟨rfl, rfl, rfl, rfl, rfl, rfl, rfl, rfl, rfl, rfl, rfl⟩ ⟨rfl, rfl, rfl, rfl, rfl, rfl, rfl, rfl, rfl, rfl⟩
              · have e7 : c 0 = 120 := by omega
                have k7 : ¬ gf u 0 < (120 : Int32) := by rw [g0, e7]; decide
                have k8 : gf (sf v 0 (0 : Int32)) 1 = (120 : Int32) := by show gf v 1 = _; rw [g1, e7]; rfl
                refine fin (-14) ?_ ?_
                · unfold fX0_piece; rw [c1, qb_s, if_neg i10, c2, qb_s, if_neg i10, if_neg h3, if_neg h4, if_neg h5, if_pos h6, if_neg k7]
                · unfold fX1_piece; rw [ql_s, d1, qb_s, if_neg i10, d2, qb_s, if_neg i10, in1_ok h3 h4, qb_s, if_neg i10, in1_ok h5 h6', qb_s, if_neg i10, if_pos k8]
            · have h6' : (1000 : Int64) < x4 := Int64.not_le.mp h6
              refine fin (-12) ?_ ?_
              · unfold fX0_piece; rw [c1, qb_s, if_neg i10, c2, qb_s, if_neg i10, if_neg h3, if_neg h4, if_neg h5, if_neg h6]
              · unfold fX1_piece; rw [ql_s, d1, qb_s, if_neg i10, d2, qb_s, if_neg i10, in1_ok h3 h4, qb_s, if_neg i10, in1_no (Or.inr h6'), qb_s, if_pos rfl]
end P1
