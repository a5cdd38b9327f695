/-! The pure side: piece2, gate, change, stop answer alike. Own rows. -/
section P2
variable {c : Nat → Nat} {a : Nat → Nat → Nat} {u v : gS}
theorem piece2_all (hR : Re c a u v) (x1 : Int32) : ∃ (ro : Option Int32) (u' v' : gS) (b : Int32), fX0_piece2 u x1 = some (ro, u') ∧ fX1_piece2 v x1 = some (b, v') ∧ Rel u' v' ∧ ((ro = some b ∧ gf v' 0 = 0) ∨ (ro = none ∧ gf v' 0 = 1)) := by
  have hn := hR.1.1
  have g0 : gf u 0 = nI (c 0) := hR.1.2.2.2.1
  have g1 : gf v 1 = nI (c 0) := hR.1.2.2.2.2.1
  rcases in_cases x1 hn with h | ⟨j, hj, rfl⟩
  · refine ⟨none, u, sf v 0 1, 0, ?_, ?_, ⟨c, a, hR.th 1⟩, Or.inr ⟨rfl, rfl⟩⟩
    · unfold fX0_piece2; rw [isP0_out g0 h, qb_s, if_pos rfl]
    · unfold fX1_piece2; rw [isP1_out g1 h, qb_s, if_pos rfl, ql_s, if_neg (show ¬ gf (sf v 0 (1 : Int32)) 0 ≤ 0 by show ¬ (1 : Int32) ≤ 0; decide)]
  · obtain ⟨⟨e1, e2, -⟩, ⟨e3, e4, -⟩, -⟩ := hR.2.1 j hj
    have ix := ix_ok (show j < 120 by omega) (by omega)
    have cl := cl_n (show j < 14500 by omega)
    refine ⟨some ((60 : Int32) * nI (a 0 j) + nI (a 1 j)), u, sf v 0 0, (60 : Int32) * nI (a 0 j) + nI (a 1 j), ?_, ?_, ⟨c, a, hR.th 0⟩, Or.inl ⟨rfl, rfl⟩⟩
    · unfold fX0_piece2; rw [isP0_in g0 hn hj, qb_s, if_neg i10, if_neg ix, if_neg ix, cl, e1, e3]
    · unfold fX1_piece2; rw [isP1_in g1 hn hj, qb_s, if_neg i10, ql_s, if_pos (show gf (sf v 0 (0 : Int32)) 0 ≤ 0 by show (0 : Int32) ≤ 0; decide), if_neg ix, if_neg ix, cl, show gi (sf v 0 (0 : Int32)) 0 j = nI (a 0 j) from e2, show gi (sf v 0 (0 : Int32)) 1 j = nI (a 1 j) from e4]
theorem Re.gat (h : Re c a u v) {j o k : Nat} (hg : gt o k) : Re c (fun q => if q = 4 then (fun i => if i = j then o else a 4 i) else if q = 5 then (fun i => if i = j then k else a 5 i) else a q) (sl (sl u 2 (vp_updL (gl u 2) j (lN o))) 3 (vp_updL (gl u 3) j (lN k))) (sl (sl v 2 (vp_updL (gl v 2) j (lN o))) 3 (vp_updL (gl v 3) j (lN k))) := by
  obtain ⟨r1, r2, r3, r4, r5, r6⟩ := h
  refine ⟨r1, r2, fun i hi => ?_, r4, r5, r6⟩
  show (if i = j then lN o else gl u 2 i) = lN (if i = j then o else a 4 i) ∧ (if i = j then lN o else gl v 2 i) = lN (if i = j then o else a 4 i) ∧ (if i = j then lN k else gl u 3 i) = lN (if i = j then k else a 5 i) ∧ (if i = j then lN k else gl v 3 i) = lN (if i = j then k else a 5 i) ∧ gt (if i = j then o else a 4 i) (if i = j then k else a 5 i)
  by_cases e : i = j
  · simp only [if_pos e]; exact ⟨trivial, trivial, trivial, trivial, hg⟩
  · simp only [if_neg e]; exact r3 i hi
theorem gate_all (hR : Re c a u v) (x1 : Int32) (x2 x3 : Int64) : ∃ r u' v', fX0_gate u x1 x2 x3 = some (r, u') ∧ fX1_gate v x1 x2 x3 = some (r, v') ∧ Rel u' v' := by
  have hn := hR.1.1
  have g0 : gf u 0 = nI (c 0) := hR.1.2.2.2.1
  have g1 : gf (sf v 0 (0 : Int32)) 1 = nI (c 0) := hR.1.2.2.2.2.1
  have fin : ∀ r : Int32, fX0_gate u x1 x2 x3 = some (r, u) → fX1_gate v x1 x2 x3 = some (r, sf v 0 0) → ∃ r u' v', fX0_gate u x1 x2 x3 = some (r, u') ∧ fX1_gate v x1 x2 x3 = some (r, v') ∧ Rel u' v' := fun r h1 h2 => ⟨r, u, sf v 0 0, h1, h2, c, a, hR.th 0⟩
  rcases in_cases x1 hn with h | ⟨j, hj, rfl⟩
  · refine fin (-11) ?_ ?_
    · unfold fX0_gate; rw [isP0_out g0 h, qb_s, if_pos rfl]
    · unfold fX1_gate; rw [ql_s, isP1_out g1 h, qb_s, if_pos rfl]
  · have p0 := isP0_in g0 hn hj
    have p1 := isP1_in g1 hn hj
    have ix := ix2 (show j < 120 by omega) (by omega)
    have cl := cl_n (show j < 14500 by omega)
    have z0 : (0 : Int32) = 0 := rfl
    have fin2 : ∀ (r : Int32) (o k : Nat), x2 = lN o → x3 = lN k → gt o k → fX0_gate u (nI j) x2 x3 = some (r, sl (sl u 2 (vp_updL (gl u 2) j x2)) 3 (vp_updL (gl u 3) j x3)) → fX1_gate v (nI j) x2 x3 = some (r, sl (sl (sf v 0 0) 2 (vp_updL (gl v 2) j x2)) 3 (vp_updL (gl v 3) j x3)) → ∃ r u' v', fX0_gate u (nI j) x2 x3 = some (r, u') ∧ fX1_gate v (nI j) x2 x3 = some (r, v') ∧ Rel u' v' := fun r o k e1 e2 hg h1 h2 => ⟨r, _, _, h1, h2, by rw [e1, e2]; exact ⟨c, _, (hR.th 0).gat hg⟩⟩
    by_cases h2 : x2 = 0
    · by_cases h3 : x3 = 0
      · refine fin2 0 0 0 h2 h3 (Or.inl ⟨rfl, rfl⟩) ?_ ?_
        · unfold fX0_gate; rw [p0, qb_s, if_neg i10, if_pos h2, if_pos h3, if_neg i10, cl]; simp only [if_neg ix, ql_s, if_neg i10]; rfl
        · unfold fX1_gate; rw [ql_s, p1, qb_s, if_neg i10, if_pos h2, if_pos h3, if_neg i10, cl]; simp only [if_neg ix, ql_s, if_neg i10]; rfl
      · have h4 : ¬ x2 < 0 := by rw [h2]; decide
        by_cases h5 : x3 ≤ x2
        · refine fin (-12) ?_ ?_
          · unfold fX0_gate; rw [p0, qb_s, if_neg i10, if_pos h2, if_neg h3, if_pos z0, if_neg h4, if_pos h5]
          · unfold fX1_gate; rw [ql_s, p1, qb_s, if_neg i10, if_pos h2, if_neg h3, if_pos z0, if_neg h4, if_pos h5]
        · by_cases h6 : x3 ≤ 86400
          · obtain ⟨o, ho, e1⟩ := pk_lOf h4
            obtain ⟨k, hk, e2⟩ := pk_lOf (x := x3) (fun hh => h5 (Int64.le_of_lt (by rw [h2]; exact hh)))
            have bk : k ≤ 86400 := (pk_lLE (b := 86400) hk (by omega)).mp (by rw [← e2]; exact h6)
            have bo : o < k := Nat.not_le.mp (fun hh => h5 (by rw [e1, e2]; exact (pk_lLE hk ho).mpr hh))
            refine fin2 1 o k e1 e2 (Or.inr ⟨bo, bk⟩) ?_ ?_
            · unfold fX0_gate; rw [p0, qb_s, if_neg i10, if_pos h2, if_neg h3, if_pos z0, if_neg h4, if_neg h5, if_pos h6, cl]; simp only [if_neg ix, ql_s, if_pos]; rfl
            · unfold fX1_gate; rw [ql_s, p1, qb_s, if_neg i10, if_pos h2, if_neg h3, if_pos z0, if_neg h4, if_neg h5, if_pos h6, cl]; simp only [if_neg ix, ql_s, if_pos]; rfl
          · refine fin (-12) ?_ ?_
            · unfold fX0_gate; rw [p0, qb_s, if_neg i10, if_pos h2, if_neg h3, if_pos z0, if_neg h4, if_neg h5, if_neg h6]
            · unfold fX1_gate; rw [ql_s, p1, qb_s, if_neg i10, if_pos h2, if_neg h3, if_pos z0, if_neg h4, if_neg h5, if_neg h6]
    · by_cases h4 : x2 < 0
      · refine fin (-12) ?_ ?_
        · unfold fX0_gate; rw [p0, qb_s, if_neg i10, if_neg h2, if_pos z0, if_pos h4]
        · unfold fX1_gate; rw [ql_s, p1, qb_s, if_neg i10, if_neg h2, if_pos z0, if_pos h4]
      · by_cases h5 : x3 ≤ x2
        · refine fin (-12) ?_ ?_
          · unfold fX0_gate; rw [p0, qb_s, if_neg i10, if_neg h2, if_pos z0, if_neg h4, if_pos h5]
          · unfold fX1_gate; rw [ql_s, p1, qb_s, if_neg i10, if_neg h2, if_pos z0, if_neg h4, if_pos h5]
        · by_cases h6 : x3 ≤ 86400
          · obtain ⟨o, ho, e1⟩ := pk_lOf h4
            obtain ⟨k, hk, e2⟩ := pk_lOf (x := x3) (fun hh => h5 (Int64.le_of_lt (Int64.lt_of_lt_of_le hh (Int64.not_lt.mp h4))))
            have bk : k ≤ 86400 := (pk_lLE (b := 86400) hk (by omega)).mp (by rw [← e2]; exact h6)
            have bo : o < k := Nat.not_le.mp (fun hh => h5 (by rw [e1, e2]; exact (pk_lLE hk ho).mpr hh))
            refine fin2 1 o k e1 e2 (Or.inr ⟨bo, bk⟩) ?_ ?_
            · unfold fX0_gate; rw [p0, qb_s, if_neg i10, if_neg h2, if_pos z0, if_neg h4, if_neg h5, if_pos h6, cl]; simp only [if_neg ix, ql_s, if_pos]; rfl
            · unfold fX1_gate; rw [ql_s, p1, qb_s, if_neg i10, if_neg h2, if_pos z0, if_neg h4, if_neg h5, if_pos h6, cl]; simp only [if_neg ix, ql_s, if_pos]; rfl
          · refine fin (-12) ?_ ?_
            · unfold fX0_gate; rw [p0, qb_s, if_neg i10, if_neg h2, if_pos z0, if_neg h4, if_neg h5, if_neg h6]
            · unfold fX1_gate; rw [ql_s, p1, qb_s, if_neg i10, if_neg h2, if_pos z0, if_neg h4, if_neg h5, if_neg h6]
theorem Re.chg (h : Re c a u v) {j s : Nat} (hs : 1 ≤ s ∧ s ≤ 1000) : Re c (fun q => if q = 3 then (fun i => if i = j then s else a 3 i) else a q) (sl u 1 (vp_updL (gl u 1) j (lN s))) (sl v 1 (vp_updL (gl v 1) j (lN s))) := by
  obtain ⟨r1, r2, r3, r4, r5, r6⟩ := h
  refine ⟨r1, fun i hi => ?_, r3, r4, r5, r6⟩
  refine ⟨(r2 i hi).1, (r2 i hi).2.1, (r2 i hi).2.2.1, ?_⟩
  show (if i = j then lN s else gl u 1 i) = lN (if i = j then s else a 3 i) ∧ (if i = j then lN s else gl v 1 i) = lN (if i = j then s else a 3 i) ∧ 1 ≤ (if i = j then s else a 3 i) ∧ (if i = j then s else a 3 i) ≤ 1000
  by_cases e : i = j
  · simp only [if_pos e]; exact ⟨trivial, trivial, hs.1, hs.2⟩
  · simp only [if_neg e]; exact (r2 i hi).2.2.2
theorem change_all (hR : Re c a u v) (x1 : Int32) (x2 : Int64) : ∃ r u' v', fX0_change u x1 x2 = some (r, u') ∧ fX1_change v x1 x2 = some (r, v') ∧ Rel u' v' := by
  have hn := hR.1.1
  have g0 : gf u 0 = nI (c 0) := hR.1.2.2.2.1
  have g1 : gf (sf v 0 (0 : Int32)) 1 = nI (c 0) := hR.1.2.2.2.2.1
  have fin : ∀ r : Int32, fX0_change u x1 x2 = some (r, u) → fX1_change v x1 x2 = some (r, sf v 0 0) → ∃ r u' v', fX0_change u x1 x2 = some (r, u') ∧ fX1_change v x1 x2 = some (r, v') ∧ Rel u' v' := fun r h1 h2 => ⟨r, u, sf v 0 0, h1, h2, c, a, hR.th 0⟩
  rcases in_cases x1 hn with h | ⟨j, hj, rfl⟩
  · refine fin (-11) ?_ ?_
    · unfold fX0_change; rw [isP0_out g0 h, qb_s, if_pos rfl]
    · unfold fX1_change; rw [ql_s, isP1_out g1 h, qb_s, if_pos rfl]
  · have p0 := isP0_in g0 hn hj
    have p1 := isP1_in g1 hn hj
    have ix := ix2 (show j < 120 by omega) (by omega)
    have cl := cl_n (show j < 14500 by omega)
    obtain ⟨-, -, -, e1, e2, -⟩ := hR.2.1 j hj
    by_cases h3 : x2 < 1
    · refine fin (-12) ?_ ?_
      · unfold fX0_change; rw [p0, qb_s, if_neg i10, if_pos h3]
      · unfold fX1_change; rw [ql_s, p1, qb_s, if_neg i10, in1_no (Or.inl h3), qb_s, if_pos rfl]
    · by_cases h4 : x2 ≤ 1000
      · obtain ⟨s, hs, e3⟩ := pk_lOf (x := x2) (fun hh => h3 (Int64.lt_of_lt_of_le hh (by decide)))
        have bs : 1 ≤ s ∧ s ≤ 1000 := ⟨Nat.not_lt.mp (fun hh => h3 (by rw [e3]; exact (pk_lLT (b := 1) hs (by omega)).mpr hh)), (pk_lLE (b := 1000) hs (by omega)).mp (by rw [← e3]; exact h4)⟩
        refine ⟨(lN (a 3 j)).toInt32, sl u 1 (vp_updL (gl u 1) j x2), sl (sf v 0 0) 1 (vp_updL (gl v 1) j x2), ?_, ?_, ?_⟩
        · unfold fX0_change; rw [p0, qb_s, if_neg i10, if_neg h3, if_pos h4, cl]; simp only [if_neg ix, ql_s, e1]
        · have e2 : gl (sf v 0 (0 : Int32)) 1 j = lN (a 3 j) := e2
          unfold fX1_change; rw [ql_s, p1, qb_s, if_neg i10, in1_ok h3 (Int64.not_lt.mpr h4), qb_s, if_neg i10, cl]; simp only [if_neg ix, ql_s, e2]; rfl
        · rw [e3]; exact ⟨c, _, (hR.th 0).chg bs⟩
      · refine fin (-12) ?_ ?_
        · unfold fX0_change; rw [p0, qb_s, if_neg i10, if_neg h3, if_neg h4]
        · unfold fX1_change; rw [ql_s, p1, qb_s, if_neg i10, in1_no (Or.inr (Int64.not_le.mp h4)), qb_s, if_pos rfl]
theorem Re.sto (h : Re c a u v) (hn : c 1 < 100) {j s m : Nat} (hj : j < c 0) (hs : s ≤ 1) (hm : m ≤ a 2 j) : Rel (sf (sl (si (si u 2 (upd (gi u 2) (c 1) (nI j))) 3 (upd (gi u 3) (c 1) (nI s))) 5 (vp_updL (gl u 5) (c 1) (lN m))) 2 (nI (c 1 + 1))) (sf (sl (si (si v 3 (upd (gi v 3) (c 1) (nI j))) 4 (upd (gi v 4) (c 1) (nI s))) 4 (vp_updL (gl v 4) (c 1) (lN m))) 2 (nI (c 1 + 1))) := by
  obtain ⟨⟨a1, a2, a3, a4, a5, a6, a7, a8, a9⟩, r2, r3, r4, r5, r6⟩ := h
  refine ⟨fun k => if k = 1 then c 1 + 1 else c k, fun q => if q = 6 then (fun i => if i = c 1 then j else a 6 i) else if q = 7 then (fun i => if i = c 1 then s else a 7 i) else if q = 8 then (fun i => if i = c 1 then m else a 8 i) else a q, ⟨a1, ?_, a3, a4, a5, rfl, rfl, a8, a9⟩, r2, r3, fun i hi => ?_, r5, r6⟩
  · show c 1 + 1 ≤ 100; omega
  · have hi : i < c 1 + 1 := hi
    show (upd (gi u 2) (c 1) (nI j) i = nI (if i = c 1 then j else a 6 i) ∧ upd (gi v 3) (c 1) (nI j) i = nI (if i = c 1 then j else a 6 i) ∧ (if i = c 1 then j else a 6 i) < c 0) ∧ (upd (gi u 3) (c 1) (nI s) i = nI (if i = c 1 then s else a 7 i) ∧ upd (gi v 4) (c 1) (nI s) i = nI (if i = c 1 then s else a 7 i) ∧ (if i = c 1 then s else a 7 i) ≤ 1) ∧ ((if i = c 1 then lN m else gl u 5 i) = lN (if i = c 1 then m else a 8 i) ∧ (if i = c 1 then lN m else gl v 4 i) = lN (if i = c 1 then m else a 8 i) ∧ (if i = c 1 then m else a 8 i) ≤ a 2 (if i = c 1 then j else a 6 i))
    simp only [up_v]
    by_cases e : i = c 1
    · simp only [if_pos e]; exact ⟨⟨trivial, trivial, hj⟩, ⟨trivial, trivial, hs⟩, trivial, trivial, hm⟩
    · simp only [if_neg e]; exact r4 i (by omega)
theorem stop_all (hR : Re c a u v) (x1 x2 : Int32) (x3 : Int64) : ∃ r u' v', fX0_stop u x1 x2 x3 = some (r, u') ∧ fX1_stop v x1 x2 x3 = some (r, v') ∧ Rel u' v' := by
  have hn := hR.1.1
  have hn2 := hR.1.2.1
  have g0 : gf u 0 = nI (c 0) := hR.1.2.2.2.1
  have g1 : gf (sf v 0 (0 : Int32)) 1 = nI (c 0) := hR.1.2.2.2.2.1
  have s0 : gf u 2 = nI (c 1) := hR.1.2.2.2.2.2.1
  have s1 : gf (sf v 0 (0 : Int32)) 2 = nI (c 1) := hR.1.2.2.2.2.2.2.1
  have fin : ∀ r : Int32, fX0_stop u x1 x2 x3 = some (r, u) → fX1_stop v x1 x2 x3 = some (r, sf v 0 0) → ∃ r u' v', fX0_stop u x1 x2 x3 = some (r, u') ∧ fX1_stop v x1 x2 x3 = some (r, v') ∧ Rel u' v' := fun r h1 h2 => ⟨r, u, sf v 0 0, h1, h2, c, a, hR.th 0⟩
  rcases in_cases x1 hn with h | ⟨j, hj, rfl⟩
  · refine fin (-11) ?_ ?_
    · unfold fX0_stop; rw [isP0_out g0 h, qb_s, if_pos rfl]
    · unfold fX1_stop; rw [ql_s, isP1_out g1 h, qb_s, if_pos rfl]
  · have p0 := isP0_in g0 hn hj
    have p1 := isP1_in g1 hn hj
    have ix := ix_ok (show j < 120 by omega) (by omega)
    have cl := cl_n (show j < 14500 by omega)
    obtain ⟨-, -, ⟨e1, e2, b1, b2⟩, -⟩ := hR.2.1 j hj
    have e2 : gl (sf v 0 (0 : Int32)) 0 j = lN (a 2 j) := e2
    rcases pk_ix x2 (n := 2) (by omega) with h | h | ⟨s, hs, rfl⟩
    · refine fin (-12) ?_ ?_
      · unfold fX0_stop; rw [p0, qb_s, if_neg i10, if_pos h]
      · unfold fX1_stop; rw [ql_s, p1, qb_s, if_neg i10, in1_no (i64_out (n := 1) (by omega) rfl (Or.inl h)), qb_s, if_pos rfl]
    · have h1 : (2 : Int32).toInt ≤ x2.toInt := Int32.le_iff_toInt_le.mp h
      have h1 : (2 : Int) ≤ x2.toInt := h1
      have k1 : ¬ x2 < 0 := fun hh => by have h2 : x2.toInt < (0 : Int) := Int32.lt_iff_toInt_lt.mp hh; omega
      have k2 : (1 : Int32) < x2 := Int32.lt_iff_toInt_lt.mpr (show (1 : Int) < x2.toInt by omega)
      refine fin (-12) ?_ ?_
      · unfold fX0_stop; rw [p0, qb_s, if_neg i10, if_neg k1, if_pos k2]
      · unfold fX1_stop; rw [ql_s, p1, qb_s, if_neg i10, in1_no (i64_out (n := 1) (by omega) rfl (Or.inr h)), qb_s, if_pos rfl]
    · have k1 : ¬ nI s < 0 := nI_pos (by omega)
      have k2 : ¬ (1 : Int32) < nI s := by
        have : s = 0 ∨ s = 1 := by omega
        rcases this with rfl | rfl <;> decide
      have d1 : ∀ w : gS, fX1_in w (nI s).toInt64 (0 : Int64) (1 : Int64) = some 1 := fun w => i64_in (n := 1) (by omega) rfl (by omega)
      by_cases h3 : x3 < 0
      · refine fin (-12) ?_ ?_
        · unfold fX0_stop; rw [p0, qb_s, if_neg i10, if_neg k1, if_neg k2, if_pos h3]
        · unfold fX1_stop; rw [ql_s, p1, qb_s, if_neg i10, d1, qb_s, if_neg i10, if_neg ix, in1_no (Or.inl h3), qb_s, if_pos rfl]
      · by_cases h4 : x3 ≤ lN (a 2 j)
        · obtain ⟨m, hm, e3⟩ := pk_lOf h3
          have bm : m ≤ a 2 j := (pk_lLE hm (by omega)).mp (by rw [← e3]; exact h4)
          have d2 : ∀ w : gS, fX1_in w x3 (0 : Int64) (lN (a 2 j)) = some 1 := fun w => in1_ok h3 (Int64.not_lt.mpr h4)
          by_cases h5 : c 1 < 100
          · have k3 : gf u 2 < (100 : Int32) := by rw [s0]; exact nI_lt (a := c 1) (b := 100) h5 (by omega)
            have k4 : ¬ gf (sf v 0 (0 : Int32)) 2 = (100 : Int32) := fun hh => by
              have hh : nI (c 1) = nI 100 := s1.symm.trans hh
              have := (nI_eq (by omega) (by omega)).mp hh; omega
            refine ⟨nI (c 1), sf (sl (si (si u 2 (upd (gi u 2) (c 1) (nI j))) 3 (upd (gi u 3) (c 1) (nI s))) 5 (vp_updL (gl u 5) (c 1) x3)) 2 (nI (c 1 + 1)), sf (sl (si (si (sf v 0 0) 3 (upd (gi v 3) (c 1) (nI j))) 4 (upd (gi v 4) (c 1) (nI s))) 4 (vp_updL (gl v 4) (c 1) x3)) 2 (nI (c 1 + 1)), ?_, ?_, ?_⟩
            · unfold fX0_stop; rw [p0, qb_s, if_neg i10, if_neg k1, if_neg k2, if_neg h3, if_neg ix, cl, e1, if_pos h4, if_pos k3]
              simp only [gf_si, gf_sl, s0, cl_n (show c 1 < 14500 by omega), if_neg (ix2 (show c 1 < 100 by omega) (by omega)), ql_s, nI_s]
              have q2 : ∀ w : gS, gf (sf w 2 (nI (c 1 + 1))) 2 - (1 : Int32) = nI (c 1) := fun w => by show nI (c 1 + 1) - 1 = _; exact nI_pred _
              rw [q2]
              rfl
            · unfold fX1_stop; rw [ql_s, p1, qb_s, if_neg i10, d1, qb_s, if_neg i10, if_neg ix, cl, e2, d2, qb_s, if_neg i10, if_neg k4]
              simp only [gf_si, gf_sl, s1, cl_n (show c 1 < 14500 by omega), if_neg (ix2 (show c 1 < 100 by omega) (by omega)), ql_s, nI_s]
              have q2 : ∀ w : gS, gf (sf w 2 (nI (c 1 + 1))) 2 - (1 : Int32) = nI (c 1) := fun w => by show nI (c 1 + 1) - 1 = _; exact nI_pred _
              rw [q2]
              rfl
            · rw [e3]; exact (hR.th 0).sto h5 hj (by omega) bm
          · have e7 : c 1 = 100 := by omega
            have k3 : ¬ gf u 2 < (100 : Int32) := by rw [s0, e7]; decide
            have k4 : gf (sf v 0 (0 : Int32)) 2 = (100 : Int32) := by rw [s1, e7]; rfl
            refine fin (-14) ?_ ?_
            · unfold fX0_stop; rw [p0, qb_s, if_neg i10, if_neg k1, if_neg k2, if_neg h3, if_neg ix, cl, e1, if_pos h4, if_neg k3]
            · unfold fX1_stop; rw [ql_s, p1, qb_s, if_neg i10, d1, qb_s, if_neg i10, if_neg ix, cl, e2, d2, qb_s, if_neg i10, if_pos k4]
        · refine fin (-12) ?_ ?_
          · unfold fX0_stop; rw [p0, qb_s, if_neg i10, if_neg k1, if_neg k2, if_neg h3, if_neg ix, cl, e1, if_neg h4]
          · unfold fX1_stop; rw [ql_s, p1, qb_s, if_neg i10, d1, qb_s, if_neg i10, if_neg ix, cl, e2, in1_no (Or.inr (Int64.not_le.mp h4)), qb_s, if_pos rfl]
end P2
