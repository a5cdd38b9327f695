/-! The pure side: turn and service answer alike. Own rows. -/
theorem sumE_up {d : Nat → Nat} {q b : Nat} : ∀ n, (n ≤ q → sumE (fun i => if i = q then b else d i) n = sumE d n) ∧ (q < n → sumE (fun i => if i = q then b else d i) n + d q = sumE d n + b) := by
  intro n
  induction n with
  | zero => exact ⟨fun _ => rfl, fun h => absurd h (Nat.not_lt_zero _)⟩
  | succ n ih =>
    unfold sumE
    refine ⟨fun h => ?_, fun h => ?_⟩
    · rw [ih.1 (by omega), if_neg (show ¬ n = q by omega)]
    · by_cases e : n = q
      · have := ih.1 (by omega)
        rw [if_pos e, this, e]; omega
      · have := ih.2 (by omega)
        rw [if_neg e]; omega
theorem nI_dn (s : Nat) : nI (s + 1) + (-1 : Int32) = nI s := by
  rw [← Int32.sub_eq_add_neg]; exact nI_pred s
theorem cnt_L {v : gS} {d : Nat → Nat} (hd : ∀ i, i < 14400 → gi v 2 i = nI (d i) ∧ d i ≤ 1) : ∀ m k, k ≤ 14400 → 14400 - k < m → fX1_turn_L60 m v (nI (sumE d k)) (nI k) = some (nI (sumE d 14400), v) := by
  intro m
  induction m with
  | zero => intro k _ h; omega
  | succ m ih =>
    intro k hk hm
    show fX1_turn_L60_b (fX1_turn_L60 m) v (nI (sumE d k)) (nI k) = _
    unfold fX1_turn_L60_b
    by_cases e : k = 14400
    · rw [if_pos (by rw [e]; exact Int32.le_refl _), e]
    · obtain ⟨e1, e2⟩ := hd k (by omega)
      have ih' := ih (k + 1) (by omega) (by omega)
      rw [if_neg (show ¬ (14400 : Int32) ≤ nI k from nI_ge (a := k) (b := 14400) (by omega) (by omega)), if_neg (ix_ok (show k < 14400 by omega) (by omega)), cl_n (show k < 14500 by omega), e1]
      by_cases e3 : d k = 0
      · rw [if_pos (by rw [e3]; rfl), ql_s, nI_s]
        rw [show sumE d (k + 1) = sumE d k from by show sumE d k + d k = _; omega] at ih'
        exact ih'
      · rw [if_neg (nI_ne0 (show 0 < d k by omega) (by omega)), ql_s, ql_s, nI_s, nI_s]
        rw [show sumE d (k + 1) = sumE d k + 1 from by show sumE d k + d k = _; omega] at ih'
        exact ih'
section P3
variable {c : Nat → Nat} {a : Nat → Nat → Nat} {u v : gS}
theorem Re.trn (h : Re c a u v) {w : Nat → Int64} {s : Int32} {d : Nat → Nat} {g : Nat → Int32} (h1 : ∀ f t, f < 120 → t < 120 → ((w (2 * f + t / 64)).toBitVec.getLsbD (t % 64) = true ↔ d (120 * f + t) = 1)) (h2 : ∀ k, k < 14400 → g k = nI (d k) ∧ d k ≤ 1) (h3 : s = nI (sumE d 14400)) : Rel (sf (sl u 4 w) 1 s) (si v 2 g) :=
  ⟨c, fun q => if q = 10 then d else a q, h.1, h.2.1, h.2.2.1, h.2.2.2.1, h.2.2.2.2.1, h1, h2, h3⟩
theorem Re.trn0 (h : Re c a u v) {g : Nat → Int32} (h2 : ∀ k, k < 14400 → g k = nI (a 10 k)) : Rel u (si v 2 g) :=
  ⟨c, a, h.1, h.2.1, h.2.2.1, h.2.2.2.1, h.2.2.2.2.1, h.2.2.2.2.2.1, fun k hk => ⟨h2 k hk, (h.2.2.2.2.2.2.1 k hk).2⟩, h.2.2.2.2.2.2.2⟩
theorem nar_b {b : Nat} (hb : b ≤ 1) : vp_nar .boolean (nI b) = nI b := by
  have : b = 0 ∨ b = 1 := by omega
  rcases this with rfl | rfl <;> rfl
theorem xor_bit {w m : Int64} {k i : Nat} (hk : k < 64) (hi : i < 64) (hm : m.toBitVec = BitVec.twoPow 64 k) : (w ^^^ m).toBitVec.getLsbD i = if i = k then ! w.toBitVec.getLsbD i else w.toBitVec.getLsbD i := by
  rw [Int64.toBitVec_xor, BitVec.getLsbD_xor, hm, BitVec.getLsbD_twoPow]
  by_cases e : i = k
  · rw [if_pos e, e]; simp [hk]
  · rw [if_neg e]; simp [show ¬ k = i from fun h => e h.symm]
theorem turn_all (hR : Re c a u v) (x1 x2 : Int32) {b : Nat} (hb : b ≤ 1) : ∃ r u' v', fX0_turn u x1 x2 (nI b) = some (r, u') ∧ fX1_turn v x1 x2 (nI b) = some (r, v') ∧ Rel u' v' := by
  have hn := hR.1.1
  have g0 : gf u 0 = nI (c 0) := hR.1.2.2.2.1
  have g1 : gf (sf v 0 (0 : Int32)) 1 = nI (c 0) := hR.1.2.2.2.2.1
  have fin : ∀ r : Int32, fX0_turn u x1 x2 (nI b) = some (r, u) → fX1_turn v x1 x2 (nI b) = some (r, sf v 0 0) → ∃ r u' v', fX0_turn u x1 x2 (nI b) = some (r, u') ∧ fX1_turn v x1 x2 (nI b) = some (r, v') ∧ Rel u' v' := fun r h1 h2 => ⟨r, u, sf v 0 0, h1, h2, c, a, hR.th 0⟩
  rcases in_cases x1 hn with h | ⟨f, hf, rfl⟩
  · refine fin (-11) ?_ ?_
    · unfold fX0_turn; rw [isP0_out g0 h, qb_s, if_pos rfl]
    · unfold fX1_turn; rw [ql_s, isP1_out g1 h, qb_s, if_pos rfl]
  · have p0 := isP0_in g0 hn hf
    have p1 := isP1_in g1 hn hf
    rcases in_cases x2 hn with h | ⟨t, ht, rfl⟩
    · refine fin (-11) ?_ ?_
      · unfold fX0_turn; rw [p0, qb_s, if_neg i10, isP0_out g0 h, qb_s, if_pos rfl]
      · unfold fX1_turn; rw [ql_s, p1, qb_s, if_neg i10, isP1_out g1 h, qb_s, if_pos rfl]
    · have p2 := isP0_in g0 hn ht
      have p3 := isP1_in g1 hn ht
      obtain ⟨-, ⟨e1, e2, b1⟩, -⟩ := hR.2.1 f hf
      obtain ⟨⟨e3, e4, b2⟩, -⟩ := hR.2.1 t ht
      have e2 : gi (sf v 0 (0 : Int32)) 1 f = nI (a 1 f) := e2
      have e4 : gi (sf v 0 (0 : Int32)) 0 t = nI (a 0 t) := e4
      have ixf := ix_ok (show f < 120 by omega) (by omega)
      have ixt := ix_ok (show t < 120 by omega) (by omega)
      have clf := cl_n (show f < 14500 by omega)
      have clt := cl_n (show t < 14500 by omega)
      by_cases h3 : a 1 f = a 0 t
      · have k3 : nI (a 1 f) = nI (a 0 t) := by rw [h3]
        have r6 := hR.2.2.2.2.2
        have ei : (120 : Int32) * nI f + nI t = nI (120 * f + t) := by rw [show (120 : Int32) = nI 120 from rfl, pk_mul, nI_add]
        have hq : 120 * f + t < 14400 := by omega
        have hA := (r6.2.1 (120 * f + t) hq).2
        have hg2 : ∀ k, k < 14400 → upd (gi v 2) (120 * f + t) (nI b) k = nI (if k = 120 * f + t then b else a 10 k) ∧ (if k = 120 * f + t then b else a 10 k) ≤ 1 := fun k hk => by
          rw [up_v]
          by_cases e : k = 120 * f + t
          · rw [if_pos e, if_pos e]; exact ⟨rfl, hb⟩
          · rw [if_neg e, if_neg e]; exact r6.2.1 k hk
        have hX1 : fX1_turn v (nI f) (nI t) (nI b) = some (nI (sumE (fun k => if k = 120 * f + t then b else a 10 k) 14400), si (sf v 0 0) 2 (upd (gi v 2) (120 * f + t) (nI b))) := by
          unfold fX1_turn
          rw [ql_s, p1, qb_s, if_neg i10, p3, qb_s, if_neg i10, if_neg ixf, if_neg ixt, clf, clt, e2, e4, if_pos k3, ei, if_neg (ix_ok hq (by omega)), cl_n (show 120 * f + t < 14500 by omega), nar_b hb, ql_s]
          exact cnt_L (v := si (sf v 0 0) 2 (upd (gi v 2) (120 * f + t) (nI b))) hg2 14500 0 (by omega) (by omega)
        have hU := (sumE_up (d := a 10) (q := 120 * f + t) (b := b) 14400).2 hq
        have hB := isB0 (c := c) r6 (show f < 120 by omega) (show t < 120 by omega)
        have hB2 : (if a 10 (120 * f + t) = 1 then (1 : Int32) else 0) = nI (a 10 (120 * f + t)) := by
          by_cases e : a 10 (120 * f + t) = 1
          · rw [if_pos e, e]; rfl
          · rw [if_neg e, show a 10 (120 * f + t) = 0 by omega]; rfl
        rw [hB2] at hB
        by_cases h4 : a 10 (120 * f + t) = b
        · refine ⟨_, u, _, ?_, hX1, ?_⟩
          · unfold fX0_turn
            rw [p0, qb_s, if_neg i10, p2, qb_s, if_neg i10, if_neg ixf, if_neg ixt, clf, clt, e1, e3, if_pos k3, hB, qb_s, if_pos (by rw [h4]), r6.2.2]
            rw [show sumE (fun k => if k = 120 * f + t then b else a 10 k) 14400 = sumE (a 10) 14400 by omega]
          · refine (hR.th 0).trn0 (fun k hk => ?_)
            rw [(hg2 k hk).1]
            by_cases e : k = 120 * f + t
            · rw [if_pos e, e, h4]
            · rw [if_neg e]
        · obtain ⟨m, hm, hmb⟩ := bOf (u := u) (show t < 120 by omega)
          have hw := wOf (u := u) (show f < 120 by omega) (show t < 120 by omega)
          have hbit : ∀ f' t', f' < 120 → t' < 120 → ((vp_updL (gl u 4) (2 * f + t / 64) (gl u 4 (2 * f + t / 64) ^^^ m) (2 * f' + t' / 64)).toBitVec.getLsbD (t' % 64) = true ↔ (if 120 * f' + t' = 120 * f + t then b else a 10 (120 * f' + t')) = 1) := fun f' t' hf' ht' => by
            rw [upL_v]
            have r := r6.1 f' t' hf' ht'
            by_cases e : 2 * f' + t' / 64 = 2 * f + t / 64
            · rw [if_pos e, ← e, xor_bit (Nat.mod_lt t (by omega)) (Nat.mod_lt t' (by omega)) hmb]
              by_cases e2 : t' % 64 = t % 64
              · have e3 : f' = f := by omega
                have e4 : t' = t := by omega
                rw [if_pos e2, if_pos (by omega)]
                rw [e3, e4] at r ⊢
                by_cases e5 : a 10 (120 * f + t) = 1
                · rw [r.mpr e5]; simp; omega
                · have e6 : (gl u 4 (2 * f + t / 64)).toBitVec.getLsbD (t % 64) = false := Bool.eq_false_iff.mpr (fun hh => e5 (r.mp hh))
                  rw [e6]; simp; omega
              · rw [if_neg e2, if_neg (show ¬ 120 * f' + t' = 120 * f + t by omega)]; exact r
            · have e9 : ¬ 120 * f' + t' = 120 * f + t := fun hh => by
                have h1 : f' = f := by omega
                have h2 : t' = t := by omega
                exact e (by rw [h1, h2])
              rw [if_neg e, if_neg e9]; exact r
          have i240 := ix_ok (show 2 * f + t / 64 < 240 by omega) (by omega)
          have clw := cl_n (show 2 * f + t / 64 < 14500 by omega)
          have h4' : ¬ nI (a 10 (120 * f + t)) = nI b := fun hh => h4 ((nI_eq (by omega) (by omega)).mp hh)
          have hs : gf u 1 = nI (sumE (a 10) 14400) := r6.2.2
          refine ⟨_, sf (sl u 4 (vp_updL (gl u 4) (2 * f + t / 64) (gl u 4 (2 * f + t / 64) ^^^ m))) 1 (nI (sumE (fun k => if k = 120 * f + t then b else a 10 k) 14400)), _, ?_, hX1, (hR.th 0).trn hbit hg2 rfl⟩
          unfold fX0_turn
          rw [p0, qb_s, if_neg i10, p2, qb_s, if_neg i10, if_neg ixf, if_neg ixt, clf, clt, e1, e3, if_pos k3, hB, qb_s, if_neg h4', hw, qb_s, if_neg i240, hm, qb_s, if_neg i240, clw, ql_s]
          by_cases h5 : b = 0
          · have hs2 : gf u 1 + (-1 : Int32) = nI (sumE (fun k => if k = 120 * f + t then b else a 10 k) 14400) := by
              rw [hs, show sumE (a 10) 14400 = sumE (fun k => if k = 120 * f + t then b else a 10 k) 14400 + 1 by omega]; exact nI_dn _
            rw [if_pos (show nI b = 0 by rw [h5]; rfl), ql_s, gf_sl, hs2]
            rfl
          · have hs2 : gf u 1 + (1 : Int32) = nI (sumE (fun k => if k = 120 * f + t then b else a 10 k) 14400) := by
              rw [hs, nI_s, show sumE (fun k => if k = 120 * f + t then b else a 10 k) 14400 = sumE (a 10) 14400 + 1 by omega]
            rw [if_neg (nI_ne0 (show 0 < b by omega) (by omega)), ql_s, gf_sl, hs2]
            rfl
      · have k3 : ¬ nI (a 1 f) = nI (a 0 t) := fun hh => h3 ((nI_eq (by omega) (by omega)).mp hh)
        refine fin (-13) ?_ ?_
        · unfold fX0_turn; rw [p0, qb_s, if_neg i10, p2, qb_s, if_neg i10, if_neg ixf, if_neg ixt, clf, clt, e1, e3, if_neg k3]
        · unfold fX1_turn; rw [ql_s, p1, qb_s, if_neg i10, p3, qb_s, if_neg i10, if_neg ixf, if_neg ixt, clf, clt, e2, e4, if_neg k3]
end P3
