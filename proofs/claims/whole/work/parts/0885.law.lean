/-! The pure side: the law's loop finds every answer alike. Own rows. -/
theorem go2 {F G : Option (Int32 × gS)} {rc : gS → gS → Option Unit} (h : ∃ r u' v', F = some (r, u') ∧ G = some (r, v') ∧ Rel u' v') (hrc : ∀ u' v', Rel u' v' → rc u' v' = some ()) : (q_b2 F fun r u' => q_b2 G fun r' v' => if r = r' then rc u' v' else none) = some () := by
  obtain ⟨r, u', v', h1, h2, h3⟩ := h
  rw [h1, qb2_s, h2, qb2_s, if_pos rfl]
  exact hrc u' v' h3
theorem go3 {F G : Option (Int64 × gS)} {rc : gS → gS → Option Unit} (h : ∃ r u' v', F = some (r, u') ∧ G = some (r, v') ∧ Rel u' v') (hrc : ∀ u' v', Rel u' v' → rc u' v' = some ()) : (q_b2 F fun r u' => q_b2 G fun r' v' => if r = r' then rc u' v' else none) = some () := by
  obtain ⟨r, u', v', h1, h2, h3⟩ := h
  rw [h1, qb2_s, h2, qb2_s, if_pos rfl]
  exact hrc u' v' h3
theorem go1 {u : gS} {F : Option Int32} {G : Option (Int32 × gS)} {rc : gS → Option Unit} (h : ∃ r v', F = some r ∧ G = some (r, v') ∧ Rel u v') (hrc : ∀ v', Rel u v' → rc v' = some ()) : (q_b F fun r => q_b2 G fun r' v' => if r = r' then rc v' else none) = some () := by
  obtain ⟨r, v', h1, h2, h3⟩ := h
  rw [h1, qb_s, h2, qb2_s, if_pos rfl]
  exact hrc v' h3
theorem goP {u : gS} {f : Nat → Int64} {F : Option (Option Int32 × gS)} {G : Option (Int32 × gS)} {rc : gS → gS → (Nat → Int64) → Option Unit} (h : ∃ (ro : Option Int32) (u' v' : gS) (b : Int32), F = some (ro, u') ∧ G = some (b, v') ∧ Rel u' v' ∧ ((ro = some b ∧ gf v' 0 = 0) ∨ (ro = none ∧ gf v' 0 = 1))) (hrc : ∀ u' v' f', Rel u' v' → rc u' v' f' = some ()) :
    (q_b2 (q_b2 F fun ro u' => some (fL_out (u, f) ro u')) fun r3 w5 => q_b2 G fun r6 u8 => q_b (fX1_thrown u8) fun r9 => if r9 = r3 then (if r3 = 0 then (if (0 : Int32) < 0 ∨ 1 ≤ (0 : Int32).toNatClampNeg then none else if (w5.2 (0 : Int32).toNatClampNeg) = r6.toInt64 then rc w5.1 u8 w5.2 else none) else rc w5.1 u8 w5.2) else none) = some () := by
  obtain ⟨ro, u', v', b, h1, h2, h3, ⟨rfl, h4⟩ | ⟨rfl, h4⟩⟩ := h
  · rw [h1, qb2_s]
    show (q_b2 G fun r6 u8 => q_b (fX1_thrown u8) fun r9 => if r9 = 0 then (if (0 : Int32) = 0 then (if (0 : Int32) < 0 ∨ 1 ≤ (0 : Int32).toNatClampNeg then none else if (vp_updL f (0 : Int32).toNatClampNeg b.toInt64 (0 : Int32).toNatClampNeg) = r6.toInt64 then rc u' u8 (vp_updL f (0 : Int32).toNatClampNeg b.toInt64) else none) else rc u' u8 (vp_updL f (0 : Int32).toNatClampNeg b.toInt64)) else none) = some ()
    rw [h2, qb2_s]
    unfold fX1_thrown
    rw [qb_s, h4, if_pos rfl, if_pos rfl, if_neg (by decide), if_pos (by rw [upL_v, if_pos rfl])]
    exact hrc _ _ _ h3
  · rw [h1, qb2_s]
    show (q_b2 G fun r6 u8 => q_b (fX1_thrown u8) fun r9 => if r9 = 1 then (if (1 : Int32) = 0 then (if (0 : Int32) < 0 ∨ 1 ≤ (0 : Int32).toNatClampNeg then none else if (f (0 : Int32).toNatClampNeg) = r6.toInt64 then rc u' u8 f else none) else rc u' u8 f) else none) = some ()
    rw [h2, qb2_s]
    unfold fX1_thrown
    rw [qb_s, h4, if_pos rfl, if_neg i10]
    exact hrc _ _ _ h3
theorem lim7 {L i : Nat} (hL : L ≤ 3584) (hi : i ≤ L) : (Int32.ofNat L - (7 : Int32) < nI i) ↔ L < i + 7 := by
  show nI L - (7 : Int32) < nI i ↔ _
  rw [Int32.lt_iff_toInt_lt, Int32.toInt_sub, nI_toInt (by omega), nI_toInt (by omega), show (7 : Int32).toInt = 7 from rfl]
  have hb : ((L : Int) - 7).bmod (2 ^ 32) = (L : Int) - 7 := by
    rw [Int.bmod_def]; omega
  rw [hb]
  omega
theorem law_go {L : Nat} {xs : Nat → Int32} (hL : L ≤ 3584) : ∀ (n i : Nat) (u v : gS) (f : Nat → Int64), Rel u v → i ≤ L → L < i + 7 * n → fL_L K9 xs L n u v f (nI i) = some () := by
  intro n
  induction n with
  | zero => intro i u v f _ h1 h2; omega
  | succ n ih =>
    intro i u v f hRl hi hn
    show fL_b K9 xs L (fL_L K9 xs L n) u v f (nI i) = some ()
    unfold fL_b
    by_cases h : L < i + 7
    · rw [if_pos ((lim7 hL hi).mpr h)]
    · obtain ⟨c, a, hR⟩ := hRl
      have e7 : nI i + (7 : Int32) = nI (i + 7) := nI_add i 7
      have gd : ∀ k, k < 7 → ¬ (nI i + nI k < 0 ∨ L ≤ (nI i + nI k).toNatClampNeg) := fun k hk => by
        rw [nI_add]; exact ix_ok (show i + k < L by omega) (by omega)
      have g1 : ¬ (nI i + (1 : Int32) < 0 ∨ L ≤ (nI i + (1 : Int32)).toNatClampNeg) := gd 1 (by omega)
      have g2 : ¬ (nI i + (2 : Int32) < 0 ∨ L ≤ (nI i + (2 : Int32)).toNatClampNeg) := gd 2 (by omega)
      have g3 : ¬ (nI i + (3 : Int32) < 0 ∨ L ≤ (nI i + (3 : Int32)).toNatClampNeg) := gd 3 (by omega)
      have g4 : ¬ (nI i + (4 : Int32) < 0 ∨ L ≤ (nI i + (4 : Int32)).toNatClampNeg) := gd 4 (by omega)
      have g5 : ¬ (nI i + (5 : Int32) < 0 ∨ L ≤ (nI i + (5 : Int32)).toNatClampNeg) := gd 5 (by omega)
      have g6 : ¬ (nI i + (6 : Int32) < 0 ∨ L ≤ (nI i + (6 : Int32)).toNatClampNeg) := gd 6 (by omega)
      have ih2 : ∀ u' v' f', Rel u' v' → fL_L K9 xs L n u' v' f' (nI (i + 7)) = some () := fun u' v' f' hr => ih (i + 7) u' v' f' hr (by omega) (by omega)
      rw [if_neg (fun hh => h ((lim7 hL hi).mp hh)), if_neg (ix_ok (show i < L by omega) (by omega)), e7]
      by_cases q0 : xs (nI i).toNatClampNeg &&& (15 : Int32) = 0
      · rw [if_pos q0]
        simp only [if_neg g1, if_neg g2, if_neg g3, if_neg g4, if_neg g5, if_neg g6, ql_s]
        exact goP (rc := fun u' v' f' => fL_L K9 xs L n u' v' f' (nI (i + 7))) (piece_all hR _ _ _ _) ih2
      rw [if_neg q0]
      by_cases q1 : xs (nI i).toNatClampNeg &&& (15 : Int32) = 1
      · rw [if_pos q1]
        have t0 : ∀ x y, ∃ r u' v', fX0_turn u x y (0 : Int32) = some (r, u') ∧ fX1_turn v x y (0 : Int32) = some (r, v') ∧ Rel u' v' := fun x y => turn_all hR x y (b := 0) (by omega)
        have t1 : ∀ x y, ∃ r u' v', fX0_turn u x y (1 : Int32) = some (r, u') ∧ fX1_turn v x y (1 : Int32) = some (r, v') ∧ Rel u' v' := fun x y => turn_all hR x y (b := 1) (by omega)
        by_cases hz : xs (nI i + (3 : Int32)).toNatClampNeg = 0
        · simp only [if_neg g1, if_neg g2, if_neg g3, if_pos hz, ql_s]
          exact go2 (t0 _ _) (fun u' v' hr => ih2 u' v' f hr)
        · simp only [if_neg g1, if_neg g2, if_neg g3, if_neg hz, ql_s]
          exact go2 (t1 _ _) (fun u' v' hr => ih2 u' v' f hr)
      rw [if_neg q1]
      by_cases q2 : xs (nI i).toNatClampNeg &&& (15 : Int32) = 2
      · rw [if_pos q2]
        simp only [if_neg g1, if_neg g2, if_neg g3, if_neg g4, ql_s]
        exact go2 (stop_all hR _ _ _) (fun u' v' hr => ih2 u' v' f hr)
      rw [if_neg q2]
      by_cases q3 : xs (nI i).toNatClampNeg &&& (15 : Int32) = 3
      · rw [if_pos q3]
        simp only [if_neg g1, if_neg g2, if_neg g3, if_neg g4, ql_s]
        refine go3 ?_ (fun u' v' hr => ih2 u' v' f hr)
        obtain ⟨r, u', v', h1, h2, h3⟩ := way_all hR (xs (nI i + (1 : Int32)).toNatClampNeg) (xs (nI i + (2 : Int32)).toNatClampNeg) ((((xs (nI i + (3 : Int32)).toNatClampNeg).toInt64) <<< ((32 : Int32).toInt64 &&& 63)) ||| (((xs (nI i + (4 : Int32)).toNatClampNeg).toInt64) &&& (4294967295 : Int64)))
        exact ⟨r, u', v', h1, h2, h3.rel⟩
      rw [if_neg q3]
      by_cases q4 : xs (nI i).toNatClampNeg &&& (15 : Int32) = 4
      · rw [if_pos q4]
        simp only [if_neg g1, ql_s]
        refine go1 ?_ (fun v' hr => ih2 u v' f hr)
        obtain ⟨r, v', h1, h2, h3⟩ := step_all hR (xs (nI i + (1 : Int32)).toNatClampNeg)
        exact ⟨r, v', h1, h2, c, a, h3⟩
      rw [if_neg q4]
      by_cases q5 : xs (nI i).toNatClampNeg &&& (15 : Int32) = 5
      · rw [if_pos q5]
        simp only [if_neg g1, if_neg g2, if_neg g3, if_neg g4, if_neg g5, ql_s]
        exact go2 (gate_all hR _ _ _) (fun u' v' hr => ih2 u' v' f hr)
      rw [if_neg q5]
      by_cases q6 : xs (nI i).toNatClampNeg &&& (15 : Int32) = 6
      · rw [if_pos q6]
        simp only [if_neg g1, if_neg g2, if_neg g3, ql_s]
        exact go2 (change_all hR _ _) (fun u' v' hr => ih2 u' v' f hr)
      rw [if_neg q6]
      by_cases q7 : xs (nI i).toNatClampNeg &&& (15 : Int32) = 7
      · rw [if_pos q7]
        simp only [if_neg g1, if_neg g2, ql_s]
        refine go3 ?_ (fun u' v' hr => ih2 u' v' f hr)
        obtain ⟨r, u', v', h1, h2, h3⟩ := table_all hR (xs (nI i + (1 : Int32)).toNatClampNeg) (xs (nI i + (2 : Int32)).toNatClampNeg)
        exact ⟨r, u', v', h1, h2, h3.rel⟩
      rw [if_neg q7]
      by_cases q8 : xs (nI i).toNatClampNeg &&& (15 : Int32) = 8
      · rw [if_pos q8]
        simp only [if_neg g1, ql_s]
        exact goP (rc := fun u' v' f' => fL_L K9 xs L n u' v' f' (nI (i + 7))) (piece2_all hR _) ih2
      rw [if_neg q8]
      by_cases q9 : xs (nI i).toNatClampNeg &&& (15 : Int32) = 9
      · rw [if_pos q9]
        simp only [if_neg g1, if_neg g2, ql_s]
        exact go1 (service_all hR _ _) (fun v' hr => ih2 u v' f hr)
      rw [if_neg q9, ql_s]
      exact ih2 u v f ⟨c, a, hR⟩
theorem sumE_z : ∀ n, sumE (fun _ => 0) n = 0 := by
  intro n
  induction n with
  | zero => rfl
  | succ n ih => show sumE (fun _ => 0) n + 0 = 0; rw [ih]
theorem rel_0 : Rel g0 g0 := by
  refine ⟨fun _ => 0, fun _ _ => 0, ⟨Nat.zero_le _, Nat.zero_le _, Nat.zero_le _, rfl, rfl, rfl, rfl, rfl, rfl⟩, fun i hi => absurd hi (Nat.not_lt_zero _), fun i _ => ⟨rfl, rfl, rfl, rfl, Or.inl ⟨rfl, rfl⟩⟩, fun i hi => absurd hi (Nat.not_lt_zero _), fun i hi => absurd hi (Nat.not_lt_zero _), fun f t _ _ => ?_, fun k _ => ⟨rfl, Nat.zero_le _⟩, ?_⟩
  · have e : (gl g0 4 (2 * f + t / 64)).toBitVec = 0#64 := rfl
    rw [e, BitVec.getLsbD_zero]
    exact ⟨fun h => (by cases h), fun h => absurd (show (0 : Nat) = 1 from h) (by decide)⟩
  · rw [sumE_z]; rfl
