/-! The pure side: the class's way. Own rows. -/
theorem pb0 {c : Nat → Nat} {a : Nat → Nat → Nat} {u v : gS} {E D : Nat → Nat} (hR : Re c a u v) (hH : HE (c 0) E D u) {p : Nat} (hp : p < c 0) : ∀ (m j : Nat), j ≤ c 0 → c 0 - j < m → (∀ q, q < j → ¬ (gG a q p ∧ gEn a p (D q) = E p)) →
    (∃ q, fX0_pieceBefore_L2 m u (nI p) (nI j) = some (nI q) ∧ q < c 0 ∧ (gG a q p ∧ gEn a p (D q) = E p) ∧ ∀ q', q' < q → ¬ (gG a q' p ∧ gEn a p (D q') = E p)) ∨ (fX0_pieceBefore_L2 m u (nI p) (nI j) = some (-1) ∧ ∀ q, q < c 0 → ¬ (gG a q p ∧ gEn a p (D q) = E p)) := by
  have hI : INF = 4000000000000000000 := rfl
  intro m
  induction m with
  | zero => intro j _ h; omega
  | succ m ih =>
    intro j hj hm hq
    have hn := hR.1.1
    have hg := hR.1.2.2.2.1
    show (∃ q, fX0_pieceBefore_L2_b (fX0_pieceBefore_L2 m) u (nI p) (nI j) = some (nI q) ∧ _) ∨ (fX0_pieceBefore_L2_b (fX0_pieceBefore_L2 m) u (nI p) (nI j) = some (-1) ∧ _)
    unfold fX0_pieceBefore_L2_b
    rw [hg]
    by_cases e : j = c 0
    · rw [if_pos (by rw [e]; exact Int32.le_refl _)]
      exact Or.inr ⟨rfl, fun q h => hq q (by omega)⟩
    · have hj0 : j < c 0 := by omega
      obtain ⟨x6, -, x8, -⟩ := hH p hp
      obtain ⟨-, y7, -, y8⟩ := hH j hj0
      rw [if_neg (nI_ge hj0 (by omega))]
      have el := gEn_le hR (t := D j) hp
      simp only [cl_n (show j < 14500 by omega), cl_n (show p < 14500 by omega), if_neg (ix2 (show j < 120 by omega) (by omega)), if_neg (ix2 (show p < 120 by omega) (by omega)), ql_s, nI_s, x6, y7]
      rcases may0 hR hj0 hp with ⟨hgo, hm0⟩ | ⟨hgo, hm0⟩
      · rw [hm0, qb_s, if_neg i10, ent0 hR hp (show D j < 2 ^ 62 by omega), qb_s]
        by_cases he : gEn a p (D j) = E p
        · rw [if_pos (by rw [he])]
          exact Or.inl ⟨j, rfl, hj0, ⟨hgo, he⟩, hq⟩
        · rw [if_neg (fun hh => he ((pk_lEQ (by omega) (by omega)).mp hh))]
          exact ih (j + 1) (by omega) (by omega) (lt_s (p := fun q => ¬ (gG a q p ∧ gEn a p (D q) = E p)) hq (fun h => he h.2))
      · rw [hm0, qb_s, if_pos rfl]
        exact ih (j + 1) (by omega) (by omega) (lt_s (p := fun q => ¬ (gG a q p ∧ gEn a p (D q) = E p)) hq (fun h => hgo h.1))
/-- the way back from p by the least piece before, till the first piece -/
def pre9 (go : Nat → Nat → Prop) (en : Nat → Nat → Nat) (E D : Nat → Nat) (q p : Nat) : Prop := (go q p ∧ en p (D q) = E p) ∧ ∀ q', q' < q → ¬ (go q' p ∧ en p (D q') = E p)
def Chn (n : Nat) (go : Nat → Nat → Prop) (en : Nat → Nat → Nat) (fi : Nat) (E D : Nat → Nat) (p K : Nat) (ch : Nat → Nat) : Prop :=
  2 ≤ K ∧ ch 0 = p ∧ (∀ i, i + 1 < K → ch (i + 1) < n ∧ pre9 go en E D (ch (i + 1)) (ch i) ∧ E (ch i) ≤ E p ∧ E (ch i) < INF ∧ ch i < n) ∧ ch (K - 1) = fi ∧ ∀ i, 1 ≤ i → i + 1 < K → ch i ≠ fi
theorem chn_ex {n : Nat} {go : Nat → Nat → Prop} {en : Nat → Nat → Nat} {le : Nat → Nat} {fi fd : Nat} {E D : Nat → Nat} (hG : GH n en le) (hb : SolB n go en E D) (hc : SolC n le fi fd E D) : ∀ (N p : Nat), p < n → E p < INF → cntL E (E p) n ≤ N → ∃ K ch, K ≤ N + 2 ∧ Chn n go en fi E D p K ch := by
  intro N
  induction N with
  | zero =>
    intro p hp hI hN
    obtain ⟨q0, h0, h1, h2, h3⟩ := hb p hp hI
    obtain ⟨q, hq, hmin⟩ := pk_least (fun q => q < n ∧ go q p ∧ D q < INF ∧ E p = en p (D q)) ⟨q0, h0, h1, h2, h3⟩
    obtain ⟨hqn, hgo, hD, he⟩ := hq
    have hD2 : D q ≤ E p := by rw [he]; exact hG.1 p (D q) hp
    have hf : q = fi := by
      by_cases hf : q = fi
      · exact hf
      · have e1 := hc.1 q hqn hf
        have h4 := hG.2.2 q hqn
        have := cntL_lt E (t := E p) (q := q) (by omega) n hqn
        omega
    have hpre : pre9 go en E D q p := ⟨⟨hgo, he.symm⟩, fun q' hq' hh => by
      have := hG.1 p (D q') hp
      exact hmin q' hq' ⟨by omega, hh.1, by omega, hh.2.symm⟩⟩
    subst hf
    refine ⟨2, fun i => if i = 0 then p else q, Nat.le_refl _, Nat.le_refl _, rfl, fun i hi => ?_, rfl, fun i h1 h2 => by omega⟩
    have : i = 0 := by omega
    subst this
    exact ⟨hqn, hpre, Nat.le_refl _, hI, hp⟩
  | succ N ih =>
    intro p hp hI hN
    obtain ⟨q0, h0, h1, h2, h3⟩ := hb p hp hI
    obtain ⟨q, hq, hmin⟩ := pk_least (fun q => q < n ∧ go q p ∧ D q < INF ∧ E p = en p (D q)) ⟨q0, h0, h1, h2, h3⟩
    obtain ⟨hqn, hgo, hD, he⟩ := hq
    have hD2 : D q ≤ E p := by rw [he]; exact hG.1 p (D q) hp
    have hpre : pre9 go en E D q p := ⟨⟨hgo, he.symm⟩, fun q' hq' hh => by
      have := hG.1 p (D q') hp
      exact hmin q' hq' ⟨by omega, hh.1, by omega, hh.2.symm⟩⟩
    by_cases hf : q = fi
    · subst hf
      refine ⟨2, fun i => if i = 0 then p else q, by omega, Nat.le_refl _, rfl, fun i hi => ?_, rfl, fun i h1 h2 => by omega⟩
      have : i = 0 := by omega
      subst this
      exact ⟨hqn, hpre, Nat.le_refl _, hI, hp⟩
    · have e1 := hc.1 q hqn hf
      have h4 := hG.2.2 q hqn
      have hlt : E q < E p := by omega
      have := cntL_lt E (t := E p) (q := q) hlt n hqn
      obtain ⟨K, ch, hK, k1, k2, k3, k4, k5⟩ := ih q hqn (by omega) (by omega)
      refine ⟨K + 1, fun i => if i = 0 then p else ch (i - 1), by omega, by omega, rfl, fun i hi => ?_, ?_, fun i h1 h2 => ?_⟩
      · by_cases ei : i = 0
        · subst ei
          show ch 0 < n ∧ pre9 go en E D (ch 0) p ∧ E p ≤ E p ∧ E p < INF ∧ p < n
          rw [k2]
          exact ⟨hqn, hpre, Nat.le_refl _, hI, hp⟩
        · obtain ⟨i', rfl⟩ : ∃ i', i = i' + 1 := ⟨i - 1, by omega⟩
          obtain ⟨m1, m2, m3, m4, m5⟩ := k3 i' (by omega)
          show ch (i' + 1) < n ∧ pre9 go en E D (ch (i' + 1)) (ch i') ∧ E (ch i') ≤ E p ∧ E (ch i') < INF ∧ ch i' < n
          exact ⟨m1, m2, by omega, m4, m5⟩
      · show (if K = 0 then p else ch (K - 1)) = fi
        rw [if_neg (by omega)]; exact k4
      · show (if i = 0 then p else ch (i - 1)) ≠ fi
        rw [if_neg (by omega)]
        by_cases ei : i = 1
        · subst ei; rw [show 1 - 1 = 0 from rfl, k2]; exact hf
        · exact k5 (i - 1) (by omega) (by omega)
theorem pre9_uni {go : Nat → Nat → Prop} {en : Nat → Nat → Nat} {E D : Nat → Nat} {q q2 p : Nat} (h : pre9 go en E D q p) (h2 : pre9 go en E D q2 p) : q = q2 := by
  rcases Nat.lt_trichotomy q q2 with h3 | h3 | h3
  · exact absurd h.1 (h2.2 q h3)
  · exact h3
  · exact absurd h2.1 (h.2 q2 h3)
def cS (c : Nat → Nat) (K : Nat) : Nat → Nat := fun k => if k = 2 then K else c k
theorem Re.st {c : Nat → Nat} {a : Nat → Nat → Nat} {u v : gS} (h : Re c a u v) {K : Nat} (hK : K ≤ 121) (f : Nat → Int32) : Re (cS c K) a (sf (si u 5 f) 3 (nI K)) (sf (si v 5 f) 3 (nI K)) := by
  obtain ⟨⟨a1, a2, a3, a4, a5, a6, a7, a8, a9⟩, r2, r3, r4, r5, r6⟩ := h
  exact ⟨⟨a1, a2, hK, a4, a5, a6, a7, rfl, rfl⟩, r2, r3, r4, fun i _ => rfl, r6⟩
def Fk (u w : gS) : Prop := (∀ k, k ≠ 5 → gi w k = gi u k) ∧ (∀ k, gl w k = gl u k) ∧ ∀ k, k ≠ 3 → gf w k = gf u k
theorem ks0 {n : Nat} {a : Nat → Nat → Nat} {E D : Nat → Nat} {fi p K : Nat} {ch : Nat → Nat} (hC : Chn n (gG a) (gEn a) fi E D p K ch) (hK : K ≤ 121) (hfi : fi < n) : ∀ (m i : Nat) (c : Nat → Nat) (u v : gS), Re c a u v → c 0 = n → c 2 = i → HE n E D u → 1 ≤ i → i < K → K - i < m →
    ∃ w, fX0_keepSteps_L46 m u (nI fi) (nI (ch i)) = some w ∧ Fk u w ∧ gf w 3 = nI K ∧ ∀ j, j < K → gi w 5 j = if i ≤ j then nI (ch j) else gi u 5 j := by
  obtain ⟨k1, k2, k3, k4, k5⟩ := hC
  intro m
  induction m with
  | zero => intro i c u v _ _ _ _ _ _ h; omega
  | succ m ih =>
    intro i c u v hR hc0 hc2 hH hi1 hi2 hm
    have hn : n ≤ 120 := by have := hR.1.1; omega
    have hg : gf u 3 = nI i := by have := hR.1.2.2.2.2.2.2.2.1; rw [hc2] at this; exact this
    have hci : ch i < n := by
      obtain ⟨i', rfl⟩ : ∃ i', i = i' + 1 := ⟨i - 1, by omega⟩
      exact (k3 i' (by omega)).1
    have hnl : ¬ (121 : Int32) ≤ nI i := nI_ge (a := i) (b := 121) (by omega) (by omega)
    show ∃ w, fX0_keepSteps_L46_b (fX0_keepSteps_L46 m) u (nI fi) (nI (ch i)) = some w ∧ _
    unfold fX0_keepSteps_L46_b
    rw [if_neg (nI_m1 (by omega)), hg, if_neg hnl]
    simp only [cl_n (show i < 14500 by omega), if_neg (ix2 (show i < 121 by omega) (by omega)), ql_s]
    have hR2 := hR.st (K := i + 1) (by omega) (upd (gi u 5) i (nI (ch i)))
    have eg : gf (si u 5 (upd (gi u 5) i (nI (ch i)))) 3 + (1 : Int32) = nI (i + 1) := by rw [show gf (si u 5 (upd (gi u 5) i (nI (ch i)))) 3 = gf u 3 from rfl, hg]; exact nI_s i
    rw [eg]
    have hFk : Fk u (sf (si u 5 (upd (gi u 5) i (nI (ch i)))) 3 (nI (i + 1))) := ⟨fun k hk => by show (if k = 5 then _ else gi u k) = gi u k; rw [if_neg hk], fun k => rfl, fun k hk => by show (if k = 3 then _ else gf u k) = gf u k; rw [if_neg hk]⟩
    have r5 : ∀ j, gi (sf (si u 5 (upd (gi u 5) i (nI (ch i)))) 3 (nI (i + 1))) 5 j = if j = i then nI (ch i) else gi u 5 j := fun j => up_v j
    have r3 : gf (sf (si u 5 (upd (gi u 5) i (nI (ch i)))) 3 (nI (i + 1))) 3 = nI (i + 1) := rfl
    have hH2 : HE n E D (sf (si u 5 (upd (gi u 5) i (nI (ch i)))) 3 (nI (i + 1))) := hH
    generalize (sf (si u 5 (upd (gi u 5) i (nI (ch i)))) 3 (nI (i + 1))) = u1 at hR2 hFk r5 r3 hH2 ⊢
    by_cases hl : i + 1 = K
    · have e1 : ch i = fi := by rw [show i = K - 1 by omega]; exact k4
      obtain ⟨m', rfl⟩ : ∃ m', m = m' + 1 := ⟨m - 1, by omega⟩
      rw [if_pos (by rw [e1])]
      refine ⟨u1, ?_, hFk, by rw [r3, hl], fun j hj => ?_⟩
      · show fX0_keepSteps_L46_b (fX0_keepSteps_L46 m') u1 (nI fi) (-1) = some u1
        unfold fX0_keepSteps_L46_b
        rw [if_pos rfl]
      · rw [r5]
        by_cases e2 : j = i
        · subst e2; rw [if_pos rfl, if_pos (Nat.le_refl _)]
        · rw [if_neg e2, if_neg (by omega)]
    · have hne : ch i ≠ fi := k5 i hi1 (by omega)
      rw [if_neg (fun hh => hne ((nI_eq (by omega) (by omega)).mp hh))]
      obtain ⟨m1, m2, -, -, -⟩ := k3 i (by omega)
      have hpb : fX0_pieceBefore u1 (nI (ch i)) = some (nI (ch (i + 1))) := by
        have hc0' : cS c (i + 1) 0 = n := hc0
        rcases pb0 (E := E) (D := D) hR2 (by rw [hc0']; exact hH2) (p := ch i) (by rw [hc0']; exact hci) 200 0 (Nat.zero_le _) (by rw [hc0']; omega) (fun q hq => absurd hq (Nat.not_lt_zero q)) with ⟨q, h1, h2, h3, h4⟩ | ⟨h1, h2⟩
        · rw [show ch (i + 1) = q from pre9_uni m2 ⟨h3, h4⟩]; exact h1
        · exact absurd m2.1 (h2 _ (by rw [hc0']; exact m1))
      rw [hpb, qb_s]
      obtain ⟨w, w1, w2, w3, w4⟩ := ih (i + 1) (cS c (i + 1)) u1 _ hR2 hc0 rfl hH2 (by omega) (by omega) (by omega)
      refine ⟨w, w1, ⟨fun k hk => (w2.1 k hk).trans (hFk.1 k hk), fun k => (w2.2.1 k).trans (hFk.2.1 k), fun k hk => (w2.2.2 k hk).trans (hFk.2.2 k hk)⟩, w3, fun j hj => ?_⟩
      rw [w4 j hj, r5]
      by_cases e2 : j = i
      · subst e2; rw [if_neg (by omega), if_pos rfl, if_pos (Nat.le_refl _)]
      · by_cases e3 : i + 1 ≤ j
        · rw [if_pos e3, if_pos (by omega)]
        · rw [if_neg e3, if_neg e2, if_neg (by omega)]
