/-! The pure side: least times, as numbers. Own rows. -/
def GH (n : Nat) (en : Nat → Nat → Nat) (le : Nat → Nat) : Prop := (∀ p t, p < n → t ≤ en p t) ∧ (∀ p t t', p < n → t ≤ t' → en p t ≤ en p t') ∧ ∀ p, p < n → 1 ≤ le p
def SolB (n : Nat) (go : Nat → Nat → Prop) (en : Nat → Nat → Nat) (E D : Nat → Nat) : Prop := ∀ p, p < n → E p < INF → ∃ q, q < n ∧ go q p ∧ D q < INF ∧ E p = en p (D q)
def SolC (n : Nat) (le : Nat → Nat) (fi fd : Nat) (E D : Nat → Nat) : Prop := (∀ p, p < n → p ≠ fi → D p = min INF (E p + le p)) ∧ D fi = fd ∧ (∀ p, p < n → E p ≤ INF) ∧ ∀ p, p < n → fd ≤ E p
def SolA (n : Nat) (go : Nat → Nat → Prop) (en : Nat → Nat → Nat) (E D : Nat → Nat) (B : Nat) : Prop := ∀ q p, q < n → p < n → go q p → D q < INF → D q ≤ B → E p ≤ en p (D q)
theorem sol_low {n : Nat} {go : Nat → Nat → Prop} {en : Nat → Nat → Nat} {le : Nat → Nat} {fi fd B : Nat} {E D E' D' : Nat → Nat} (hG : GH n en le) (hb : SolB n go en E D) (hc : SolC n le fi fd E D) (ha : SolA n go en E' D' B) (hc' : SolC n le fi fd E' D') :
    ∀ (N p : Nat), p < n → E p < N → E p < INF → E p ≤ B → E' p ≤ E p := by
  intro N
  induction N with
  | zero => intro p hp h; omega
  | succ N ih =>
    intro p hp hN hI hB
    obtain ⟨q, hq, hgo, hD, he⟩ := hb p hp hI
    have h1 := hG.1 p (D q) hp
    have key : D' q ≤ D q := by
      by_cases hf : q = fi
      · subst hf; rw [hc.2.1, hc'.2.1]; exact Nat.le_refl _
      · have e1 := hc.1 q hq hf
        have e2 := hc'.1 q hq hf
        have h2 := hG.2.2 q hq
        have h3 : E' q ≤ E q := ih q hq (by omega) (by omega) (by omega)
        omega
    have h4 := ha q p hq hp hgo (by omega) (by omega)
    have h5 := hG.2.1 p (D' q) (D q) hp key
    omega
theorem sol_E {n : Nat} {go : Nat → Nat → Prop} {en : Nat → Nat → Nat} {le : Nat → Nat} {fi fd B : Nat} {E D E' D' : Nat → Nat} (hG : GH n en le) (hb : SolB n go en E D) (hc : SolC n le fi fd E D) (ha : SolA n go en E D B) (hb' : SolB n go en E' D') (hc' : SolC n le fi fd E' D') (ha' : ∀ C, SolA n go en E' D' C) {p : Nat} (hp : p < n) (h : E p < INF ∧ E p ≤ B ∨ E' p < INF ∧ E' p ≤ B) : E p = E' p := by
  rcases h with ⟨h1, h2⟩ | ⟨h1, h2⟩
  · have a1 := sol_low hG hb hc (ha' (E p)) hc' (E p + 1) p hp (by omega) h1 (Nat.le_refl _)
    have a2 := sol_low hG hb' hc' ha hc (E' p + 1) p hp (by omega) (by omega) (by omega)
    omega
  · have a2 := sol_low hG hb' hc' ha hc (E' p + 1) p hp (by omega) h1 h2
    have a1 := sol_low hG hb hc (ha' (E p)) hc' (E p + 1) p hp (by omega) (by omega) (Nat.le_refl _)
    omega
theorem sol_last {n : Nat} {go : Nat → Nat → Prop} {en : Nat → Nat → Nat} {le : Nat → Nat} {fi fd la : Nat} {E D E' D' : Nat → Nat} (hG : GH n en le) (hb : SolB n go en E D) (hc : SolC n le fi fd E D) (ha : SolA n go en E D (E la)) (hb' : SolB n go en E' D') (hc' : SolC n le fi fd E' D') (ha' : ∀ C, SolA n go en E' D' C) (hl : la < n) : E la = E' la := by
  have h1 := hc.2.2.1 la hl
  have h2 := hc'.2.2.1 la hl
  by_cases h : E la < INF
  · exact sol_E hG hb hc ha hb' hc' ha' hl (Or.inl ⟨h, Nat.le_refl _⟩)
  · by_cases h3 : E' la < INF
    · exact sol_E hG hb hc ha hb' hc' ha' hl (Or.inr ⟨h3, by omega⟩)
    · omega
theorem sol_D {n : Nat} {go : Nat → Nat → Prop} {en : Nat → Nat → Nat} {le : Nat → Nat} {fi fd B : Nat} {E D E' D' : Nat → Nat} (hG : GH n en le) (hb : SolB n go en E D) (hc : SolC n le fi fd E D) (ha : SolA n go en E D B) (hb' : SolB n go en E' D') (hc' : SolC n le fi fd E' D') (ha' : ∀ C, SolA n go en E' D' C) {q : Nat} (hq : q < n) (h : D q < INF ∧ D q ≤ B ∨ D' q < INF ∧ D' q ≤ B) : D q = D' q := by
  by_cases hf : q = fi
  · subst hf; rw [hc.2.1, hc'.2.1]
  · have e1 := hc.1 q hq hf
    have e2 := hc'.1 q hq hf
    have e3 : E q = E' q := by
      refine sol_E hG hb hc ha hb' hc' ha' hq ?_
      rcases h with ⟨h1, h2⟩ | ⟨h1, h2⟩
      · exact Or.inl ⟨by omega, by omega⟩
      · exact Or.inr ⟨by omega, by omega⟩
    rw [e1, e2, e3]
/-- the piece before: the same in both -/
theorem sol_pre {n : Nat} {go : Nat → Nat → Prop} {en : Nat → Nat → Nat} {le : Nat → Nat} {fi fd B : Nat} {E D E' D' : Nat → Nat} (hG : GH n en le) (hb : SolB n go en E D) (hc : SolC n le fi fd E D) (ha : SolA n go en E D B) (hb' : SolB n go en E' D') (hc' : SolC n le fi fd E' D') (ha' : ∀ C, SolA n go en E' D' C) {q p : Nat} (hq : q < n) (hp : p < n) (hI : E p < INF) (hB : E p ≤ B) : en p (D q) = E p ↔ D' q < INF ∧ en p (D' q) = E' p := by
  have e1 := sol_E hG hb hc ha hb' hc' ha' hp (Or.inl ⟨hI, hB⟩)
  have h1 := hG.1 p (D q) hp
  have h2 := hG.1 p (D' q) hp
  constructor
  · intro h
    have := sol_D hG hb hc ha hb' hc' ha' hq (Or.inl ⟨by omega, by omega⟩)
    rw [← this]; exact ⟨by omega, by omega⟩
  · intro ⟨h3, h4⟩
    have := sol_D hG hb hc ha hb' hc' ha' hq (Or.inr ⟨by omega, by omega⟩)
    rw [this]; omega
/-! One turn of the class's search. -/
def DI (n : Nat) (go : Nat → Nat → Prop) (en : Nat → Nat → Nat) (le : Nat → Nat) (fi fd : Nat) (E D : Nat → Nat) (S : Nat → Prop) : Prop :=
  (∀ q p, q < n → p < n → S q → go q p → E p ≤ en p (D q)) ∧ (∀ q, q < n → S q → D q < INF) ∧ (∀ p, p < n → E p < INF → ∃ q, q < n ∧ S q ∧ go q p ∧ E p = en p (D q)) ∧ SolC n le fi fd E D ∧ (∀ q p, q < n → p < n → S q → ¬ S p → D q ≤ D p)
def rxE (go : Nat → Nat → Prop) (en : Nat → Nat → Nat) (k d : Nat) (E : Nat → Nat) (p : Nat) (v : Nat) : Prop := (go k p ∧ en p d < E p ∧ v = en p d) ∨ (¬ (go k p ∧ en p d < E p) ∧ v = E p)
theorem DI_D {n : Nat} {go : Nat → Nat → Prop} {en : Nat → Nat → Nat} {le : Nat → Nat} {fi fd : Nat} {E D : Nat → Nat} {S : Nat → Prop} (h : DI n go en le fi fd E D S) (hfi : fd < INF) {q : Nat} (hq : q < n) : fd ≤ D q := by
  obtain ⟨-, -, -, ⟨c1, c2, c3, c4⟩, -⟩ := h
  by_cases hf : q = fi
  · subst hf; rw [c2]; exact Nat.le_refl _
  · have := c1 q hq hf; have := c4 q hq; omega
theorem DI_step {n : Nat} {go : Nat → Nat → Prop} {en : Nat → Nat → Nat} {le : Nat → Nat} {fi fd k : Nat} {E D E' D' : Nat → Nat} {S S' : Nat → Prop} (hG : GH n en le) (h : DI n go en le fi fd E D S) (hfi : fd < INF) (hfn : fi < n) (hk : k < n) (hkS : ¬ S k) (hkI : D k < INF) (hmin : ∀ q, q < n → ¬ S q → D k ≤ D q)
    (hS : ∀ q, S' q ↔ S q ∨ q = k) (hx : ∀ p, p < n → (go k p ∧ en p (D k) < E p ∧ E' p = en p (D k) ∧ D' p = min (D p) (en p (D k) + le p)) ∨ (¬ (go k p ∧ en p (D k) < E p) ∧ E' p = E p ∧ D' p = D p)) : DI n go en le fi fd E' D' S' := by
  have hkd := DI_D h hfi hk
  obtain ⟨i1, i2, i3, ⟨c1, c2, c3, c4⟩, i4⟩ := h
  have sd : ∀ q, q < n → S' q → D' q = D q := fun q hq hq' => by
    rcases hx q hq with ⟨x1, x2, x3, x4⟩ | ⟨x1, x2, x3⟩
    · have g1 := hG.1 q (D k) hq
      by_cases hf : q = fi
      · subst hf; rw [x4, c2]; omega
      · have e1 := c1 q hq hf
        rcases (hS q).mp hq' with hs | rfl
        · have := i4 q k hq hk hs hkS
          have := i2 q hq hs
          omega
        · omega
    · exact x3
  have hE : ∀ p, p < n → E' p ≤ E p := fun p hp => by
    rcases hx p hp with ⟨x1, x2, x3, x4⟩ | ⟨x1, x2, x3⟩ <;> omega
  have k0 : S' k := (hS k).mpr (Or.inr rfl)
  refine ⟨fun q p hq hp hs hgo => ?_, fun q hq hs => ?_, fun p hp hI => ?_, ⟨fun p hp hf => ?_, ?_, fun p hp => Nat.le_trans (hE p hp) (c3 p hp), fun p hp => ?_⟩, fun q p hq hp hs hn => ?_⟩
  · rw [sd q hq hs]
    rcases (hS q).mp hs with hs | rfl
    · exact Nat.le_trans (hE p hp) (i1 q p hq hp hs hgo)
    · rcases hx p hp with ⟨x1, x2, x3, x4⟩ | ⟨x1, x2, x3⟩
      · omega
      · rw [x2]; exact Nat.not_lt.mp (fun hlt => x1 ⟨hgo, hlt⟩)
  · rw [sd q hq hs]
    rcases (hS q).mp hs with hs | rfl
    · exact i2 q hq hs
    · exact hkI
  · rcases hx p hp with ⟨x1, x2, x3, x4⟩ | ⟨x1, x2, x3⟩
    · exact ⟨k, hk, k0, x1, by rw [sd k hk k0]; exact x3⟩
    · rw [x2] at hI ⊢
      obtain ⟨q, hq, hs, hgo, he⟩ := i3 p hp hI
      have s1 : S' q := (hS q).mpr (Or.inl hs)
      exact ⟨q, hq, s1, hgo, by rw [sd q hq s1]; exact he⟩
  · have e1 := c1 p hp hf
    rcases hx p hp with ⟨x1, x2, x3, x4⟩ | ⟨x1, x2, x3⟩
    · rw [x4, x3]; omega
    · rw [x2, x3]; exact e1
  · rcases hx fi hfn with ⟨x1, x2, x3, x4⟩ | ⟨x1, x2, x3⟩
    · have := hG.1 fi (D k) hfn; rw [x4, c2]; omega
    · rw [x3, c2]
  · rcases hx p hp with ⟨x1, x2, x3, x4⟩ | ⟨x1, x2, x3⟩
    · have := hG.1 p (D k) hp; omega
    · rw [x2]; exact c4 p hp
  · rw [sd q hq hs]
    have n1 : ¬ S p := fun h => hn ((hS p).mpr (Or.inl h))
    have a1 : D q ≤ D k := by
      rcases (hS q).mp hs with hs | rfl
      · exact i4 q k hq hk hs hkS
      · exact Nat.le_refl _
    have a2 := hmin p hp n1
    rcases hx p hp with ⟨x1, x2, x3, x4⟩ | ⟨x1, x2, x3⟩
    · have := hG.1 p (D k) hp; omega
    · omega
theorem DI_end {n : Nat} {go : Nat → Nat → Prop} {en : Nat → Nat → Nat} {le : Nat → Nat} {fi fd B : Nat} {E D : Nat → Nat} {S : Nat → Prop} (h : DI n go en le fi fd E D S) (hB : ∀ q, q < n → D q < INF → D q ≤ B → S q) : SolB n go en E D ∧ SolC n le fi fd E D ∧ SolA n go en E D B := by
  obtain ⟨i1, i2, i3, c, i4⟩ := h
  refine ⟨fun p hp hI => ?_, c, fun q p hq hp hgo hI hb => i1 q p hq hp (hB q hq hI hb) hgo⟩
  obtain ⟨q, hq, hs, hgo, he⟩ := i3 p hp hI
  exact ⟨q, hq, hgo, i2 q hq hs, he⟩
/-! One turn of the reference's search. -/
def BI (n : Nat) (go : Nat → Nat → Prop) (en : Nat → Nat → Nat) (le : Nat → Nat) (fi fd : Nat) (E D : Nat → Nat) : Prop :=
  (∀ p, p < n → E p < INF → ∃ q, q < n ∧ go q p ∧ D q < INF ∧ en p (D q) ≤ E p) ∧ SolC n le fi fd E D
theorem BI_step {n : Nat} {go : Nat → Nat → Prop} {en : Nat → Nat → Nat} {le : Nat → Nat} {fi fd k m : Nat} {E D E' D' : Nat → Nat} (hG : GH n en le) (h : BI n go en le fi fd E D) (hfi : fd < INF) (hfn : fi < n) (hk : k < n) (hm : m < n) (hkI : D k < INF) (hgo : go k m) (hlt : en m (D k) < E m)
    (hE : ∀ p, E' p = if p = m then en m (D k) else E p) (hD : ∀ p, D' p = if p = m then min (D m) (en m (D k) + le m) else D p) : BI n go en le fi fd E' D' := by
  obtain ⟨b, c1, c2, c3, c4⟩ := h
  have hg := hG.1 m (D k) hm
  have hkd : fd ≤ D k := by
    by_cases hf : k = fi
    · subst hf; rw [c2]; exact Nat.le_refl _
    · have := c1 k hk hf; have := c4 k hk; omega
  have dl : ∀ p, D' p ≤ D p := fun p => by
    rw [hD]; split
    · rename_i e; subst e; omega
    · exact Nat.le_refl _
  refine ⟨fun p hp hI => ?_, fun p hp hf => ?_, ?_, fun p hp => ?_, fun p hp => ?_⟩
  · rw [hE] at hI ⊢
    by_cases hpm : p = m
    · subst hpm
      rw [if_pos rfl]
      exact ⟨k, hk, hgo, Nat.lt_of_le_of_lt (dl k) hkI, hG.2.1 _ _ _ hp (dl k)⟩
    · rw [if_neg hpm] at hI ⊢
      obtain ⟨q, hq, h1, h2, h3⟩ := b p hp hI
      exact ⟨q, hq, h1, Nat.lt_of_le_of_lt (dl q) h2, Nat.le_trans (hG.2.1 _ _ _ hp (dl q)) h3⟩
  · have e1 := c1 p hp hf
    rw [hE, hD]
    by_cases hpm : p = m
    · subst hpm; rw [if_pos rfl, if_pos rfl]; omega
    · rw [if_neg hpm, if_neg hpm]; exact e1
  · rw [hD]; split
    · rename_i e; subst e; rw [c2]; omega
    · exact c2
  · rw [hE]; have := c3 p hp; split
    · rename_i e; subst e; omega
    · exact this
  · rw [hE]; have := c4 p hp; split
    · omega
    · exact this
theorem BI_end {n : Nat} {go : Nat → Nat → Prop} {en : Nat → Nat → Nat} {le : Nat → Nat} {fi fd : Nat} {E D : Nat → Nat} (h : BI n go en le fi fd E D) (ha : ∀ q p, q < n → p < n → go q p → D q < INF → E p ≤ en p (D q)) : SolB n go en E D ∧ SolC n le fi fd E D ∧ ∀ C, SolA n go en E D C := by
  refine ⟨fun p hp hI => ?_, h.2, fun C q p hq hp hgo hI _ => ha q p hq hp hgo hI⟩
  obtain ⟨q, hq, h1, h2, h3⟩ := h.1 p hp hI
  exact ⟨q, hq, h1, h2, Nat.le_antisymm (ha q p hq hp h1 h2) h3⟩
/-! How many have a less value. -/
def cntL (E : Nat → Nat) (t : Nat) : Nat → Nat
  | 0 => 0
  | k + 1 => cntL E t k + (if E k < t then 1 else 0)
theorem cntL_le (E : Nat → Nat) (t k : Nat) : cntL E t k ≤ k := by
  induction k with
  | zero => exact Nat.le_refl _
  | succ k ih => unfold cntL; split <;> omega
theorem cntL_mono (E : Nat → Nat) {t t' : Nat} (h : t ≤ t') (k : Nat) : cntL E t k ≤ cntL E t' k := by
  induction k with
  | zero => exact Nat.le_refl _
  | succ k ih => unfold cntL; split <;> split <;> omega
theorem cntL_lt (E : Nat → Nat) {t q : Nat} (h : E q < t) : ∀ k, q < k → cntL E (E q) k < cntL E t k := by
  intro k
  induction k with
  | zero => intro h; omega
  | succ k ih =>
    intro hk
    unfold cntL
    by_cases e : q = k
    · subst e
      have := cntL_mono E (Nat.le_of_lt h) q
      rw [if_neg (Nat.lt_irrefl _), if_pos h]; omega
    · have := ih (by omega)
      split <;> split <;> omega
theorem cntL_self (E : Nat → Nat) {q : Nat} : ∀ k, q < k → cntL E (E q) k < k := by
  intro k
  induction k with
  | zero => intro h; omega
  | succ k ih =>
    intro hk
    unfold cntL
    by_cases e : q = k
    · subst e
      have := cntL_le E (E q) q
      rw [if_neg (Nat.lt_irrefl _)]; omega
    · have := ih (by omega)
      split <;> omega
def sumE (E : Nat → Nat) : Nat → Nat
  | 0 => 0
  | k + 1 => sumE E k + E k
theorem sumE_le {E E' : Nat → Nat} : ∀ k, (∀ p, p < k → E' p ≤ E p) → sumE E' k ≤ sumE E k := by
  intro k
  induction k with
  | zero => intro _; exact Nat.le_refl _
  | succ k ih => intro h; unfold sumE; have := ih (fun p hp => h p (by omega)); have := h k (by omega); omega
theorem sumE_lt {E E' : Nat → Nat} : ∀ k, (∀ p, p < k → E' p ≤ E p) → (∃ p, p < k ∧ E' p < E p) → sumE E' k < sumE E k := by
  intro k
  induction k with
  | zero => intro _ ⟨p, hp, _⟩; omega
  | succ k ih =>
    intro h ⟨p, hp, hl⟩
    unfold sumE
    by_cases e : p = k
    · subst e; have := sumE_le (E := E) (E' := E') p (fun q hq => h q (by omega)); omega
    · have := ih (fun q hq => h q (by omega)) ⟨p, by omega, hl⟩; have := h k (by omega); omega
theorem sumE_bd {E : Nat → Nat} {b : Nat} : ∀ k, (∀ p, p < k → E p ≤ b) → sumE E k ≤ k * b := by
  intro k
  induction k with
  | zero => intro _; exact Nat.le_of_eq (Nat.zero_mul _).symm
  | succ k ih => intro h; unfold sumE; have := ih (fun p hp => h p (by omega)); have := h k (by omega); rw [Nat.succ_mul]; omega
