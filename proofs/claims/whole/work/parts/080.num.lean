/-! The pure side: numbers, states. Own rows. -/
theorem qb_s {α β : Type} (a : α) (f : α → Option β) : q_b (some a) f = f a := rfl
theorem qb2_s {α σ β : Type} (a : α) (b : σ) (f : α → σ → Option β) : q_b2 (some (a, b)) f = f a b := rfl
theorem qb3_s {α β γ δ : Type} (a : α) (b : β) (c : γ) (f : α → β → γ → Option δ) : q_b3 (some (a, b, c)) f = f a b c := rfl
theorem qb4_s {α β γ ε δ : Type} (a : α) (b : β) (c : γ) (d : ε) (f : α → β → γ → ε → Option δ) : q_b4 (some (a, b, c, d)) f = f a b c d := rfl
theorem ql_s {α β : Type} (a : α) (f : α → β) : q_let a f = f a := rfl
theorem gi_si (u : gS) (k : Nat) (f : Nat → Int32) (j : Nat) : gi (si u k f) j = if j = k then f else gi u j := rfl
theorem gi_sl (u : gS) (k : Nat) (f : Nat → Int64) (j : Nat) : gi (sl u k f) j = gi u j := rfl
theorem gi_sf (u : gS) (k : Nat) (x : Int32) (j : Nat) : gi (sf u k x) j = gi u j := rfl
theorem gl_si (u : gS) (k : Nat) (f : Nat → Int32) (j : Nat) : gl (si u k f) j = gl u j := rfl
theorem gl_sl (u : gS) (k : Nat) (f : Nat → Int64) (j : Nat) : gl (sl u k f) j = if j = k then f else gl u j := rfl
theorem gl_sf (u : gS) (k : Nat) (x : Int32) (j : Nat) : gl (sf u k x) j = gl u j := rfl
theorem gf_si (u : gS) (k : Nat) (f : Nat → Int32) (j : Nat) : gf (si u k f) j = gf u j := rfl
theorem gf_sl (u : gS) (k : Nat) (f : Nat → Int64) (j : Nat) : gf (sl u k f) j = gf u j := rfl
theorem gf_sf (u : gS) (k : Nat) (x : Int32) (j : Nat) : gf (sf u k x) j = if j = k then x else gf u j := rfl
theorem up_v {f : Nat → Int32} {k : Nat} {x : Int32} (j : Nat) : upd f k x j = if j = k then x else f j := by
  by_cases h : j = k
  · subst h; rw [pk_us, if_pos rfl]
  · rw [pk_un h, if_neg h]
theorem upL_v {f : Nat → Int64} {k : Nat} {x : Int64} (j : Nat) : vp_updL f k x j = if j = k then x else f j := rfl
abbrev INF : Nat := 4000000000000000000
theorem inf_l : (4000000000000000000 : Int64) = lN INF := rfl
theorem ix_ok {j N : Nat} (h : j < N) (hN : N ≤ 14400) : ¬ (nI j < 0 ∨ N ≤ (nI j).toNatClampNeg) := nI_in h (by omega)
theorem cl_n {j : Nat} (h : j < 14500) : (nI j).toNatClampNeg = j := nI_clamp (by omega)
theorem nI_s (j : Nat) : nI j + (1 : Int32) = nI (j + 1) := nI_1 j
theorem i64_toInt (x : Int32) : x.toInt64.toInt = x.toInt := by simp
theorem i64_lt {x : Int32} {a : Int} (y : Int64) (hy : y.toInt = a) : x.toInt64 < y ↔ x.toInt < a := by
  rw [Int64.lt_iff_toInt_lt, i64_toInt, hy]
theorem i64_gt {x : Int32} {a : Int} (y : Int64) (hy : y.toInt = a) : y < x.toInt64 ↔ a < x.toInt := by
  rw [Int64.lt_iff_toInt_lt, i64_toInt, hy]
def secN (s m : Nat) : Nat := (10 * m + s - 1) / s
theorem secN_mono {s m m' : Nat} (h : m ≤ m') : secN s m ≤ secN s m' := Nat.div_le_div_right (by omega)
theorem secN_pos {s m : Nat} (hs : 1 ≤ s) (hs2 : s ≤ 1000) (hm : 1 ≤ m) : 1 ≤ secN s m := by
  unfold secN
  exact (Nat.le_div_iff_mul_le (by omega)).mpr (by omega)
theorem secN_le {s m : Nat} (hs : 1 ≤ s) (hm : m ≤ 10000) : secN s m ≤ 200000 := by
  unfold secN
  refine Nat.le_trans (Nat.div_le_div_right (c := s) (show 10 * m + s - 1 ≤ 200000 * s by omega)) ?_
  rw [Nat.mul_div_cancel _ (by omega)]; exact Nat.le_refl _
theorem secN_two {s a : Nat} (hs : 1 ≤ s) : (a + s - 1) / s = if a ≤ a / s * s then a / s else a / s + 1 := by
  have h1 : s * (a / s) + a % s = a := Nat.div_add_mod a s
  have h2 : a % s < s := Nat.mod_lt _ (by omega)
  rw [Nat.mul_comm] at h1
  generalize a / s = q at *
  by_cases h : a ≤ q * s
  · rw [if_pos h]
    exact Nat.div_eq_of_lt_le (by omega) (by rw [Nat.add_mul]; omega)
  · rw [if_neg h]
    exact Nat.div_eq_of_lt_le (by rw [Nat.add_mul]; omega) (by rw [Nat.add_mul, Nat.add_mul]; omega)
def entN (o c t : Nat) : Nat := if c = 0 then t else if o ≤ t % 86400 then (if c ≤ t % 86400 then t - t % 86400 + 86400 + o else t) else t - t % 86400 + o
theorem entN_ge {o c t : Nat} : t ≤ entN o c t := by
  unfold entN; split
  · exact Nat.le_refl _
  · split
    · split <;> omega
    · omega
theorem entN_le {o c t : Nat} (h : o = 0 ∧ c = 0 ∨ o < c ∧ c ≤ 86400) : entN o c t ≤ t + 172800 := by
  unfold entN; split
  · omega
  · split
    · split <;> omega
    · omega
theorem entN_mono {o c t t' : Nat} (h : o = 0 ∧ c = 0 ∨ o < c ∧ c ≤ 86400) (ht : t ≤ t') : entN o c t ≤ entN o c t' := by
  unfold entN
  split
  · exact ht
  · have h1 := Nat.div_add_mod t 86400
    have h2 := Nat.div_add_mod t' 86400
    have h3 : t / 86400 ≤ t' / 86400 := Nat.div_le_div_right ht
    have h4 : t % 86400 < 86400 := Nat.mod_lt _ (by omega)
    have h5 : t' % 86400 < 86400 := Nat.mod_lt _ (by omega)
    generalize t / 86400 = q at *
    generalize t' / 86400 = q' at *
    generalize t % 86400 = r at *
    generalize t' % 86400 = r' at *
    rcases Nat.lt_or_ge q q' with hq | hq
    · split <;> split <;> (try split) <;> (try split) <;> omega
    · have : q = q' := by omega
      subst this
      split <;> split <;> (try split) <;> (try split) <;> omega
