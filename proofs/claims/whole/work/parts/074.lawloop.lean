set_option maxHeartbeats 8000000 in
set_option maxRecDepth 100000 in
theorem law_L {k9 : Nat} {l : Launch} {dC : Nat → ClassId} {dI : Nat → Nat → Nat} {cI cJ cZ : ClassId} {ad bd : Nat → Nat} {oo : Nat} {p : Program} {e : Env} {s : State} {m : MethodId} {below : List Frame} {meth : Method} {c : Code} {b L : Nat} {xs : Nat → Int32} {A : Nat → Prop} (hAd : A = fun q : Nat => s.heap.size ≤ q) (hl0 : l.stackTraces = false) (C0 : lw_At p s m meth c b L xs) (hK : va_K (dC, dI) vwCl (tyS cI cJ cZ) s) (hEA : xE atA 68 "a piece's speed is 0" A s) (hEI : xE atI 120 "there is no such piece" A s) :
    ∀ (n k : Nat) (u v : gS) (f : Nat → Int64) (y4 : Int32) (H : Heap) (locs : List Loc) (ls : Array Slot), fL_L k9 xs L n u v f y4 = some () → k + n ≤ 513 → va_P (dC, dI) vwCl (wX1 cI cJ cZ bd v ++ (wX0 cI cJ cZ ad u ++ [(oo, .inl (cJ, 1, .inr (.inl f)))])) H → va_D A (wX1 cI cJ cZ bd v ++ (wX0 cI cJ cZ ad u ++ [(oo, .inl (cJ, 1, .inr (.inl f)))])) → va_S A s.heap H locs → lv_has ls 7 [(0, .ref b), (1, .ref ((ad 0))), (2, .ref ((bd 0))), (3, .ref oo), (4, .int y4)] → W p l e room_1 s m #[Value.ref b] below meth c H locs (30 + k) (17637 + 6 * k) (lw_Z below #[Value.ref b] s) (F0 m 23 ls []) := by
  obtain ⟨hx, hb, hr, hml, hown, htT, hX, hbl, hlocks, hgv⟩ := C0
  have hA : ∀ q : Nat, s.heap.size ≤ q → A q := fun q h => by rw [hAd]; exact h
  have hbA : ¬ A b := by rw [hAd]; exact Nat.not_le.mpr hbl
  have hts : ∀ w ∈ wsL_law, w.before #[Value.ref b] s = true := fun w h => htT w (wsL_law_in w h)
  have hown : s.vm.findClass RL = some m.cls := hown
  have hb : c.code = cL_law := hb
  intro n
  induction n with
  | zero =>
    intro k u v f y4 H locs ls h
    cases h
  | succ n ih =>
    intro k u v f y4 H locs ls h hkn hP hD hS hl
    have hSq : ∀ l ∈ locs, s.heap.size ≤ l.base := fun l hl => by have := hS.2.2 l hl; rw [hAd] at this; exact this
    have h : fL_b k9 xs L (fL_L k9 xs L n) u v f y4 = some () := h
    unfold fL_b at h
    refine lv_iload hx hb dL_law_23 (lv_at hl 4 rfl) ?_
    refine lv_aload_n hx hb dL_law_25 rfl (lv_at hl 0 rfl) ?_
    refine va_slen hx hb hX hbl hbA hS dL_law_26 ?_
    refine lv_bipush (v := (7 : Int32)) hx hb dL_law_27 (by decide) ?_
    refine lv_isub hx hb dL_law_29 ?_
    refine lv_icmp_gt (tgt := 826) hx hb dL_law_30 (by decide) (fun c1 => ?_) (fun c1 => ?_)
    · have h := q_t h c1
      refine lv_iconst (v := (1 : Int32)) hx hb dL_law_826 (by decide) ?_
      refine va_forget (fun q hq => by have := hS.2.2 q hq; rw [hAd] at this; exact this) ?_
      refine W.widen (k := 1056) (n := 25841) (by omega) (by omega) ?_
      exact lw_ret hx hb hr hlocks dL_law_827
    · have h := q_f h c1
      refine lv_aload_n hx hb dL_law_33 rfl (lv_at hl 0 rfl) ?_
      refine lv_iload hx hb dL_law_34 (lv_at hl 4 rfl) ?_
      obtain ⟨hin, h⟩ := q_g h
      refine va_sld hx hb hX hbl hbA hS hin dL_law_36 ?_
      refine lv_bipush (v := (15 : Int32)) hx hb dL_law_37 (by decide) ?_
      refine lv_iand hx hb dL_law_39 ?_
      by_cases c2 : ((xs y4.toNatClampNeg) &&& (15 : Int32)) = (0 : Int32)
      · have h := q_t h c2
        have ic2 : (((xs y4.toNatClampNeg) &&& (15 : Int32)) : Int32).toInt = 0 := by rw [c2]; rfl
        refine lv_tableIn (tgt := 96) hx hb dL_law_40 (by rw [ic2]; decide) (by rw [ic2]; decide) (by rw [ic2]; rfl) (by decide) ?_
        refine lv_aload_n hx hb dL_law_96 rfl (lv_at hl 1 rfl) ?_
        refine lv_aload_n hx hb dL_law_97 rfl (lv_at hl 0 rfl) ?_
        refine lv_iload hx hb dL_law_98 (lv_at hl 4 rfl) ?_
        refine lv_iconst (v := (1 : Int32)) hx hb dL_law_100 (by decide) ?_
        refine lv_iadd hx hb dL_law_101 ?_
        obtain ⟨hin, h⟩ := q_g h
        refine va_sld hx hb hX hbl hbA hS hin dL_law_102 ?_
        refine lv_aload_n hx hb dL_law_103 rfl (lv_at hl 0 rfl) ?_
        refine lv_iload hx hb dL_law_104 (lv_at hl 4 rfl) ?_
        refine lv_iconst (v := (2 : Int32)) hx hb dL_law_106 (by decide) ?_
        refine lv_iadd hx hb dL_law_107 ?_
        obtain ⟨hin, h⟩ := q_g h
        refine va_sld hx hb hX hbl hbA hS hin dL_law_108 ?_
        refine lv_aload_n hx hb dL_law_109 rfl (lv_at hl 0 rfl) ?_
        refine lv_iload hx hb dL_law_110 (lv_at hl 4 rfl) ?_
        refine lv_iconst (v := (3 : Int32)) hx hb dL_law_112 (by decide) ?_
        refine lv_iadd hx hb dL_law_113 ?_
        obtain ⟨hin, h⟩ := q_g h
        refine va_sld hx hb hX hbl hbA hS hin dL_law_114 ?_
        refine lv_i2l (v := (xs (y4 + (3 : Int32)).toNatClampNeg).toInt64) hx hb dL_law_115 rfl ?_
        refine lv_bipush (v := (32 : Int32)) hx hb dL_law_116 (by decide) ?_
        refine lv_lshl (v := ((xs (y4 + (3 : Int32)).toNatClampNeg).toInt64) <<< ((32 : Int32).toInt64 &&& 63)) hx hb dL_law_118 rfl ?_
        refine lv_aload_n hx hb dL_law_119 rfl (lv_at hl 0 rfl) ?_
        refine lv_iload hx hb dL_law_120 (lv_at hl 4 rfl) ?_
        refine lv_iconst (v := (4 : Int32)) hx hb dL_law_122 (by decide) ?_
        refine lv_iadd hx hb dL_law_123 ?_
        obtain ⟨hin, h⟩ := q_g h
        refine va_sld hx hb hX hbl hbA hS hin dL_law_124 ?_
        refine lv_i2l (v := (xs (y4 + (4 : Int32)).toNatClampNeg).toInt64) hx hb dL_law_125 rfl ?_
        refine lv_ldc2 hx hb hown (hts _ mL_law_25) dL_law_126 ?_
        refine lv_land hx hb dL_law_129 ?_
        refine lv_lor hx hb dL_law_130 ?_
        refine lv_aload_n hx hb dL_law_131 rfl (lv_at hl 0 rfl) ?_
        refine lv_iload hx hb dL_law_132 (lv_at hl 4 rfl) ?_
        refine lv_iconst (v := (5 : Int32)) hx hb dL_law_134 (by decide) ?_
        refine lv_iadd hx hb dL_law_135 ?_
        obtain ⟨hin, h⟩ := q_g h
        refine va_sld hx hb hX hbl hbA hS hin dL_law_136 ?_
        refine lv_i2l (v := (xs (y4 + (5 : Int32)).toNatClampNeg).toInt64) hx hb dL_law_137 rfl ?_
        refine lv_bipush (v := (32 : Int32)) hx hb dL_law_138 (by decide) ?_
        refine lv_lshl (v := ((xs (y4 + (5 : Int32)).toNatClampNeg).toInt64) <<< ((32 : Int32).toInt64 &&& 63)) hx hb dL_law_140 rfl ?_
        refine lv_aload_n hx hb dL_law_141 rfl (lv_at hl 0 rfl) ?_
        refine lv_iload hx hb dL_law_142 (lv_at hl 4 rfl) ?_
        refine lv_bipush (v := (6 : Int32)) hx hb dL_law_144 (by decide) ?_
        refine lv_iadd hx hb dL_law_146 ?_
        obtain ⟨hin, h⟩ := q_g h
        refine va_sld hx hb hX hbl hbA hS hin dL_law_147 ?_
        refine lv_i2l (v := (xs (y4 + (6 : Int32)).toNatClampNeg).toInt64) hx hb dL_law_148 rfl ?_
        refine lv_ldc2 hx hb hown (hts _ mL_law_25) dL_law_149 ?_
        refine lv_land hx hb dL_law_152 ?_
        refine lv_lor hx hb dL_law_153 ?_
        refine lv_aload_n hx hb dL_law_154 rfl (lv_at hl 3 rfl) ?_
        obtain ⟨r3, w5, g4, h⟩ := q_s2 h
        refine qL_P (wa := wX1 cI cJ cZ bd v) (rest := []) (As := [.ref (ad 0), .int (xs (y4 + (1 : Int32)).toNatClampNeg), .int (xs (y4 + (2 : Int32)).toNatClampNeg), .long ((((xs (y4 + (3 : Int32)).toNatClampNeg).toInt64) <<< ((32 : Int32).toInt64 &&& 63)) ||| (((xs (y4 + (4 : Int32)).toNatClampNeg).toInt64) &&& (4294967295 : Int64))), .long ((((xs (y4 + (5 : Int32)).toNatClampNeg).toInt64) <<< ((32 : Int32).toInt64 &&& 63)) ||| (((xs (y4 + (6 : Int32)).toNatClampNeg).toInt64) &&& (4294967295 : Int64))), .ref oo]) ⟨hx, hb, hml, hown, hts⟩ (kL_piece l hl0 dC dI cI cJ cZ ad oo _ (u, f) (xs (y4 + (1 : Int32)).toNatClampNeg) (xs (y4 + (2 : Int32)).toNatClampNeg) ((((xs (y4 + (3 : Int32)).toNatClampNeg).toInt64) <<< ((32 : Int32).toInt64 &&& 63)) ||| (((xs (y4 + (4 : Int32)).toNatClampNeg).toInt64) &&& (4294967295 : Int64))) ((((xs (y4 + (5 : Int32)).toNatClampNeg).toInt64) <<< ((32 : Int32).toInt64 &&& 63)) ||| (((xs (y4 + (6 : Int32)).toNatClampNeg).toInt64) &&& (4294967295 : Int64))) r3 w5 g4) (vx_cwSW 6 hts gL_law_L_piece rfl rfl rfl hdS_L_piece ⟨(show _ ≤ _ by decide), (show _ ≤ _ by decide)⟩) hK hP hD hS hA hEA rfl hl.1 (Nat.le_of_ble_eq_true rfl) rfl dL_law_155 ⟨(show _ ≤ 1056 by omega), (show _ ≤ 25841 by omega)⟩ (fun H locs hP hD hS => ?_)
        have hP : va_P (dC, dI) vwCl (wX1 cI cJ cZ bd v ++ (wX0 cI cJ cZ ad w5.1 ++ [(oo, .inl (cJ, 1, .inr (.inl w5.2)))])) H := hP
        have hD : va_D A (wX1 cI cJ cZ bd v ++ (wX0 cI cJ cZ ad w5.1 ++ [(oo, .inl (cJ, 1, .inr (.inl w5.2)))])) := hD
        refine lv_istore (lv' := [(5, .int r3), (0, .ref b), (1, .ref ((ad 0))), (2, .ref ((bd 0))), (3, .ref oo), (4, .int y4)]) hx hb dL_law_158 hl (by decide) rfl (fun ls hl => ?_)
        refine lv_aload_n hx hb dL_law_160 rfl (lv_at hl 3 rfl) ?_
        refine lv_aload_n hx hb dL_law_161 rfl (lv_at hl 1 rfl) ?_
        refine lv_iload hx hb dL_law_162 (lv_at hl 5 rfl) ?_
        refine lv_iconst (v := (1 : Int32)) hx hb dL_law_164 (by decide) ?_
        refine lv_iadd hx hb dL_law_165 ?_
        obtain ⟨hin, h⟩ := q_g h
        refine va_sld hx hb hX hbl hbA hS hin dL_law_166 ?_
        refine lv_aload_n hx hb dL_law_167 rfl (lv_at hl 1 rfl) ?_
        refine lv_iload hx hb dL_law_168 (lv_at hl 5 rfl) ?_
        refine lv_iconst (v := (2 : Int32)) hx hb dL_law_170 (by decide) ?_
        refine lv_iadd hx hb dL_law_171 ?_
        obtain ⟨hin, h⟩ := q_g h
        refine va_sld hx hb hX hbl hbA hS hin dL_law_172 ?_
        refine lv_aload_n hx hb dL_law_173 rfl (lv_at hl 1 rfl) ?_
        refine lv_iload hx hb dL_law_174 (lv_at hl 5 rfl) ?_
        refine lv_iconst (v := (3 : Int32)) hx hb dL_law_176 (by decide) ?_
        refine lv_iadd hx hb dL_law_177 ?_
        obtain ⟨hin, h⟩ := q_g h
        refine va_sld hx hb hX hbl hbA hS hin dL_law_178 ?_
        refine lv_i2l (v := (xs (y4 + (3 : Int32)).toNatClampNeg).toInt64) hx hb dL_law_179 rfl ?_
        refine lv_bipush (v := (32 : Int32)) hx hb dL_law_180 (by decide) ?_
        refine lv_lshl (v := ((xs (y4 + (3 : Int32)).toNatClampNeg).toInt64) <<< ((32 : Int32).toInt64 &&& 63)) hx hb dL_law_182 rfl ?_
        refine lv_aload_n hx hb dL_law_183 rfl (lv_at hl 1 rfl) ?_
        refine lv_iload hx hb dL_law_184 (lv_at hl 5 rfl) ?_
        refine lv_iconst (v := (4 : Int32)) hx hb dL_law_186 (by decide) ?_
        refine lv_iadd hx hb dL_law_187 ?_
        obtain ⟨hin, h⟩ := q_g h
        refine va_sld hx hb hX hbl hbA hS hin dL_law_188 ?_
        refine lv_i2l (v := (xs (y4 + (4 : Int32)).toNatClampNeg).toInt64) hx hb dL_law_189 rfl ?_
        refine lv_ldc2 hx hb hown (hts _ mL_law_25) dL_law_190 ?_
        refine lv_land hx hb dL_law_193 ?_
        refine lv_lor hx hb dL_law_194 ?_
        refine lv_aload_n hx hb dL_law_195 rfl (lv_at hl 1 rfl) ?_
        refine lv_iload hx hb dL_law_196 (lv_at hl 5 rfl) ?_
        refine lv_iconst (v := (5 : Int32)) hx hb dL_law_198 (by decide) ?_
        refine lv_iadd hx hb dL_law_199 ?_
        obtain ⟨hin, h⟩ := q_g h
        refine va_sld hx hb hX hbl hbA hS hin dL_law_200 ?_
        refine lv_i2l (v := (xs (y4 + (5 : Int32)).toNatClampNeg).toInt64) hx hb dL_law_201 rfl ?_
        refine lv_bipush (v := (32 : Int32)) hx hb dL_law_202 (by decide) ?_
        refine lv_lshl (v := ((xs (y4 + (5 : Int32)).toNatClampNeg).toInt64) <<< ((32 : Int32).toInt64 &&& 63)) hx hb dL_law_204 rfl ?_
        refine lv_aload_n hx hb dL_law_205 rfl (lv_at hl 1 rfl) ?_
        refine lv_iload hx hb dL_law_206 (lv_at hl 5 rfl) ?_
        refine lv_bipush (v := (6 : Int32)) hx hb dL_law_208 (by decide) ?_
        refine lv_iadd hx hb dL_law_210 ?_
        obtain ⟨hin, h⟩ := q_g h
        refine va_sld hx hb hX hbl hbA hS hin dL_law_211 ?_
        refine lv_i2l (v := (xs (y4 + (6 : Int32)).toNatClampNeg).toInt64) hx hb dL_law_212 rfl ?_
        refine lv_ldc2 hx hb hown (hts _ mL_law_25) dL_law_213 ?_
        refine lv_land hx hb dL_law_216 ?_
        refine lv_lor hx hb dL_law_217 ?_
        obtain ⟨r6, u8, g7, h⟩ := q_s2 h
        refine qL_Vi (wa := []) (wb := wX0 cI cJ cZ ad w5.1 ++ [(oo, .inl (cJ, 1, .inr (.inl w5.2)))]) (rest := []) (As := [.int (xs (y4 + (1 : Int32)).toNatClampNeg), .int (xs (y4 + (2 : Int32)).toNatClampNeg), .long ((((xs (y4 + (3 : Int32)).toNatClampNeg).toInt64) <<< ((32 : Int32).toInt64 &&& 63)) ||| (((xs (y4 + (4 : Int32)).toNatClampNeg).toInt64) &&& (4294967295 : Int64))), .long ((((xs (y4 + (5 : Int32)).toNatClampNeg).toInt64) <<< ((32 : Int32).toInt64 &&& 63)) ||| (((xs (y4 + (6 : Int32)).toNatClampNeg).toInt64) &&& (4294967295 : Int64)))]) ⟨hx, hb, hml, hown, hts⟩ (kX1_piece l dC dI cI cJ cZ bd _ v (xs (y4 + (1 : Int32)).toNatClampNeg) (xs (y4 + (2 : Int32)).toNatClampNeg) ((((xs (y4 + (3 : Int32)).toNatClampNeg).toInt64) <<< ((32 : Int32).toInt64 &&& 63)) ||| (((xs (y4 + (4 : Int32)).toNatClampNeg).toInt64) &&& (4294967295 : Int64))) ((((xs (y4 + (5 : Int32)).toNatClampNeg).toInt64) <<< ((32 : Int32).toInt64 &&& 63)) ||| (((xs (y4 + (6 : Int32)).toNatClampNeg).toInt64) &&& (4294967295 : Int64))) r6 u8 g7) (cwV 4 hts gL_law_X1_piece rfl rfl rfl hdV_X1_piece ⟨(show _ ≤ _ by decide), (show _ ≤ _ by decide)⟩) (fun hP => rvX1 hK hP) hK hP hD hS hA rfl hl.1 (Nat.le_of_ble_eq_true rfl) rfl dL_law_218 ⟨(show _ ≤ 1056 by omega), (show _ ≤ 25841 by omega)⟩ (fun H locs hP hD hS => ?_)
        have hP : va_P (dC, dI) vwCl (wX1 cI cJ cZ bd u8 ++ (wX0 cI cJ cZ ad w5.1 ++ [(oo, .inl (cJ, 1, .inr (.inl w5.2)))])) H := hP
        have hD : va_D A (wX1 cI cJ cZ bd u8 ++ (wX0 cI cJ cZ ad w5.1 ++ [(oo, .inl (cJ, 1, .inr (.inl w5.2)))])) := hD
        refine lv_istore (lv' := [(6, .int r6), (5, .int r3), (0, .ref b), (1, .ref ((ad 0))), (2, .ref ((bd 0))), (3, .ref oo), (4, .int y4)]) hx hb dL_law_221 hl (by decide) rfl (fun ls hl => ?_)
        refine lv_aload_n hx hb dL_law_223 rfl (lv_at hl 4 rfl) ?_
        obtain ⟨r9, g10, h⟩ := q_s h
        refine qL_Vi (wa := []) (wb := wX0 cI cJ cZ ad w5.1 ++ [(oo, .inl (cJ, 1, .inr (.inl w5.2)))]) (rest := []) (As := []) ⟨hx, hb, hml, hown, hts⟩ (kX1_thrown l dC dI cI cJ cZ bd _ u8 r9 g10) (cwV 0 hts gL_law_X1_thrown rfl rfl rfl hdV_X1_thrown ⟨(show _ ≤ _ by decide), (show _ ≤ _ by decide)⟩) (fun hP => rvX1 hK hP) hK hP hD hS hA rfl hl.1 (Nat.le_of_ble_eq_true rfl) rfl dL_law_224 ⟨(show _ ≤ 1056 by omega), (show _ ≤ 25841 by omega)⟩ (fun H locs hP hD hS => ?_)
        have hP : va_P (dC, dI) vwCl (wX1 cI cJ cZ bd u8 ++ (wX0 cI cJ cZ ad w5.1 ++ [(oo, .inl (cJ, 1, .inr (.inl w5.2)))])) H := hP
        have hD : va_D A (wX1 cI cJ cZ bd u8 ++ (wX0 cI cJ cZ ad w5.1 ++ [(oo, .inl (cJ, 1, .inr (.inl w5.2)))])) := hD
        refine lv_iload hx hb dL_law_227 (lv_at hl 1 rfl) ?_
        refine lv_icmp_eq (tgt := 234) hx hb dL_law_229 (by decide) (fun c12 => ?_) (fun c12 => ?_)
        · have h := q_t h c12
          refine lv_iload hx hb dL_law_234 (lv_at hl 1 rfl) ?_
          refine lv_if_ne (tgt := 251) hx hb dL_law_236 (by decide) (fun c13 => ?_) (fun c13 => ?_)
          · have h := q_f h c13
            refine lv_goto (tgt := 820) hx hb dL_law_251 (by decide) ?_
            obtain ⟨v14, ev14, h⟩ := q_l h
            refine lv_iinc (v := v14) (lv' := [(4, .int v14), (6, .int r6), (5, .int r3), (0, .ref b), (1, .ref ((ad 0))), (2, .ref ((bd 0))), (3, .ref oo)]) hx hb dL_law_820 hl (k := 6) rfl (by rw [ev14]; rfl) (by decide) rfl (fun ls hl => ?_)
            refine lv_goto (tgt := 23) hx hb dL_law_823 (by decide) ?_
            refine W.widen (k := 30 + (k + 1)) (n := 17637 + 6 * (k + 1)) (by omega) (by omega) ?_
            exact ih (k + 1) w5.1 u8 w5.2 v14 _ _ _ h (by omega) hP hD hS (lv_sub hl [3, 4, 5, 6, 0] rfl)
          · have h := q_t h c13
            refine lv_aload_n hx hb dL_law_239 rfl (lv_at hl 5 rfl) ?_
            refine lv_iconst (v := (0 : Int32)) hx hb dL_law_240 (by decide) ?_
            obtain ⟨hin, h⟩ := q_g h
            refine va_lald hx hb hK hP 29 1 (n := 1) (f := w5.2) rfl rfl hin dL_law_241 ?_
            refine lv_iload hx hb dL_law_242 (lv_at hl 0 rfl) ?_
            refine lv_i2l (v := r6.toInt64) hx hb dL_law_244 rfl ?_
            refine q_lc_eq (tgt := 251) hx hb dL_law_245 dL_law_246 (by decide) (fun c15 => ?_) (fun c15 => ?_)
            · have h := q_t h c15
              refine lv_goto (tgt := 820) hx hb dL_law_251 (by decide) ?_
              obtain ⟨v16, ev16, h⟩ := q_l h
              refine lv_iinc (v := v16) (lv' := [(4, .int v16), (6, .int r6), (5, .int r3), (0, .ref b), (1, .ref ((ad 0))), (2, .ref ((bd 0))), (3, .ref oo)]) hx hb dL_law_820 hl (k := 6) rfl (by rw [ev16]; rfl) (by decide) rfl (fun ls hl => ?_)
              refine lv_goto (tgt := 23) hx hb dL_law_823 (by decide) ?_
              refine W.widen (k := 30 + (k + 1)) (n := 17637 + 6 * (k + 1)) (by omega) (by omega) ?_
              exact ih (k + 1) w5.1 u8 w5.2 v16 _ _ _ h (by omega) hP hD hS (lv_sub hl [3, 4, 5, 6, 0] rfl)
            · have h := q_f h c15
              cases h
        · have h := q_f h c12
          cases h
      have h := q_f h c2
      by_cases c17 : ((xs y4.toNatClampNeg) &&& (15 : Int32)) = (1 : Int32)
      · have h := q_t h c17
        have ic17 : (((xs y4.toNatClampNeg) &&& (15 : Int32)) : Int32).toInt = 1 := by rw [c17]; rfl
        refine lv_tableIn (tgt := 254) hx hb dL_law_40 (by rw [ic17]; decide) (by rw [ic17]; decide) (by rw [ic17]; rfl) (by decide) ?_
        refine lv_aload_n hx hb dL_law_254 rfl (lv_at hl 1 rfl) ?_
        refine lv_aload_n hx hb dL_law_255 rfl (lv_at hl 0 rfl) ?_
        refine lv_iload hx hb dL_law_256 (lv_at hl 4 rfl) ?_
        refine lv_iconst (v := (1 : Int32)) hx hb dL_law_258 (by decide) ?_
        refine lv_iadd hx hb dL_law_259 ?_
        obtain ⟨hin, h⟩ := q_g h
        refine va_sld hx hb hX hbl hbA hS hin dL_law_260 ?_
        refine lv_aload_n hx hb dL_law_261 rfl (lv_at hl 0 rfl) ?_
        refine lv_iload hx hb dL_law_262 (lv_at hl 4 rfl) ?_
        refine lv_iconst (v := (2 : Int32)) hx hb dL_law_264 (by decide) ?_
        refine lv_iadd hx hb dL_law_265 ?_
        obtain ⟨hin, h⟩ := q_g h
        refine va_sld hx hb hX hbl hbA hS hin dL_law_266 ?_
        refine lv_aload_n hx hb dL_law_267 rfl (lv_at hl 0 rfl) ?_
        refine lv_iload hx hb dL_law_268 (lv_at hl 4 rfl) ?_
        refine lv_iconst (v := (3 : Int32)) hx hb dL_law_270 (by decide) ?_
        refine lv_iadd hx hb dL_law_271 ?_
        obtain ⟨hin, h⟩ := q_g h
        refine va_sld hx hb hX hbl hbA hS hin dL_law_272 ?_
        refine lv_if_eq (tgt := 280) hx hb dL_law_273 (by decide) (fun c18 => ?_) (fun c18 => ?_)
        · have h := q_t h c18
          refine lv_iconst (v := (0 : Int32)) hx hb dL_law_280 (by decide) ?_
          obtain ⟨r19, u21, g20, h⟩ := q_s2 h
          refine qL_Vi (wa := wX1 cI cJ cZ bd v) (wb := [(oo, .inl (cJ, 1, .inr (.inl f)))]) (rest := []) (As := [.int (xs (y4 + (1 : Int32)).toNatClampNeg), .int (xs (y4 + (2 : Int32)).toNatClampNeg), .int (0 : Int32)]) ⟨hx, hb, hml, hown, hts⟩ (kX0_turn l dC dI cI cJ cZ ad _ u (xs (y4 + (1 : Int32)).toNatClampNeg) (xs (y4 + (2 : Int32)).toNatClampNeg) (0 : Int32) r19 u21 g20) (cwV 3 hts gL_law_X0_turn rfl rfl rfl hdV_X0_turn ⟨(show _ ≤ _ by decide), (show _ ≤ _ by decide)⟩) (fun hP => rvX0 hK hP) hK hP hD hS hA rfl hl.1 (Nat.le_of_ble_eq_true rfl) rfl dL_law_281 ⟨(show _ ≤ 1056 by omega), (show _ ≤ 25841 by omega)⟩ (fun H locs hP hD hS => ?_)
          have hP : va_P (dC, dI) vwCl (wX1 cI cJ cZ bd v ++ (wX0 cI cJ cZ ad u21 ++ [(oo, .inl (cJ, 1, .inr (.inl f)))])) H := hP
          have hD : va_D A (wX1 cI cJ cZ bd v ++ (wX0 cI cJ cZ ad u21 ++ [(oo, .inl (cJ, 1, .inr (.inl f)))])) := hD
          refine lv_aload_n hx hb dL_law_284 rfl (lv_at hl 2 rfl) ?_
          refine lv_aload_n hx hb dL_law_285 rfl (lv_at hl 0 rfl) ?_
          refine lv_iload hx hb dL_law_286 (lv_at hl 4 rfl) ?_
          refine lv_iconst (v := (1 : Int32)) hx hb dL_law_288 (by decide) ?_
          refine lv_iadd hx hb dL_law_289 ?_
          obtain ⟨hin, h⟩ := q_g h
          refine va_sld hx hb hX hbl hbA hS hin dL_law_290 ?_
          refine lv_aload_n hx hb dL_law_291 rfl (lv_at hl 0 rfl) ?_
          refine lv_iload hx hb dL_law_292 (lv_at hl 4 rfl) ?_
          refine lv_iconst (v := (2 : Int32)) hx hb dL_law_294 (by decide) ?_
          refine lv_iadd hx hb dL_law_295 ?_
          obtain ⟨hin, h⟩ := q_g h
          refine va_sld hx hb hX hbl hbA hS hin dL_law_296 ?_
          refine lv_aload_n hx hb dL_law_297 rfl (lv_at hl 0 rfl) ?_
          refine lv_iload hx hb dL_law_298 (lv_at hl 4 rfl) ?_
          refine lv_iconst (v := (3 : Int32)) hx hb dL_law_300 (by decide) ?_
          refine lv_iadd hx hb dL_law_301 ?_
          obtain ⟨hin, h⟩ := q_g h
          refine va_sld hx hb hX hbl hbA hS hin dL_law_302 ?_
          refine lv_if_eq (tgt := 310) hx hb dL_law_303 (by decide) (fun c22 => ?_) (fun c22 => ?_)
          · have h := q_t h c22
            refine lv_iconst (v := (0 : Int32)) hx hb dL_law_310 (by decide) ?_
            obtain ⟨r23, u25, g24, h⟩ := q_s2 h
            refine qL_Vi (wa := []) (wb := wX0 cI cJ cZ ad u21 ++ [(oo, .inl (cJ, 1, .inr (.inl f)))]) (rest := [.int r19]) (As := [.int (xs (y4 + (1 : Int32)).toNatClampNeg), .int (xs (y4 + (2 : Int32)).toNatClampNeg), .int (0 : Int32)]) ⟨hx, hb, hml, hown, hts⟩ (kX1_turn l dC dI cI cJ cZ bd _ v (xs (y4 + (1 : Int32)).toNatClampNeg) (xs (y4 + (2 : Int32)).toNatClampNeg) (0 : Int32) r23 u25 g24) (cwV 3 hts gL_law_X1_turn rfl rfl rfl hdV_X1_turn ⟨(show _ ≤ _ by decide), (show _ ≤ _ by decide)⟩) (fun hP => rvX1 hK hP) hK hP hD hS hA rfl hl.1 (Nat.le_of_ble_eq_true rfl) rfl dL_law_311 ⟨(show _ ≤ 1056 by omega), (show _ ≤ 25841 by omega)⟩ (fun H locs hP hD hS => ?_)
            have hP : va_P (dC, dI) vwCl (wX1 cI cJ cZ bd u25 ++ (wX0 cI cJ cZ ad u21 ++ [(oo, .inl (cJ, 1, .inr (.inl f)))])) H := hP
            have hD : va_D A (wX1 cI cJ cZ bd u25 ++ (wX0 cI cJ cZ ad u21 ++ [(oo, .inl (cJ, 1, .inr (.inl f)))])) := hD
            refine lv_icmp_eq (tgt := 820) hx hb dL_law_314 (by decide) (fun c26 => ?_) (fun c26 => ?_)
            · have h := q_t h c26
              obtain ⟨v27, ev27, h⟩ := q_l h
              refine lv_iinc (v := v27) (lv' := [(4, .int v27), (0, .ref b), (1, .ref ((ad 0))), (2, .ref ((bd 0))), (3, .ref oo)]) hx hb dL_law_820 hl (k := 4) rfl (by rw [ev27]; rfl) (by decide) rfl (fun ls hl => ?_)
              refine lv_goto (tgt := 23) hx hb dL_law_823 (by decide) ?_
              refine W.widen (k := 30 + (k + 1)) (n := 17637 + 6 * (k + 1)) (by omega) (by omega) ?_
              exact ih (k + 1) u21 u25 f v27 _ _ _ h (by omega) hP hD hS (lv_sub hl [1, 2, 3, 4, 0] rfl)
            · have h := q_f h c26
              cases h
          · have h := q_f h c22
            refine lv_iconst (v := (1 : Int32)) hx hb dL_law_306 (by decide) ?_
            refine lv_goto (tgt := 311) hx hb dL_law_307 (by decide) ?_
            obtain ⟨r28, u30, g29, h⟩ := q_s2 h
            refine qL_Vi (wa := []) (wb := wX0 cI cJ cZ ad u21 ++ [(oo, .inl (cJ, 1, .inr (.inl f)))]) (rest := [.int r19]) (As := [.int (xs (y4 + (1 : Int32)).toNatClampNeg), .int (xs (y4 + (2 : Int32)).toNatClampNeg), .int (1 : Int32)]) ⟨hx, hb, hml, hown, hts⟩ (kX1_turn l dC dI cI cJ cZ bd _ v (xs (y4 + (1 : Int32)).toNatClampNeg) (xs (y4 + (2 : Int32)).toNatClampNeg) (1 : Int32) r28 u30 g29) (cwV 3 hts gL_law_X1_turn rfl rfl rfl hdV_X1_turn ⟨(show _ ≤ _ by decide), (show _ ≤ _ by decide)⟩) (fun hP => rvX1 hK hP) hK hP hD hS hA rfl hl.1 (Nat.le_of_ble_eq_true rfl) rfl dL_law_311 ⟨(show _ ≤ 1056 by omega), (show _ ≤ 25841 by omega)⟩ (fun H locs hP hD hS => ?_)
            have hP : va_P (dC, dI) vwCl (wX1 cI cJ cZ bd u30 ++ (wX0 cI cJ cZ ad u21 ++ [(oo, .inl (cJ, 1, .inr (.inl f)))])) H := hP
            have hD : va_D A (wX1 cI cJ cZ bd u30 ++ (wX0 cI cJ cZ ad u21 ++ [(oo, .inl (cJ, 1, .inr (.inl f)))])) := hD
            refine lv_icmp_eq (tgt := 820) hx hb dL_law_314 (by decide) (fun c31 => ?_) (fun c31 => ?_)
            · have h := q_t h c31
              obtain ⟨v32, ev32, h⟩ := q_l h
              refine lv_iinc (v := v32) (lv' := [(4, .int v32), (0, .ref b), (1, .ref ((ad 0))), (2, .ref ((bd 0))), (3, .ref oo)]) hx hb dL_law_820 hl (k := 4) rfl (by rw [ev32]; rfl) (by decide) rfl (fun ls hl => ?_)
              refine lv_goto (tgt := 23) hx hb dL_law_823 (by decide) ?_
              refine W.widen (k := 30 + (k + 1)) (n := 17637 + 6 * (k + 1)) (by omega) (by omega) ?_
              exact ih (k + 1) u21 u30 f v32 _ _ _ h (by omega) hP hD hS (lv_sub hl [1, 2, 3, 4, 0] rfl)
            · have h := q_f h c31
              cases h
        · have h := q_f h c18
          refine lv_iconst (v := (1 : Int32)) hx hb dL_law_276 (by decide) ?_
          refine lv_goto (tgt := 281) hx hb dL_law_277 (by decide) ?_
          obtain ⟨r33, u35, g34, h⟩ := q_s2 h
          refine qL_Vi (wa := wX1 cI cJ cZ bd v) (wb := [(oo, .inl (cJ, 1, .inr (.inl f)))]) (rest := []) (As := [.int (xs (y4 + (1 : Int32)).toNatClampNeg), .int (xs (y4 + (2 : Int32)).toNatClampNeg), .int (1 : Int32)]) ⟨hx, hb, hml, hown, hts⟩ (kX0_turn l dC dI cI cJ cZ ad _ u (xs (y4 + (1 : Int32)).toNatClampNeg) (xs (y4 + (2 : Int32)).toNatClampNeg) (1 : Int32) r33 u35 g34) (cwV 3 hts gL_law_X0_turn rfl rfl rfl hdV_X0_turn ⟨(show _ ≤ _ by decide), (show _ ≤ _ by decide)⟩) (fun hP => rvX0 hK hP) hK hP hD hS hA rfl hl.1 (Nat.le_of_ble_eq_true rfl) rfl dL_law_281 ⟨(show _ ≤ 1056 by omega), (show _ ≤ 25841 by omega)⟩ (fun H locs hP hD hS => ?_)
          have hP : va_P (dC, dI) vwCl (wX1 cI cJ cZ bd v ++ (wX0 cI cJ cZ ad u35 ++ [(oo, .inl (cJ, 1, .inr (.inl f)))])) H := hP
          have hD : va_D A (wX1 cI cJ cZ bd v ++ (wX0 cI cJ cZ ad u35 ++ [(oo, .inl (cJ, 1, .inr (.inl f)))])) := hD
          refine lv_aload_n hx hb dL_law_284 rfl (lv_at hl 2 rfl) ?_
          refine lv_aload_n hx hb dL_law_285 rfl (lv_at hl 0 rfl) ?_
          refine lv_iload hx hb dL_law_286 (lv_at hl 4 rfl) ?_
          refine lv_iconst (v := (1 : Int32)) hx hb dL_law_288 (by decide) ?_
          refine lv_iadd hx hb dL_law_289 ?_
          obtain ⟨hin, h⟩ := q_g h
          refine va_sld hx hb hX hbl hbA hS hin dL_law_290 ?_
          refine lv_aload_n hx hb dL_law_291 rfl (lv_at hl 0 rfl) ?_
          refine lv_iload hx hb dL_law_292 (lv_at hl 4 rfl) ?_
          refine lv_iconst (v := (2 : Int32)) hx hb dL_law_294 (by decide) ?_
          refine lv_iadd hx hb dL_law_295 ?_
          obtain ⟨hin, h⟩ := q_g h
          refine va_sld hx hb hX hbl hbA hS hin dL_law_296 ?_
          refine lv_aload_n hx hb dL_law_297 rfl (lv_at hl 0 rfl) ?_
          refine lv_iload hx hb dL_law_298 (lv_at hl 4 rfl) ?_
          refine lv_iconst (v := (3 : Int32)) hx hb dL_law_300 (by decide) ?_
          refine lv_iadd hx hb dL_law_301 ?_
          obtain ⟨hin, h⟩ := q_g h
          refine va_sld hx hb hX hbl hbA hS hin dL_law_302 ?_
          refine lv_if_eq (tgt := 310) hx hb dL_law_303 (by decide) (fun c36 => ?_) (fun c36 => ?_)
          · have h := q_t h c36
            refine lv_iconst (v := (0 : Int32)) hx hb dL_law_310 (by decide) ?_
            obtain ⟨r37, u39, g38, h⟩ := q_s2 h
            refine qL_Vi (wa := []) (wb := wX0 cI cJ cZ ad u35 ++ [(oo, .inl (cJ, 1, .inr (.inl f)))]) (rest := [.int r33]) (As := [.int (xs (y4 + (1 : Int32)).toNatClampNeg), .int (xs (y4 + (2 : Int32)).toNatClampNeg), .int (0 : Int32)]) ⟨hx, hb, hml, hown, hts⟩ (kX1_turn l dC dI cI cJ cZ bd _ v (xs (y4 + (1 : Int32)).toNatClampNeg) (xs (y4 + (2 : Int32)).toNatClampNeg) (0 : Int32) r37 u39 g38) (cwV 3 hts gL_law_X1_turn rfl rfl rfl hdV_X1_turn ⟨(show _ ≤ _ by decide), (show _ ≤ _ by decide)⟩) (fun hP => rvX1 hK hP) hK hP hD hS hA rfl hl.1 (Nat.le_of_ble_eq_true rfl) rfl dL_law_311 ⟨(show _ ≤ 1056 by omega), (show _ ≤ 25841 by omega)⟩ (fun H locs hP hD hS => ?_)
            have hP : va_P (dC, dI) vwCl (wX1 cI cJ cZ bd u39 ++ (wX0 cI cJ cZ ad u35 ++ [(oo, .inl (cJ, 1, .inr (.inl f)))])) H := hP
            have hD : va_D A (wX1 cI cJ cZ bd u39 ++ (wX0 cI cJ cZ ad u35 ++ [(oo, .inl (cJ, 1, .inr (.inl f)))])) := hD
            refine lv_icmp_eq (tgt := 820) hx hb dL_law_314 (by decide) (fun c40 => ?_) (fun c40 => ?_)
            · have h := q_t h c40
              obtain ⟨v41, ev41, h⟩ := q_l h
              refine lv_iinc (v := v41) (lv' := [(4, .int v41), (0, .ref b), (1, .ref ((ad 0))), (2, .ref ((bd 0))), (3, .ref oo)]) hx hb dL_law_820 hl (k := 4) rfl (by rw [ev41]; rfl) (by decide) rfl (fun ls hl => ?_)
              refine lv_goto (tgt := 23) hx hb dL_law_823 (by decide) ?_
              refine W.widen (k := 30 + (k + 1)) (n := 17637 + 6 * (k + 1)) (by omega) (by omega) ?_
              exact ih (k + 1) u35 u39 f v41 _ _ _ h (by omega) hP hD hS (lv_sub hl [1, 2, 3, 4, 0] rfl)
            · have h := q_f h c40
              cases h
          · have h := q_f h c36
            refine lv_iconst (v := (1 : Int32)) hx hb dL_law_306 (by decide) ?_
            refine lv_goto (tgt := 311) hx hb dL_law_307 (by decide) ?_
            obtain ⟨r42, u44, g43, h⟩ := q_s2 h
            refine qL_Vi (wa := []) (wb := wX0 cI cJ cZ ad u35 ++ [(oo, .inl (cJ, 1, .inr (.inl f)))]) (rest := [.int r33]) (As := [.int (xs (y4 + (1 : Int32)).toNatClampNeg), .int (xs (y4 + (2 : Int32)).toNatClampNeg), .int (1 : Int32)]) ⟨hx, hb, hml, hown, hts⟩ (kX1_turn l dC dI cI cJ cZ bd _ v (xs (y4 + (1 : Int32)).toNatClampNeg) (xs (y4 + (2 : Int32)).toNatClampNeg) (1 : Int32) r42 u44 g43) (cwV 3 hts gL_law_X1_turn rfl rfl rfl hdV_X1_turn ⟨(show _ ≤ _ by decide), (show _ ≤ _ by decide)⟩) (fun hP => rvX1 hK hP) hK hP hD hS hA rfl hl.1 (Nat.le_of_ble_eq_true rfl) rfl dL_law_311 ⟨(show _ ≤ 1056 by omega), (show _ ≤ 25841 by omega)⟩ (fun H locs hP hD hS => ?_)
            have hP : va_P (dC, dI) vwCl (wX1 cI cJ cZ bd u44 ++ (wX0 cI cJ cZ ad u35 ++ [(oo, .inl (cJ, 1, .inr (.inl f)))])) H := hP
            have hD : va_D A (wX1 cI cJ cZ bd u44 ++ (wX0 cI cJ cZ ad u35 ++ [(oo, .inl (cJ, 1, .inr (.inl f)))])) := hD
            refine lv_icmp_eq (tgt := 820) hx hb dL_law_314 (by decide) (fun c45 => ?_) (fun c45 => ?_)
            · have h := q_t h c45
              obtain ⟨v46, ev46, h⟩ := q_l h
              refine lv_iinc (v := v46) (lv' := [(4, .int v46), (0, .ref b), (1, .ref ((ad 0))), (2, .ref ((bd 0))), (3, .ref oo)]) hx hb dL_law_820 hl (k := 4) rfl (by rw [ev46]; rfl) (by decide) rfl (fun ls hl => ?_)
              refine lv_goto (tgt := 23) hx hb dL_law_823 (by decide) ?_
              refine W.widen (k := 30 + (k + 1)) (n := 17637 + 6 * (k + 1)) (by omega) (by omega) ?_
              exact ih (k + 1) u35 u44 f v46 _ _ _ h (by omega) hP hD hS (lv_sub hl [1, 2, 3, 4, 0] rfl)
            · have h := q_f h c45
              cases h
      have h := q_f h c17
      by_cases c47 : ((xs y4.toNatClampNeg) &&& (15 : Int32)) = (2 : Int32)
      · have h := q_t h c47
        have ic47 : (((xs y4.toNatClampNeg) &&& (15 : Int32)) : Int32).toInt = 2 := by rw [c47]; rfl
        refine lv_tableIn (tgt := 319) hx hb dL_law_40 (by rw [ic47]; decide) (by rw [ic47]; decide) (by rw [ic47]; rfl) (by decide) ?_
        refine lv_aload_n hx hb dL_law_319 rfl (lv_at hl 1 rfl) ?_
        refine lv_aload_n hx hb dL_law_320 rfl (lv_at hl 0 rfl) ?_
        refine lv_iload hx hb dL_law_321 (lv_at hl 4 rfl) ?_
        refine lv_iconst (v := (1 : Int32)) hx hb dL_law_323 (by decide) ?_
        refine lv_iadd hx hb dL_law_324 ?_
        obtain ⟨hin, h⟩ := q_g h
        refine va_sld hx hb hX hbl hbA hS hin dL_law_325 ?_
        refine lv_aload_n hx hb dL_law_326 rfl (lv_at hl 0 rfl) ?_
        refine lv_iload hx hb dL_law_327 (lv_at hl 4 rfl) ?_
        refine lv_iconst (v := (2 : Int32)) hx hb dL_law_329 (by decide) ?_
        refine lv_iadd hx hb dL_law_330 ?_
        obtain ⟨hin, h⟩ := q_g h
        refine va_sld hx hb hX hbl hbA hS hin dL_law_331 ?_
        refine lv_aload_n hx hb dL_law_332 rfl (lv_at hl 0 rfl) ?_
        refine lv_iload hx hb dL_law_333 (lv_at hl 4 rfl) ?_
        refine lv_iconst (v := (3 : Int32)) hx hb dL_law_335 (by decide) ?_
        refine lv_iadd hx hb dL_law_336 ?_
        obtain ⟨hin, h⟩ := q_g h
        refine va_sld hx hb hX hbl hbA hS hin dL_law_337 ?_
        refine lv_i2l (v := (xs (y4 + (3 : Int32)).toNatClampNeg).toInt64) hx hb dL_law_338 rfl ?_
        refine lv_bipush (v := (32 : Int32)) hx hb dL_law_339 (by decide) ?_
        refine lv_lshl (v := ((xs (y4 + (3 : Int32)).toNatClampNeg).toInt64) <<< ((32 : Int32).toInt64 &&& 63)) hx hb dL_law_341 rfl ?_
        refine lv_aload_n hx hb dL_law_342 rfl (lv_at hl 0 rfl) ?_
        refine lv_iload hx hb dL_law_343 (lv_at hl 4 rfl) ?_
        refine lv_iconst (v := (4 : Int32)) hx hb dL_law_345 (by decide) ?_
        refine lv_iadd hx hb dL_law_346 ?_
        obtain ⟨hin, h⟩ := q_g h
        refine va_sld hx hb hX hbl hbA hS hin dL_law_347 ?_
        refine lv_i2l (v := (xs (y4 + (4 : Int32)).toNatClampNeg).toInt64) hx hb dL_law_348 rfl ?_
        refine lv_ldc2 hx hb hown (hts _ mL_law_25) dL_law_349 ?_
        refine lv_land hx hb dL_law_352 ?_
        refine lv_lor hx hb dL_law_353 ?_
        obtain ⟨r48, u50, g49, h⟩ := q_s2 h
        refine qL_Vi (wa := wX1 cI cJ cZ bd v) (wb := [(oo, .inl (cJ, 1, .inr (.inl f)))]) (rest := []) (As := [.int (xs (y4 + (1 : Int32)).toNatClampNeg), .int (xs (y4 + (2 : Int32)).toNatClampNeg), .long ((((xs (y4 + (3 : Int32)).toNatClampNeg).toInt64) <<< ((32 : Int32).toInt64 &&& 63)) ||| (((xs (y4 + (4 : Int32)).toNatClampNeg).toInt64) &&& (4294967295 : Int64)))]) ⟨hx, hb, hml, hown, hts⟩ (kX0_stop l dC dI cI cJ cZ ad _ u (xs (y4 + (1 : Int32)).toNatClampNeg) (xs (y4 + (2 : Int32)).toNatClampNeg) ((((xs (y4 + (3 : Int32)).toNatClampNeg).toInt64) <<< ((32 : Int32).toInt64 &&& 63)) ||| (((xs (y4 + (4 : Int32)).toNatClampNeg).toInt64) &&& (4294967295 : Int64))) r48 u50 g49) (cwV 3 hts gL_law_X0_stop rfl rfl rfl hdV_X0_stop ⟨(show _ ≤ _ by decide), (show _ ≤ _ by decide)⟩) (fun hP => rvX0 hK hP) hK hP hD hS hA rfl hl.1 (Nat.le_of_ble_eq_true rfl) rfl dL_law_354 ⟨(show _ ≤ 1056 by omega), (show _ ≤ 25841 by omega)⟩ (fun H locs hP hD hS => ?_)
        have hP : va_P (dC, dI) vwCl (wX1 cI cJ cZ bd v ++ (wX0 cI cJ cZ ad u50 ++ [(oo, .inl (cJ, 1, .inr (.inl f)))])) H := hP
        have hD : va_D A (wX1 cI cJ cZ bd v ++ (wX0 cI cJ cZ ad u50 ++ [(oo, .inl (cJ, 1, .inr (.inl f)))])) := hD
        refine lv_aload_n hx hb dL_law_357 rfl (lv_at hl 2 rfl) ?_
        refine lv_aload_n hx hb dL_law_358 rfl (lv_at hl 0 rfl) ?_
        refine lv_iload hx hb dL_law_359 (lv_at hl 4 rfl) ?_
        refine lv_iconst (v := (1 : Int32)) hx hb dL_law_361 (by decide) ?_
        refine lv_iadd hx hb dL_law_362 ?_
        obtain ⟨hin, h⟩ := q_g h
        refine va_sld hx hb hX hbl hbA hS hin dL_law_363 ?_
        refine lv_aload_n hx hb dL_law_364 rfl (lv_at hl 0 rfl) ?_
        refine lv_iload hx hb dL_law_365 (lv_at hl 4 rfl) ?_
        refine lv_iconst (v := (2 : Int32)) hx hb dL_law_367 (by decide) ?_
        refine lv_iadd hx hb dL_law_368 ?_
        obtain ⟨hin, h⟩ := q_g h
        refine va_sld hx hb hX hbl hbA hS hin dL_law_369 ?_
        refine lv_aload_n hx hb dL_law_370 rfl (lv_at hl 0 rfl) ?_
        refine lv_iload hx hb dL_law_371 (lv_at hl 4 rfl) ?_
        refine lv_iconst (v := (3 : Int32)) hx hb dL_law_373 (by decide) ?_
        refine lv_iadd hx hb dL_law_374 ?_
        obtain ⟨hin, h⟩ := q_g h
        refine va_sld hx hb hX hbl hbA hS hin dL_law_375 ?_
        refine lv_i2l (v := (xs (y4 + (3 : Int32)).toNatClampNeg).toInt64) hx hb dL_law_376 rfl ?_
        refine lv_bipush (v := (32 : Int32)) hx hb dL_law_377 (by decide) ?_
        refine lv_lshl (v := ((xs (y4 + (3 : Int32)).toNatClampNeg).toInt64) <<< ((32 : Int32).toInt64 &&& 63)) hx hb dL_law_379 rfl ?_
        refine lv_aload_n hx hb dL_law_380 rfl (lv_at hl 0 rfl) ?_
        refine lv_iload hx hb dL_law_381 (lv_at hl 4 rfl) ?_
        refine lv_iconst (v := (4 : Int32)) hx hb dL_law_383 (by decide) ?_
        refine lv_iadd hx hb dL_law_384 ?_
        obtain ⟨hin, h⟩ := q_g h
        refine va_sld hx hb hX hbl hbA hS hin dL_law_385 ?_
        refine lv_i2l (v := (xs (y4 + (4 : Int32)).toNatClampNeg).toInt64) hx hb dL_law_386 rfl ?_
        refine lv_ldc2 hx hb hown (hts _ mL_law_25) dL_law_387 ?_
        refine lv_land hx hb dL_law_390 ?_
        refine lv_lor hx hb dL_law_391 ?_
        obtain ⟨r51, u53, g52, h⟩ := q_s2 h
        refine qL_Vi (wa := []) (wb := wX0 cI cJ cZ ad u50 ++ [(oo, .inl (cJ, 1, .inr (.inl f)))]) (rest := [.int r48]) (As := [.int (xs (y4 + (1 : Int32)).toNatClampNeg), .int (xs (y4 + (2 : Int32)).toNatClampNeg), .long ((((xs (y4 + (3 : Int32)).toNatClampNeg).toInt64) <<< ((32 : Int32).toInt64 &&& 63)) ||| (((xs (y4 + (4 : Int32)).toNatClampNeg).toInt64) &&& (4294967295 : Int64)))]) ⟨hx, hb, hml, hown, hts⟩ (kX1_stop l dC dI cI cJ cZ bd _ v (xs (y4 + (1 : Int32)).toNatClampNeg) (xs (y4 + (2 : Int32)).toNatClampNeg) ((((xs (y4 + (3 : Int32)).toNatClampNeg).toInt64) <<< ((32 : Int32).toInt64 &&& 63)) ||| (((xs (y4 + (4 : Int32)).toNatClampNeg).toInt64) &&& (4294967295 : Int64))) r51 u53 g52) (cwV 3 hts gL_law_X1_stop rfl rfl rfl hdV_X1_stop ⟨(show _ ≤ _ by decide), (show _ ≤ _ by decide)⟩) (fun hP => rvX1 hK hP) hK hP hD hS hA rfl hl.1 (Nat.le_of_ble_eq_true rfl) rfl dL_law_392 ⟨(show _ ≤ 1056 by omega), (show _ ≤ 25841 by omega)⟩ (fun H locs hP hD hS => ?_)
        have hP : va_P (dC, dI) vwCl (wX1 cI cJ cZ bd u53 ++ (wX0 cI cJ cZ ad u50 ++ [(oo, .inl (cJ, 1, .inr (.inl f)))])) H := hP
        have hD : va_D A (wX1 cI cJ cZ bd u53 ++ (wX0 cI cJ cZ ad u50 ++ [(oo, .inl (cJ, 1, .inr (.inl f)))])) := hD
        refine lv_icmp_eq (tgt := 820) hx hb dL_law_395 (by decide) (fun c54 => ?_) (fun c54 => ?_)
        · have h := q_t h c54
          obtain ⟨v55, ev55, h⟩ := q_l h
          refine lv_iinc (v := v55) (lv' := [(4, .int v55), (0, .ref b), (1, .ref ((ad 0))), (2, .ref ((bd 0))), (3, .ref oo)]) hx hb dL_law_820 hl (k := 4) rfl (by rw [ev55]; rfl) (by decide) rfl (fun ls hl => ?_)
          refine lv_goto (tgt := 23) hx hb dL_law_823 (by decide) ?_
          refine W.widen (k := 30 + (k + 1)) (n := 17637 + 6 * (k + 1)) (by omega) (by omega) ?_
          exact ih (k + 1) u50 u53 f v55 _ _ _ h (by omega) hP hD hS (lv_sub hl [1, 2, 3, 4, 0] rfl)
        · have h := q_f h c54
          cases h
      have h := q_f h c47
      by_cases c56 : ((xs y4.toNatClampNeg) &&& (15 : Int32)) = (3 : Int32)
      · have h := q_t h c56
        have ic56 : (((xs y4.toNatClampNeg) &&& (15 : Int32)) : Int32).toInt = 3 := by rw [c56]; rfl
        refine lv_tableIn (tgt := 400) hx hb dL_law_40 (by rw [ic56]; decide) (by rw [ic56]; decide) (by rw [ic56]; rfl) (by decide) ?_
        refine lv_aload_n hx hb dL_law_400 rfl (lv_at hl 1 rfl) ?_
        refine lv_aload_n hx hb dL_law_401 rfl (lv_at hl 0 rfl) ?_
        refine lv_iload hx hb dL_law_402 (lv_at hl 4 rfl) ?_
        refine lv_iconst (v := (1 : Int32)) hx hb dL_law_404 (by decide) ?_
        refine lv_iadd hx hb dL_law_405 ?_
        obtain ⟨hin, h⟩ := q_g h
        refine va_sld hx hb hX hbl hbA hS hin dL_law_406 ?_
        refine lv_aload_n hx hb dL_law_407 rfl (lv_at hl 0 rfl) ?_
        refine lv_iload hx hb dL_law_408 (lv_at hl 4 rfl) ?_
        refine lv_iconst (v := (2 : Int32)) hx hb dL_law_410 (by decide) ?_
        refine lv_iadd hx hb dL_law_411 ?_
        obtain ⟨hin, h⟩ := q_g h
        refine va_sld hx hb hX hbl hbA hS hin dL_law_412 ?_
        refine lv_aload_n hx hb dL_law_413 rfl (lv_at hl 0 rfl) ?_
        refine lv_iload hx hb dL_law_414 (lv_at hl 4 rfl) ?_
        refine lv_iconst (v := (3 : Int32)) hx hb dL_law_416 (by decide) ?_
        refine lv_iadd hx hb dL_law_417 ?_
        obtain ⟨hin, h⟩ := q_g h
        refine va_sld hx hb hX hbl hbA hS hin dL_law_418 ?_
        refine lv_i2l (v := (xs (y4 + (3 : Int32)).toNatClampNeg).toInt64) hx hb dL_law_419 rfl ?_
        refine lv_bipush (v := (32 : Int32)) hx hb dL_law_420 (by decide) ?_
        refine lv_lshl (v := ((xs (y4 + (3 : Int32)).toNatClampNeg).toInt64) <<< ((32 : Int32).toInt64 &&& 63)) hx hb dL_law_422 rfl ?_
        refine lv_aload_n hx hb dL_law_423 rfl (lv_at hl 0 rfl) ?_
        refine lv_iload hx hb dL_law_424 (lv_at hl 4 rfl) ?_
        refine lv_iconst (v := (4 : Int32)) hx hb dL_law_426 (by decide) ?_
        refine lv_iadd hx hb dL_law_427 ?_
        obtain ⟨hin, h⟩ := q_g h
        refine va_sld hx hb hX hbl hbA hS hin dL_law_428 ?_
        refine lv_i2l (v := (xs (y4 + (4 : Int32)).toNatClampNeg).toInt64) hx hb dL_law_429 rfl ?_
        refine lv_ldc2 hx hb hown (hts _ mL_law_25) dL_law_430 ?_
        refine lv_land hx hb dL_law_433 ?_
        refine lv_lor hx hb dL_law_434 ?_
        obtain ⟨r57, u59, g58, h⟩ := q_s2 h
        refine qL_Vl (wa := wX1 cI cJ cZ bd v) (wb := [(oo, .inl (cJ, 1, .inr (.inl f)))]) (rest := []) (As := [.int (xs (y4 + (1 : Int32)).toNatClampNeg), .int (xs (y4 + (2 : Int32)).toNatClampNeg), .long ((((xs (y4 + (3 : Int32)).toNatClampNeg).toInt64) <<< ((32 : Int32).toInt64 &&& 63)) ||| (((xs (y4 + (4 : Int32)).toNatClampNeg).toInt64) &&& (4294967295 : Int64)))]) ⟨hx, hb, hml, hown, hts⟩ (kX0_way l dC dI cI cJ cZ ad _ u (xs (y4 + (1 : Int32)).toNatClampNeg) (xs (y4 + (2 : Int32)).toNatClampNeg) ((((xs (y4 + (3 : Int32)).toNatClampNeg).toInt64) <<< ((32 : Int32).toInt64 &&& 63)) ||| (((xs (y4 + (4 : Int32)).toNatClampNeg).toInt64) &&& (4294967295 : Int64))) r57 u59 g58) (cwV 3 hts gL_law_X0_way rfl rfl rfl hdV_X0_way ⟨(show _ ≤ _ by decide), (show _ ≤ _ by decide)⟩) (fun hP => rvX0 hK hP) hK hP hD hS hA rfl hl.1 (Nat.le_of_ble_eq_true rfl) rfl dL_law_435 ⟨(show _ ≤ 1056 by omega), (show _ ≤ 25841 by omega)⟩ (fun H locs hP hD hS => ?_)
        have hP : va_P (dC, dI) vwCl (wX1 cI cJ cZ bd v ++ (wX0 cI cJ cZ ad u59 ++ [(oo, .inl (cJ, 1, .inr (.inl f)))])) H := hP
        have hD : va_D A (wX1 cI cJ cZ bd v ++ (wX0 cI cJ cZ ad u59 ++ [(oo, .inl (cJ, 1, .inr (.inl f)))])) := hD
        refine lv_aload_n hx hb dL_law_438 rfl (lv_at hl 2 rfl) ?_
        refine lv_aload_n hx hb dL_law_439 rfl (lv_at hl 0 rfl) ?_
        refine lv_iload hx hb dL_law_440 (lv_at hl 4 rfl) ?_
        refine lv_iconst (v := (1 : Int32)) hx hb dL_law_442 (by decide) ?_
        refine lv_iadd hx hb dL_law_443 ?_
        obtain ⟨hin, h⟩ := q_g h
        refine va_sld hx hb hX hbl hbA hS hin dL_law_444 ?_
        refine lv_aload_n hx hb dL_law_445 rfl (lv_at hl 0 rfl) ?_
        refine lv_iload hx hb dL_law_446 (lv_at hl 4 rfl) ?_
        refine lv_iconst (v := (2 : Int32)) hx hb dL_law_448 (by decide) ?_
        refine lv_iadd hx hb dL_law_449 ?_
        obtain ⟨hin, h⟩ := q_g h
        refine va_sld hx hb hX hbl hbA hS hin dL_law_450 ?_
        refine lv_aload_n hx hb dL_law_451 rfl (lv_at hl 0 rfl) ?_
        refine lv_iload hx hb dL_law_452 (lv_at hl 4 rfl) ?_
        refine lv_iconst (v := (3 : Int32)) hx hb dL_law_454 (by decide) ?_
        refine lv_iadd hx hb dL_law_455 ?_
        obtain ⟨hin, h⟩ := q_g h
        refine va_sld hx hb hX hbl hbA hS hin dL_law_456 ?_
        refine lv_i2l (v := (xs (y4 + (3 : Int32)).toNatClampNeg).toInt64) hx hb dL_law_457 rfl ?_
        refine lv_bipush (v := (32 : Int32)) hx hb dL_law_458 (by decide) ?_
        refine lv_lshl (v := ((xs (y4 + (3 : Int32)).toNatClampNeg).toInt64) <<< ((32 : Int32).toInt64 &&& 63)) hx hb dL_law_460 rfl ?_
        refine lv_aload_n hx hb dL_law_461 rfl (lv_at hl 0 rfl) ?_
        refine lv_iload hx hb dL_law_462 (lv_at hl 4 rfl) ?_
        refine lv_iconst (v := (4 : Int32)) hx hb dL_law_464 (by decide) ?_
        refine lv_iadd hx hb dL_law_465 ?_
        obtain ⟨hin, h⟩ := q_g h
        refine va_sld hx hb hX hbl hbA hS hin dL_law_466 ?_
        refine lv_i2l (v := (xs (y4 + (4 : Int32)).toNatClampNeg).toInt64) hx hb dL_law_467 rfl ?_
        refine lv_ldc2 hx hb hown (hts _ mL_law_25) dL_law_468 ?_
        refine lv_land hx hb dL_law_471 ?_
        refine lv_lor hx hb dL_law_472 ?_
        obtain ⟨r60, u62, g61, h⟩ := q_s2 h
        refine qL_Vl (wa := []) (wb := wX0 cI cJ cZ ad u59 ++ [(oo, .inl (cJ, 1, .inr (.inl f)))]) (rest := [.long r57]) (As := [.int (xs (y4 + (1 : Int32)).toNatClampNeg), .int (xs (y4 + (2 : Int32)).toNatClampNeg), .long ((((xs (y4 + (3 : Int32)).toNatClampNeg).toInt64) <<< ((32 : Int32).toInt64 &&& 63)) ||| (((xs (y4 + (4 : Int32)).toNatClampNeg).toInt64) &&& (4294967295 : Int64)))]) ⟨hx, hb, hml, hown, hts⟩ (kX1_way k9 l dC dI cI cJ cZ bd _ v (xs (y4 + (1 : Int32)).toNatClampNeg) (xs (y4 + (2 : Int32)).toNatClampNeg) ((((xs (y4 + (3 : Int32)).toNatClampNeg).toInt64) <<< ((32 : Int32).toInt64 &&& 63)) ||| (((xs (y4 + (4 : Int32)).toNatClampNeg).toInt64) &&& (4294967295 : Int64))) r60 u62 g61) (cwV 3 hts gL_law_X1_way rfl rfl rfl hdV_X1_way ⟨(show _ ≤ _ by decide), (show _ ≤ _ by decide)⟩) (fun hP => rvX1 hK hP) hK hP hD hS hA rfl hl.1 (Nat.le_of_ble_eq_true rfl) rfl dL_law_473 ⟨(show _ ≤ 1056 by omega), (show _ ≤ 25841 by omega)⟩ (fun H locs hP hD hS => ?_)
        have hP : va_P (dC, dI) vwCl (wX1 cI cJ cZ bd u62 ++ (wX0 cI cJ cZ ad u59 ++ [(oo, .inl (cJ, 1, .inr (.inl f)))])) H := hP
        have hD : va_D A (wX1 cI cJ cZ bd u62 ++ (wX0 cI cJ cZ ad u59 ++ [(oo, .inl (cJ, 1, .inr (.inl f)))])) := hD
        refine q_lc_eq (tgt := 820) hx hb dL_law_476 dL_law_477 (by decide) (fun c63 => ?_) (fun c63 => ?_)
        · have h := q_t h c63
          obtain ⟨v64, ev64, h⟩ := q_l h
          refine lv_iinc (v := v64) (lv' := [(4, .int v64), (0, .ref b), (1, .ref ((ad 0))), (2, .ref ((bd 0))), (3, .ref oo)]) hx hb dL_law_820 hl (k := 4) rfl (by rw [ev64]; rfl) (by decide) rfl (fun ls hl => ?_)
          refine lv_goto (tgt := 23) hx hb dL_law_823 (by decide) ?_
          refine W.widen (k := 30 + (k + 1)) (n := 17637 + 6 * (k + 1)) (by omega) (by omega) ?_
          exact ih (k + 1) u59 u62 f v64 _ _ _ h (by omega) hP hD hS (lv_sub hl [1, 2, 3, 4, 0] rfl)
        · have h := q_f h c63
          cases h
      have h := q_f h c56
      by_cases c65 : ((xs y4.toNatClampNeg) &&& (15 : Int32)) = (4 : Int32)
      · have h := q_t h c65
        have ic65 : (((xs y4.toNatClampNeg) &&& (15 : Int32)) : Int32).toInt = 4 := by rw [c65]; rfl
        refine lv_tableIn (tgt := 482) hx hb dL_law_40 (by rw [ic65]; decide) (by rw [ic65]; decide) (by rw [ic65]; rfl) (by decide) ?_
        refine lv_aload_n hx hb dL_law_482 rfl (lv_at hl 1 rfl) ?_
        refine lv_aload_n hx hb dL_law_483 rfl (lv_at hl 0 rfl) ?_
        refine lv_iload hx hb dL_law_484 (lv_at hl 4 rfl) ?_
        refine lv_iconst (v := (1 : Int32)) hx hb dL_law_486 (by decide) ?_
        refine lv_iadd hx hb dL_law_487 ?_
        obtain ⟨hin, h⟩ := q_g h
        refine va_sld hx hb hX hbl hbA hS hin dL_law_488 ?_
        obtain ⟨r66, g67, h⟩ := q_s h
        refine qL_Vi (wa := wX1 cI cJ cZ bd v) (wb := [(oo, .inl (cJ, 1, .inr (.inl f)))]) (rest := []) (As := [.int (xs (y4 + (1 : Int32)).toNatClampNeg)]) ⟨hx, hb, hml, hown, hts⟩ (kX0_step l dC dI cI cJ cZ ad _ u (xs (y4 + (1 : Int32)).toNatClampNeg) r66 g67) (cwV 1 hts gL_law_X0_step rfl rfl rfl hdV_X0_step ⟨(show _ ≤ _ by decide), (show _ ≤ _ by decide)⟩) (fun hP => rvX0 hK hP) hK hP hD hS hA rfl hl.1 (Nat.le_of_ble_eq_true rfl) rfl dL_law_489 ⟨(show _ ≤ 1056 by omega), (show _ ≤ 25841 by omega)⟩ (fun H locs hP hD hS => ?_)
        have hP : va_P (dC, dI) vwCl (wX1 cI cJ cZ bd v ++ (wX0 cI cJ cZ ad u ++ [(oo, .inl (cJ, 1, .inr (.inl f)))])) H := hP
        have hD : va_D A (wX1 cI cJ cZ bd v ++ (wX0 cI cJ cZ ad u ++ [(oo, .inl (cJ, 1, .inr (.inl f)))])) := hD
        refine lv_aload_n hx hb dL_law_492 rfl (lv_at hl 2 rfl) ?_
        refine lv_aload_n hx hb dL_law_493 rfl (lv_at hl 0 rfl) ?_
        refine lv_iload hx hb dL_law_494 (lv_at hl 4 rfl) ?_
        refine lv_iconst (v := (1 : Int32)) hx hb dL_law_496 (by decide) ?_
        refine lv_iadd hx hb dL_law_497 ?_
        obtain ⟨hin, h⟩ := q_g h
        refine va_sld hx hb hX hbl hbA hS hin dL_law_498 ?_
        obtain ⟨r69, u71, g70, h⟩ := q_s2 h
        refine qL_Vi (wa := []) (wb := wX0 cI cJ cZ ad u ++ [(oo, .inl (cJ, 1, .inr (.inl f)))]) (rest := [.int r66]) (As := [.int (xs (y4 + (1 : Int32)).toNatClampNeg)]) ⟨hx, hb, hml, hown, hts⟩ (kX1_step l dC dI cI cJ cZ bd _ v (xs (y4 + (1 : Int32)).toNatClampNeg) r69 u71 g70) (cwV 1 hts gL_law_X1_step rfl rfl rfl hdV_X1_step ⟨(show _ ≤ _ by decide), (show _ ≤ _ by decide)⟩) (fun hP => rvX1 hK hP) hK hP hD hS hA rfl hl.1 (Nat.le_of_ble_eq_true rfl) rfl dL_law_499 ⟨(show _ ≤ 1056 by omega), (show _ ≤ 25841 by omega)⟩ (fun H locs hP hD hS => ?_)
        have hP : va_P (dC, dI) vwCl (wX1 cI cJ cZ bd u71 ++ (wX0 cI cJ cZ ad u ++ [(oo, .inl (cJ, 1, .inr (.inl f)))])) H := hP
        have hD : va_D A (wX1 cI cJ cZ bd u71 ++ (wX0 cI cJ cZ ad u ++ [(oo, .inl (cJ, 1, .inr (.inl f)))])) := hD
        refine lv_icmp_eq (tgt := 820) hx hb dL_law_502 (by decide) (fun c72 => ?_) (fun c72 => ?_)
        · have h := q_t h c72
          obtain ⟨v73, ev73, h⟩ := q_l h
          refine lv_iinc (v := v73) (lv' := [(4, .int v73), (0, .ref b), (1, .ref ((ad 0))), (2, .ref ((bd 0))), (3, .ref oo)]) hx hb dL_law_820 hl (k := 4) rfl (by rw [ev73]; rfl) (by decide) rfl (fun ls hl => ?_)
          refine lv_goto (tgt := 23) hx hb dL_law_823 (by decide) ?_
          refine W.widen (k := 30 + (k + 1)) (n := 17637 + 6 * (k + 1)) (by omega) (by omega) ?_
          exact ih (k + 1) u u71 f v73 _ _ _ h (by omega) hP hD hS (lv_sub hl [1, 2, 3, 4, 0] rfl)
        · have h := q_f h c72
          cases h
      have h := q_f h c65
      by_cases c74 : ((xs y4.toNatClampNeg) &&& (15 : Int32)) = (5 : Int32)
      · have h := q_t h c74
        have ic74 : (((xs y4.toNatClampNeg) &&& (15 : Int32)) : Int32).toInt = 5 := by rw [c74]; rfl
        refine lv_tableIn (tgt := 507) hx hb dL_law_40 (by rw [ic74]; decide) (by rw [ic74]; decide) (by rw [ic74]; rfl) (by decide) ?_
        refine lv_aload_n hx hb dL_law_507 rfl (lv_at hl 1 rfl) ?_
        refine lv_aload_n hx hb dL_law_508 rfl (lv_at hl 0 rfl) ?_
        refine lv_iload hx hb dL_law_509 (lv_at hl 4 rfl) ?_
        refine lv_iconst (v := (1 : Int32)) hx hb dL_law_511 (by decide) ?_
        refine lv_iadd hx hb dL_law_512 ?_
        obtain ⟨hin, h⟩ := q_g h
        refine va_sld hx hb hX hbl hbA hS hin dL_law_513 ?_
        refine lv_aload_n hx hb dL_law_514 rfl (lv_at hl 0 rfl) ?_
        refine lv_iload hx hb dL_law_515 (lv_at hl 4 rfl) ?_
        refine lv_iconst (v := (2 : Int32)) hx hb dL_law_517 (by decide) ?_
        refine lv_iadd hx hb dL_law_518 ?_
        obtain ⟨hin, h⟩ := q_g h
        refine va_sld hx hb hX hbl hbA hS hin dL_law_519 ?_
        refine lv_i2l (v := (xs (y4 + (2 : Int32)).toNatClampNeg).toInt64) hx hb dL_law_520 rfl ?_
        refine lv_bipush (v := (32 : Int32)) hx hb dL_law_521 (by decide) ?_
        refine lv_lshl (v := ((xs (y4 + (2 : Int32)).toNatClampNeg).toInt64) <<< ((32 : Int32).toInt64 &&& 63)) hx hb dL_law_523 rfl ?_
        refine lv_aload_n hx hb dL_law_524 rfl (lv_at hl 0 rfl) ?_
        refine lv_iload hx hb dL_law_525 (lv_at hl 4 rfl) ?_
        refine lv_iconst (v := (3 : Int32)) hx hb dL_law_527 (by decide) ?_
        refine lv_iadd hx hb dL_law_528 ?_
        obtain ⟨hin, h⟩ := q_g h
        refine va_sld hx hb hX hbl hbA hS hin dL_law_529 ?_
        refine lv_i2l (v := (xs (y4 + (3 : Int32)).toNatClampNeg).toInt64) hx hb dL_law_530 rfl ?_
        refine lv_ldc2 hx hb hown (hts _ mL_law_25) dL_law_531 ?_
        refine lv_land hx hb dL_law_534 ?_
        refine lv_lor hx hb dL_law_535 ?_
        refine lv_aload_n hx hb dL_law_536 rfl (lv_at hl 0 rfl) ?_
        refine lv_iload hx hb dL_law_537 (lv_at hl 4 rfl) ?_
        refine lv_iconst (v := (4 : Int32)) hx hb dL_law_539 (by decide) ?_
        refine lv_iadd hx hb dL_law_540 ?_
        obtain ⟨hin, h⟩ := q_g h
        refine va_sld hx hb hX hbl hbA hS hin dL_law_541 ?_
        refine lv_i2l (v := (xs (y4 + (4 : Int32)).toNatClampNeg).toInt64) hx hb dL_law_542 rfl ?_
        refine lv_bipush (v := (32 : Int32)) hx hb dL_law_543 (by decide) ?_
        refine lv_lshl (v := ((xs (y4 + (4 : Int32)).toNatClampNeg).toInt64) <<< ((32 : Int32).toInt64 &&& 63)) hx hb dL_law_545 rfl ?_
        refine lv_aload_n hx hb dL_law_546 rfl (lv_at hl 0 rfl) ?_
        refine lv_iload hx hb dL_law_547 (lv_at hl 4 rfl) ?_
        refine lv_iconst (v := (5 : Int32)) hx hb dL_law_549 (by decide) ?_
        refine lv_iadd hx hb dL_law_550 ?_
        obtain ⟨hin, h⟩ := q_g h
        refine va_sld hx hb hX hbl hbA hS hin dL_law_551 ?_
        refine lv_i2l (v := (xs (y4 + (5 : Int32)).toNatClampNeg).toInt64) hx hb dL_law_552 rfl ?_
        refine lv_ldc2 hx hb hown (hts _ mL_law_25) dL_law_553 ?_
        refine lv_land hx hb dL_law_556 ?_
        refine lv_lor hx hb dL_law_557 ?_
        obtain ⟨r75, u77, g76, h⟩ := q_s2 h
        refine qL_Vi (wa := wX1 cI cJ cZ bd v) (wb := [(oo, .inl (cJ, 1, .inr (.inl f)))]) (rest := []) (As := [.int (xs (y4 + (1 : Int32)).toNatClampNeg), .long ((((xs (y4 + (2 : Int32)).toNatClampNeg).toInt64) <<< ((32 : Int32).toInt64 &&& 63)) ||| (((xs (y4 + (3 : Int32)).toNatClampNeg).toInt64) &&& (4294967295 : Int64))), .long ((((xs (y4 + (4 : Int32)).toNatClampNeg).toInt64) <<< ((32 : Int32).toInt64 &&& 63)) ||| (((xs (y4 + (5 : Int32)).toNatClampNeg).toInt64) &&& (4294967295 : Int64)))]) ⟨hx, hb, hml, hown, hts⟩ (kX0_gate l dC dI cI cJ cZ ad _ u (xs (y4 + (1 : Int32)).toNatClampNeg) ((((xs (y4 + (2 : Int32)).toNatClampNeg).toInt64) <<< ((32 : Int32).toInt64 &&& 63)) ||| (((xs (y4 + (3 : Int32)).toNatClampNeg).toInt64) &&& (4294967295 : Int64))) ((((xs (y4 + (4 : Int32)).toNatClampNeg).toInt64) <<< ((32 : Int32).toInt64 &&& 63)) ||| (((xs (y4 + (5 : Int32)).toNatClampNeg).toInt64) &&& (4294967295 : Int64))) r75 u77 g76) (cwV 3 hts gL_law_X0_gate rfl rfl rfl hdV_X0_gate ⟨(show _ ≤ _ by decide), (show _ ≤ _ by decide)⟩) (fun hP => rvX0 hK hP) hK hP hD hS hA rfl hl.1 (Nat.le_of_ble_eq_true rfl) rfl dL_law_558 ⟨(show _ ≤ 1056 by omega), (show _ ≤ 25841 by omega)⟩ (fun H locs hP hD hS => ?_)
        have hP : va_P (dC, dI) vwCl (wX1 cI cJ cZ bd v ++ (wX0 cI cJ cZ ad u77 ++ [(oo, .inl (cJ, 1, .inr (.inl f)))])) H := hP
        have hD : va_D A (wX1 cI cJ cZ bd v ++ (wX0 cI cJ cZ ad u77 ++ [(oo, .inl (cJ, 1, .inr (.inl f)))])) := hD
        refine lv_aload_n hx hb dL_law_561 rfl (lv_at hl 2 rfl) ?_
        refine lv_aload_n hx hb dL_law_562 rfl (lv_at hl 0 rfl) ?_
        refine lv_iload hx hb dL_law_563 (lv_at hl 4 rfl) ?_
        refine lv_iconst (v := (1 : Int32)) hx hb dL_law_565 (by decide) ?_
        refine lv_iadd hx hb dL_law_566 ?_
        obtain ⟨hin, h⟩ := q_g h
        refine va_sld hx hb hX hbl hbA hS hin dL_law_567 ?_
        refine lv_aload_n hx hb dL_law_568 rfl (lv_at hl 0 rfl) ?_
        refine lv_iload hx hb dL_law_569 (lv_at hl 4 rfl) ?_
        refine lv_iconst (v := (2 : Int32)) hx hb dL_law_571 (by decide) ?_
        refine lv_iadd hx hb dL_law_572 ?_
        obtain ⟨hin, h⟩ := q_g h
        refine va_sld hx hb hX hbl hbA hS hin dL_law_573 ?_
        refine lv_i2l (v := (xs (y4 + (2 : Int32)).toNatClampNeg).toInt64) hx hb dL_law_574 rfl ?_
        refine lv_bipush (v := (32 : Int32)) hx hb dL_law_575 (by decide) ?_
        refine lv_lshl (v := ((xs (y4 + (2 : Int32)).toNatClampNeg).toInt64) <<< ((32 : Int32).toInt64 &&& 63)) hx hb dL_law_577 rfl ?_
        refine lv_aload_n hx hb dL_law_578 rfl (lv_at hl 0 rfl) ?_
        refine lv_iload hx hb dL_law_579 (lv_at hl 4 rfl) ?_
        refine lv_iconst (v := (3 : Int32)) hx hb dL_law_581 (by decide) ?_
        refine lv_iadd hx hb dL_law_582 ?_
        obtain ⟨hin, h⟩ := q_g h
        refine va_sld hx hb hX hbl hbA hS hin dL_law_583 ?_
        refine lv_i2l (v := (xs (y4 + (3 : Int32)).toNatClampNeg).toInt64) hx hb dL_law_584 rfl ?_
        refine lv_ldc2 hx hb hown (hts _ mL_law_25) dL_law_585 ?_
        refine lv_land hx hb dL_law_588 ?_
        refine lv_lor hx hb dL_law_589 ?_
        refine lv_aload_n hx hb dL_law_590 rfl (lv_at hl 0 rfl) ?_
        refine lv_iload hx hb dL_law_591 (lv_at hl 4 rfl) ?_
        refine lv_iconst (v := (4 : Int32)) hx hb dL_law_593 (by decide) ?_
        refine lv_iadd hx hb dL_law_594 ?_
        obtain ⟨hin, h⟩ := q_g h
        refine va_sld hx hb hX hbl hbA hS hin dL_law_595 ?_
        refine lv_i2l (v := (xs (y4 + (4 : Int32)).toNatClampNeg).toInt64) hx hb dL_law_596 rfl ?_
        refine lv_bipush (v := (32 : Int32)) hx hb dL_law_597 (by decide) ?_
        refine lv_lshl (v := ((xs (y4 + (4 : Int32)).toNatClampNeg).toInt64) <<< ((32 : Int32).toInt64 &&& 63)) hx hb dL_law_599 rfl ?_
        refine lv_aload_n hx hb dL_law_600 rfl (lv_at hl 0 rfl) ?_
        refine lv_iload hx hb dL_law_601 (lv_at hl 4 rfl) ?_
        refine lv_iconst (v := (5 : Int32)) hx hb dL_law_603 (by decide) ?_
        refine lv_iadd hx hb dL_law_604 ?_
        obtain ⟨hin, h⟩ := q_g h
        refine va_sld hx hb hX hbl hbA hS hin dL_law_605 ?_
        refine lv_i2l (v := (xs (y4 + (5 : Int32)).toNatClampNeg).toInt64) hx hb dL_law_606 rfl ?_
        refine lv_ldc2 hx hb hown (hts _ mL_law_25) dL_law_607 ?_
        refine lv_land hx hb dL_law_610 ?_
        refine lv_lor hx hb dL_law_611 ?_
        obtain ⟨r78, u80, g79, h⟩ := q_s2 h
        refine qL_Vi (wa := []) (wb := wX0 cI cJ cZ ad u77 ++ [(oo, .inl (cJ, 1, .inr (.inl f)))]) (rest := [.int r75]) (As := [.int (xs (y4 + (1 : Int32)).toNatClampNeg), .long ((((xs (y4 + (2 : Int32)).toNatClampNeg).toInt64) <<< ((32 : Int32).toInt64 &&& 63)) ||| (((xs (y4 + (3 : Int32)).toNatClampNeg).toInt64) &&& (4294967295 : Int64))), .long ((((xs (y4 + (4 : Int32)).toNatClampNeg).toInt64) <<< ((32 : Int32).toInt64 &&& 63)) ||| (((xs (y4 + (5 : Int32)).toNatClampNeg).toInt64) &&& (4294967295 : Int64)))]) ⟨hx, hb, hml, hown, hts⟩ (kX1_gate l dC dI cI cJ cZ bd _ v (xs (y4 + (1 : Int32)).toNatClampNeg) ((((xs (y4 + (2 : Int32)).toNatClampNeg).toInt64) <<< ((32 : Int32).toInt64 &&& 63)) ||| (((xs (y4 + (3 : Int32)).toNatClampNeg).toInt64) &&& (4294967295 : Int64))) ((((xs (y4 + (4 : Int32)).toNatClampNeg).toInt64) <<< ((32 : Int32).toInt64 &&& 63)) ||| (((xs (y4 + (5 : Int32)).toNatClampNeg).toInt64) &&& (4294967295 : Int64))) r78 u80 g79) (cwV 3 hts gL_law_X1_gate rfl rfl rfl hdV_X1_gate ⟨(show _ ≤ _ by decide), (show _ ≤ _ by decide)⟩) (fun hP => rvX1 hK hP) hK hP hD hS hA rfl hl.1 (Nat.le_of_ble_eq_true rfl) rfl dL_law_612 ⟨(show _ ≤ 1056 by omega), (show _ ≤ 25841 by omega)⟩ (fun H locs hP hD hS => ?_)
        have hP : va_P (dC, dI) vwCl (wX1 cI cJ cZ bd u80 ++ (wX0 cI cJ cZ ad u77 ++ [(oo, .inl (cJ, 1, .inr (.inl f)))])) H := hP
        have hD : va_D A (wX1 cI cJ cZ bd u80 ++ (wX0 cI cJ cZ ad u77 ++ [(oo, .inl (cJ, 1, .inr (.inl f)))])) := hD
        refine lv_icmp_eq (tgt := 820) hx hb dL_law_615 (by decide) (fun c81 => ?_) (fun c81 => ?_)
        · have h := q_t h c81
          obtain ⟨v82, ev82, h⟩ := q_l h
          refine lv_iinc (v := v82) (lv' := [(4, .int v82), (0, .ref b), (1, .ref ((ad 0))), (2, .ref ((bd 0))), (3, .ref oo)]) hx hb dL_law_820 hl (k := 4) rfl (by rw [ev82]; rfl) (by decide) rfl (fun ls hl => ?_)
          refine lv_goto (tgt := 23) hx hb dL_law_823 (by decide) ?_
          refine W.widen (k := 30 + (k + 1)) (n := 17637 + 6 * (k + 1)) (by omega) (by omega) ?_
          exact ih (k + 1) u77 u80 f v82 _ _ _ h (by omega) hP hD hS (lv_sub hl [1, 2, 3, 4, 0] rfl)
        · have h := q_f h c81
          cases h
      have h := q_f h c74
      by_cases c83 : ((xs y4.toNatClampNeg) &&& (15 : Int32)) = (6 : Int32)
      · have h := q_t h c83
        have ic83 : (((xs y4.toNatClampNeg) &&& (15 : Int32)) : Int32).toInt = 6 := by rw [c83]; rfl
        refine lv_tableIn (tgt := 620) hx hb dL_law_40 (by rw [ic83]; decide) (by rw [ic83]; decide) (by rw [ic83]; rfl) (by decide) ?_
        refine lv_aload_n hx hb dL_law_620 rfl (lv_at hl 1 rfl) ?_
        refine lv_aload_n hx hb dL_law_621 rfl (lv_at hl 0 rfl) ?_
        refine lv_iload hx hb dL_law_622 (lv_at hl 4 rfl) ?_
        refine lv_iconst (v := (1 : Int32)) hx hb dL_law_624 (by decide) ?_
        refine lv_iadd hx hb dL_law_625 ?_
        obtain ⟨hin, h⟩ := q_g h
        refine va_sld hx hb hX hbl hbA hS hin dL_law_626 ?_
        refine lv_aload_n hx hb dL_law_627 rfl (lv_at hl 0 rfl) ?_
        refine lv_iload hx hb dL_law_628 (lv_at hl 4 rfl) ?_
        refine lv_iconst (v := (2 : Int32)) hx hb dL_law_630 (by decide) ?_
        refine lv_iadd hx hb dL_law_631 ?_
        obtain ⟨hin, h⟩ := q_g h
        refine va_sld hx hb hX hbl hbA hS hin dL_law_632 ?_
        refine lv_i2l (v := (xs (y4 + (2 : Int32)).toNatClampNeg).toInt64) hx hb dL_law_633 rfl ?_
        refine lv_bipush (v := (32 : Int32)) hx hb dL_law_634 (by decide) ?_
        refine lv_lshl (v := ((xs (y4 + (2 : Int32)).toNatClampNeg).toInt64) <<< ((32 : Int32).toInt64 &&& 63)) hx hb dL_law_636 rfl ?_
        refine lv_aload_n hx hb dL_law_637 rfl (lv_at hl 0 rfl) ?_
        refine lv_iload hx hb dL_law_638 (lv_at hl 4 rfl) ?_
        refine lv_iconst (v := (3 : Int32)) hx hb dL_law_640 (by decide) ?_
        refine lv_iadd hx hb dL_law_641 ?_
        obtain ⟨hin, h⟩ := q_g h
        refine va_sld hx hb hX hbl hbA hS hin dL_law_642 ?_
        refine lv_i2l (v := (xs (y4 + (3 : Int32)).toNatClampNeg).toInt64) hx hb dL_law_643 rfl ?_
        refine lv_ldc2 hx hb hown (hts _ mL_law_25) dL_law_644 ?_
        refine lv_land hx hb dL_law_647 ?_
        refine lv_lor hx hb dL_law_648 ?_
        obtain ⟨r84, u86, g85, h⟩ := q_s2 h
        refine qL_Vi (wa := wX1 cI cJ cZ bd v) (wb := [(oo, .inl (cJ, 1, .inr (.inl f)))]) (rest := []) (As := [.int (xs (y4 + (1 : Int32)).toNatClampNeg), .long ((((xs (y4 + (2 : Int32)).toNatClampNeg).toInt64) <<< ((32 : Int32).toInt64 &&& 63)) ||| (((xs (y4 + (3 : Int32)).toNatClampNeg).toInt64) &&& (4294967295 : Int64)))]) ⟨hx, hb, hml, hown, hts⟩ (kX0_change l dC dI cI cJ cZ ad _ u (xs (y4 + (1 : Int32)).toNatClampNeg) ((((xs (y4 + (2 : Int32)).toNatClampNeg).toInt64) <<< ((32 : Int32).toInt64 &&& 63)) ||| (((xs (y4 + (3 : Int32)).toNatClampNeg).toInt64) &&& (4294967295 : Int64))) r84 u86 g85) (cwV 2 hts gL_law_X0_change rfl rfl rfl hdV_X0_change ⟨(show _ ≤ _ by decide), (show _ ≤ _ by decide)⟩) (fun hP => rvX0 hK hP) hK hP hD hS hA rfl hl.1 (Nat.le_of_ble_eq_true rfl) rfl dL_law_649 ⟨(show _ ≤ 1056 by omega), (show _ ≤ 25841 by omega)⟩ (fun H locs hP hD hS => ?_)
        have hP : va_P (dC, dI) vwCl (wX1 cI cJ cZ bd v ++ (wX0 cI cJ cZ ad u86 ++ [(oo, .inl (cJ, 1, .inr (.inl f)))])) H := hP
        have hD : va_D A (wX1 cI cJ cZ bd v ++ (wX0 cI cJ cZ ad u86 ++ [(oo, .inl (cJ, 1, .inr (.inl f)))])) := hD
        refine lv_aload_n hx hb dL_law_652 rfl (lv_at hl 2 rfl) ?_
        refine lv_aload_n hx hb dL_law_653 rfl (lv_at hl 0 rfl) ?_
        refine lv_iload hx hb dL_law_654 (lv_at hl 4 rfl) ?_
        refine lv_iconst (v := (1 : Int32)) hx hb dL_law_656 (by decide) ?_
        refine lv_iadd hx hb dL_law_657 ?_
        obtain ⟨hin, h⟩ := q_g h
        refine va_sld hx hb hX hbl hbA hS hin dL_law_658 ?_
        refine lv_aload_n hx hb dL_law_659 rfl (lv_at hl 0 rfl) ?_
        refine lv_iload hx hb dL_law_660 (lv_at hl 4 rfl) ?_
        refine lv_iconst (v := (2 : Int32)) hx hb dL_law_662 (by decide) ?_
        refine lv_iadd hx hb dL_law_663 ?_
        obtain ⟨hin, h⟩ := q_g h
        refine va_sld hx hb hX hbl hbA hS hin dL_law_664 ?_
        refine lv_i2l (v := (xs (y4 + (2 : Int32)).toNatClampNeg).toInt64) hx hb dL_law_665 rfl ?_
        refine lv_bipush (v := (32 : Int32)) hx hb dL_law_666 (by decide) ?_
        refine lv_lshl (v := ((xs (y4 + (2 : Int32)).toNatClampNeg).toInt64) <<< ((32 : Int32).toInt64 &&& 63)) hx hb dL_law_668 rfl ?_
        refine lv_aload_n hx hb dL_law_669 rfl (lv_at hl 0 rfl) ?_
        refine lv_iload hx hb dL_law_670 (lv_at hl 4 rfl) ?_
        refine lv_iconst (v := (3 : Int32)) hx hb dL_law_672 (by decide) ?_
        refine lv_iadd hx hb dL_law_673 ?_
        obtain ⟨hin, h⟩ := q_g h
        refine va_sld hx hb hX hbl hbA hS hin dL_law_674 ?_
        refine lv_i2l (v := (xs (y4 + (3 : Int32)).toNatClampNeg).toInt64) hx hb dL_law_675 rfl ?_
        refine lv_ldc2 hx hb hown (hts _ mL_law_25) dL_law_676 ?_
        refine lv_land hx hb dL_law_679 ?_
        refine lv_lor hx hb dL_law_680 ?_
        obtain ⟨r87, u89, g88, h⟩ := q_s2 h
        refine qL_Vi (wa := []) (wb := wX0 cI cJ cZ ad u86 ++ [(oo, .inl (cJ, 1, .inr (.inl f)))]) (rest := [.int r84]) (As := [.int (xs (y4 + (1 : Int32)).toNatClampNeg), .long ((((xs (y4 + (2 : Int32)).toNatClampNeg).toInt64) <<< ((32 : Int32).toInt64 &&& 63)) ||| (((xs (y4 + (3 : Int32)).toNatClampNeg).toInt64) &&& (4294967295 : Int64)))]) ⟨hx, hb, hml, hown, hts⟩ (kX1_change l dC dI cI cJ cZ bd _ v (xs (y4 + (1 : Int32)).toNatClampNeg) ((((xs (y4 + (2 : Int32)).toNatClampNeg).toInt64) <<< ((32 : Int32).toInt64 &&& 63)) ||| (((xs (y4 + (3 : Int32)).toNatClampNeg).toInt64) &&& (4294967295 : Int64))) r87 u89 g88) (cwV 2 hts gL_law_X1_change rfl rfl rfl hdV_X1_change ⟨(show _ ≤ _ by decide), (show _ ≤ _ by decide)⟩) (fun hP => rvX1 hK hP) hK hP hD hS hA rfl hl.1 (Nat.le_of_ble_eq_true rfl) rfl dL_law_681 ⟨(show _ ≤ 1056 by omega), (show _ ≤ 25841 by omega)⟩ (fun H locs hP hD hS => ?_)
        have hP : va_P (dC, dI) vwCl (wX1 cI cJ cZ bd u89 ++ (wX0 cI cJ cZ ad u86 ++ [(oo, .inl (cJ, 1, .inr (.inl f)))])) H := hP
        have hD : va_D A (wX1 cI cJ cZ bd u89 ++ (wX0 cI cJ cZ ad u86 ++ [(oo, .inl (cJ, 1, .inr (.inl f)))])) := hD
        refine lv_icmp_eq (tgt := 820) hx hb dL_law_684 (by decide) (fun c90 => ?_) (fun c90 => ?_)
        · have h := q_t h c90
          obtain ⟨v91, ev91, h⟩ := q_l h
          refine lv_iinc (v := v91) (lv' := [(4, .int v91), (0, .ref b), (1, .ref ((ad 0))), (2, .ref ((bd 0))), (3, .ref oo)]) hx hb dL_law_820 hl (k := 4) rfl (by rw [ev91]; rfl) (by decide) rfl (fun ls hl => ?_)
          refine lv_goto (tgt := 23) hx hb dL_law_823 (by decide) ?_
          refine W.widen (k := 30 + (k + 1)) (n := 17637 + 6 * (k + 1)) (by omega) (by omega) ?_
          exact ih (k + 1) u86 u89 f v91 _ _ _ h (by omega) hP hD hS (lv_sub hl [1, 2, 3, 4, 0] rfl)
        · have h := q_f h c90
          cases h
      have h := q_f h c83
      by_cases c92 : ((xs y4.toNatClampNeg) &&& (15 : Int32)) = (7 : Int32)
      · have h := q_t h c92
        have ic92 : (((xs y4.toNatClampNeg) &&& (15 : Int32)) : Int32).toInt = 7 := by rw [c92]; rfl
        refine lv_tableIn (tgt := 689) hx hb dL_law_40 (by rw [ic92]; decide) (by rw [ic92]; decide) (by rw [ic92]; rfl) (by decide) ?_
        refine lv_aload_n hx hb dL_law_689 rfl (lv_at hl 1 rfl) ?_
        refine lv_aload_n hx hb dL_law_690 rfl (lv_at hl 0 rfl) ?_
        refine lv_iload hx hb dL_law_691 (lv_at hl 4 rfl) ?_
        refine lv_iconst (v := (1 : Int32)) hx hb dL_law_693 (by decide) ?_
        refine lv_iadd hx hb dL_law_694 ?_
        obtain ⟨hin, h⟩ := q_g h
        refine va_sld hx hb hX hbl hbA hS hin dL_law_695 ?_
        refine lv_aload_n hx hb dL_law_696 rfl (lv_at hl 0 rfl) ?_
        refine lv_iload hx hb dL_law_697 (lv_at hl 4 rfl) ?_
        refine lv_iconst (v := (2 : Int32)) hx hb dL_law_699 (by decide) ?_
        refine lv_iadd hx hb dL_law_700 ?_
        obtain ⟨hin, h⟩ := q_g h
        refine va_sld hx hb hX hbl hbA hS hin dL_law_701 ?_
        obtain ⟨r93, u95, g94, h⟩ := q_s2 h
        refine qL_Vl (wa := wX1 cI cJ cZ bd v) (wb := [(oo, .inl (cJ, 1, .inr (.inl f)))]) (rest := []) (As := [.int (xs (y4 + (1 : Int32)).toNatClampNeg), .int (xs (y4 + (2 : Int32)).toNatClampNeg)]) ⟨hx, hb, hml, hown, hts⟩ (kX0_table l dC dI cI cJ cZ ad _ u (xs (y4 + (1 : Int32)).toNatClampNeg) (xs (y4 + (2 : Int32)).toNatClampNeg) r93 u95 g94) (cwV 2 hts gL_law_X0_table rfl rfl rfl hdV_X0_table ⟨(show _ ≤ _ by decide), (show _ ≤ _ by decide)⟩) (fun hP => rvX0 hK hP) hK hP hD hS hA rfl hl.1 (Nat.le_of_ble_eq_true rfl) rfl dL_law_702 ⟨(show _ ≤ 1056 by omega), (show _ ≤ 25841 by omega)⟩ (fun H locs hP hD hS => ?_)
        have hP : va_P (dC, dI) vwCl (wX1 cI cJ cZ bd v ++ (wX0 cI cJ cZ ad u95 ++ [(oo, .inl (cJ, 1, .inr (.inl f)))])) H := hP
        have hD : va_D A (wX1 cI cJ cZ bd v ++ (wX0 cI cJ cZ ad u95 ++ [(oo, .inl (cJ, 1, .inr (.inl f)))])) := hD
        refine lv_aload_n hx hb dL_law_705 rfl (lv_at hl 2 rfl) ?_
        refine lv_aload_n hx hb dL_law_706 rfl (lv_at hl 0 rfl) ?_
        refine lv_iload hx hb dL_law_707 (lv_at hl 4 rfl) ?_
        refine lv_iconst (v := (1 : Int32)) hx hb dL_law_709 (by decide) ?_
        refine lv_iadd hx hb dL_law_710 ?_
        obtain ⟨hin, h⟩ := q_g h
        refine va_sld hx hb hX hbl hbA hS hin dL_law_711 ?_
        refine lv_aload_n hx hb dL_law_712 rfl (lv_at hl 0 rfl) ?_
        refine lv_iload hx hb dL_law_713 (lv_at hl 4 rfl) ?_
        refine lv_iconst (v := (2 : Int32)) hx hb dL_law_715 (by decide) ?_
        refine lv_iadd hx hb dL_law_716 ?_
        obtain ⟨hin, h⟩ := q_g h
        refine va_sld hx hb hX hbl hbA hS hin dL_law_717 ?_
        obtain ⟨r96, u98, g97, h⟩ := q_s2 h
        refine qL_Vl (wa := []) (wb := wX0 cI cJ cZ ad u95 ++ [(oo, .inl (cJ, 1, .inr (.inl f)))]) (rest := [.long r93]) (As := [.int (xs (y4 + (1 : Int32)).toNatClampNeg), .int (xs (y4 + (2 : Int32)).toNatClampNeg)]) ⟨hx, hb, hml, hown, hts⟩ (kX1_table k9 l dC dI cI cJ cZ bd _ v (xs (y4 + (1 : Int32)).toNatClampNeg) (xs (y4 + (2 : Int32)).toNatClampNeg) r96 u98 g97) (cwV 2 hts gL_law_X1_table rfl rfl rfl hdV_X1_table ⟨(show _ ≤ _ by decide), (show _ ≤ _ by decide)⟩) (fun hP => rvX1 hK hP) hK hP hD hS hA rfl hl.1 (Nat.le_of_ble_eq_true rfl) rfl dL_law_718 ⟨(show _ ≤ 1056 by omega), (show _ ≤ 25841 by omega)⟩ (fun H locs hP hD hS => ?_)
        have hP : va_P (dC, dI) vwCl (wX1 cI cJ cZ bd u98 ++ (wX0 cI cJ cZ ad u95 ++ [(oo, .inl (cJ, 1, .inr (.inl f)))])) H := hP
        have hD : va_D A (wX1 cI cJ cZ bd u98 ++ (wX0 cI cJ cZ ad u95 ++ [(oo, .inl (cJ, 1, .inr (.inl f)))])) := hD
        refine q_lc_eq (tgt := 820) hx hb dL_law_721 dL_law_722 (by decide) (fun c99 => ?_) (fun c99 => ?_)
        · have h := q_t h c99
          obtain ⟨v100, ev100, h⟩ := q_l h
          refine lv_iinc (v := v100) (lv' := [(4, .int v100), (0, .ref b), (1, .ref ((ad 0))), (2, .ref ((bd 0))), (3, .ref oo)]) hx hb dL_law_820 hl (k := 4) rfl (by rw [ev100]; rfl) (by decide) rfl (fun ls hl => ?_)
          refine lv_goto (tgt := 23) hx hb dL_law_823 (by decide) ?_
          refine W.widen (k := 30 + (k + 1)) (n := 17637 + 6 * (k + 1)) (by omega) (by omega) ?_
          exact ih (k + 1) u95 u98 f v100 _ _ _ h (by omega) hP hD hS (lv_sub hl [1, 2, 3, 4, 0] rfl)
        · have h := q_f h c99
          cases h
      have h := q_f h c92
      by_cases c101 : ((xs y4.toNatClampNeg) &&& (15 : Int32)) = (8 : Int32)
      · have h := q_t h c101
        have ic101 : (((xs y4.toNatClampNeg) &&& (15 : Int32)) : Int32).toInt = 8 := by rw [c101]; rfl
        refine lv_tableIn (tgt := 727) hx hb dL_law_40 (by rw [ic101]; decide) (by rw [ic101]; decide) (by rw [ic101]; rfl) (by decide) ?_
        refine lv_aload_n hx hb dL_law_727 rfl (lv_at hl 1 rfl) ?_
        refine lv_aload_n hx hb dL_law_728 rfl (lv_at hl 0 rfl) ?_
        refine lv_iload hx hb dL_law_729 (lv_at hl 4 rfl) ?_
        refine lv_iconst (v := (1 : Int32)) hx hb dL_law_731 (by decide) ?_
        refine lv_iadd hx hb dL_law_732 ?_
        obtain ⟨hin, h⟩ := q_g h
        refine va_sld hx hb hX hbl hbA hS hin dL_law_733 ?_
        refine lv_aload_n hx hb dL_law_734 rfl (lv_at hl 3 rfl) ?_
        obtain ⟨r102, w104, g103, h⟩ := q_s2 h
        refine qL_P (wa := wX1 cI cJ cZ bd v) (rest := []) (As := [.ref (ad 0), .int (xs (y4 + (1 : Int32)).toNatClampNeg), .ref oo]) ⟨hx, hb, hml, hown, htT⟩ (kL_piece2 l hl0 dC dI cI cJ cZ ad oo _ (u, f) (xs (y4 + (1 : Int32)).toNatClampNeg) r102 w104 g103) (vx_cwSW 3 htT gT_L_piece2 rfl rfl rfl hdS_L_piece2 ⟨(show _ ≤ _ by decide), (show _ ≤ _ by decide)⟩) hK hP hD hS hA hEI rfl hl.1 (Nat.le_of_ble_eq_true rfl) rfl dL_law_735 ⟨(show _ ≤ 1056 by omega), (show _ ≤ 25841 by omega)⟩ (fun H locs hP hD hS => ?_)
        have hP : va_P (dC, dI) vwCl (wX1 cI cJ cZ bd v ++ (wX0 cI cJ cZ ad w104.1 ++ [(oo, .inl (cJ, 1, .inr (.inl w104.2)))])) H := hP
        have hD : va_D A (wX1 cI cJ cZ bd v ++ (wX0 cI cJ cZ ad w104.1 ++ [(oo, .inl (cJ, 1, .inr (.inl w104.2)))])) := hD
        refine lv_istore (lv' := [(5, .int r102), (0, .ref b), (1, .ref ((ad 0))), (2, .ref ((bd 0))), (3, .ref oo), (4, .int y4)]) hx hb dL_law_738 hl (by decide) rfl (fun ls hl => ?_)
        refine lv_aload_n hx hb dL_law_740 rfl (lv_at hl 3 rfl) ?_
        refine lv_aload_n hx hb dL_law_741 rfl (lv_at hl 1 rfl) ?_
        refine lv_iload hx hb dL_law_742 (lv_at hl 5 rfl) ?_
        refine lv_iconst (v := (1 : Int32)) hx hb dL_law_744 (by decide) ?_
        refine lv_iadd hx hb dL_law_745 ?_
        obtain ⟨hin, h⟩ := q_g h
        refine va_sld hx hb hX hbl hbA hS hin dL_law_746 ?_
        obtain ⟨r105, u107, g106, h⟩ := q_s2 h
        refine qL_Vi (wa := []) (wb := wX0 cI cJ cZ ad w104.1 ++ [(oo, .inl (cJ, 1, .inr (.inl w104.2)))]) (rest := []) (As := [.int (xs (y4 + (1 : Int32)).toNatClampNeg)]) ⟨hx, hb, hml, hown, hts⟩ (kX1_piece2 l dC dI cI cJ cZ bd _ v (xs (y4 + (1 : Int32)).toNatClampNeg) r105 u107 g106) (cwV 1 hts gL_law_X1_piece2 rfl rfl rfl hdV_X1_piece2 ⟨(show _ ≤ _ by decide), (show _ ≤ _ by decide)⟩) (fun hP => rvX1 hK hP) hK hP hD hS hA rfl hl.1 (Nat.le_of_ble_eq_true rfl) rfl dL_law_747 ⟨(show _ ≤ 1056 by omega), (show _ ≤ 25841 by omega)⟩ (fun H locs hP hD hS => ?_)
        have hP : va_P (dC, dI) vwCl (wX1 cI cJ cZ bd u107 ++ (wX0 cI cJ cZ ad w104.1 ++ [(oo, .inl (cJ, 1, .inr (.inl w104.2)))])) H := hP
        have hD : va_D A (wX1 cI cJ cZ bd u107 ++ (wX0 cI cJ cZ ad w104.1 ++ [(oo, .inl (cJ, 1, .inr (.inl w104.2)))])) := hD
        refine lv_istore (lv' := [(6, .int r105), (5, .int r102), (0, .ref b), (1, .ref ((ad 0))), (2, .ref ((bd 0))), (3, .ref oo), (4, .int y4)]) hx hb dL_law_750 hl (by decide) rfl (fun ls hl => ?_)
        refine lv_aload_n hx hb dL_law_752 rfl (lv_at hl 4 rfl) ?_
        obtain ⟨r108, g109, h⟩ := q_s h
        refine qL_Vi (wa := []) (wb := wX0 cI cJ cZ ad w104.1 ++ [(oo, .inl (cJ, 1, .inr (.inl w104.2)))]) (rest := []) (As := []) ⟨hx, hb, hml, hown, hts⟩ (kX1_thrown l dC dI cI cJ cZ bd _ u107 r108 g109) (cwV 0 hts gL_law_X1_thrown rfl rfl rfl hdV_X1_thrown ⟨(show _ ≤ _ by decide), (show _ ≤ _ by decide)⟩) (fun hP => rvX1 hK hP) hK hP hD hS hA rfl hl.1 (Nat.le_of_ble_eq_true rfl) rfl dL_law_753 ⟨(show _ ≤ 1056 by omega), (show _ ≤ 25841 by omega)⟩ (fun H locs hP hD hS => ?_)
        have hP : va_P (dC, dI) vwCl (wX1 cI cJ cZ bd u107 ++ (wX0 cI cJ cZ ad w104.1 ++ [(oo, .inl (cJ, 1, .inr (.inl w104.2)))])) H := hP
        have hD : va_D A (wX1 cI cJ cZ bd u107 ++ (wX0 cI cJ cZ ad w104.1 ++ [(oo, .inl (cJ, 1, .inr (.inl w104.2)))])) := hD
        refine lv_iload hx hb dL_law_756 (lv_at hl 1 rfl) ?_
        refine lv_icmp_eq (tgt := 763) hx hb dL_law_758 (by decide) (fun c111 => ?_) (fun c111 => ?_)
        · have h := q_t h c111
          refine lv_iload hx hb dL_law_763 (lv_at hl 1 rfl) ?_
          refine lv_if_ne (tgt := 780) hx hb dL_law_765 (by decide) (fun c112 => ?_) (fun c112 => ?_)
          · have h := q_f h c112
            refine lv_goto (tgt := 820) hx hb dL_law_780 (by decide) ?_
            obtain ⟨v113, ev113, h⟩ := q_l h
            refine lv_iinc (v := v113) (lv' := [(4, .int v113), (6, .int r105), (5, .int r102), (0, .ref b), (1, .ref ((ad 0))), (2, .ref ((bd 0))), (3, .ref oo)]) hx hb dL_law_820 hl (k := 6) rfl (by rw [ev113]; rfl) (by decide) rfl (fun ls hl => ?_)
            refine lv_goto (tgt := 23) hx hb dL_law_823 (by decide) ?_
            refine W.widen (k := 30 + (k + 1)) (n := 17637 + 6 * (k + 1)) (by omega) (by omega) ?_
            exact ih (k + 1) w104.1 u107 w104.2 v113 _ _ _ h (by omega) hP hD hS (lv_sub hl [3, 4, 5, 6, 0] rfl)
          · have h := q_t h c112
            refine lv_aload_n hx hb dL_law_768 rfl (lv_at hl 5 rfl) ?_
            refine lv_iconst (v := (0 : Int32)) hx hb dL_law_769 (by decide) ?_
            obtain ⟨hin, h⟩ := q_g h
            refine va_lald hx hb hK hP 29 1 (n := 1) (f := w104.2) rfl rfl hin dL_law_770 ?_
            refine lv_iload hx hb dL_law_771 (lv_at hl 0 rfl) ?_
            refine lv_i2l (v := r105.toInt64) hx hb dL_law_773 rfl ?_
            refine q_lc_eq (tgt := 780) hx hb dL_law_774 dL_law_775 (by decide) (fun c114 => ?_) (fun c114 => ?_)
            · have h := q_t h c114
              refine lv_goto (tgt := 820) hx hb dL_law_780 (by decide) ?_
              obtain ⟨v115, ev115, h⟩ := q_l h
              refine lv_iinc (v := v115) (lv' := [(4, .int v115), (6, .int r105), (5, .int r102), (0, .ref b), (1, .ref ((ad 0))), (2, .ref ((bd 0))), (3, .ref oo)]) hx hb dL_law_820 hl (k := 6) rfl (by rw [ev115]; rfl) (by decide) rfl (fun ls hl => ?_)
              refine lv_goto (tgt := 23) hx hb dL_law_823 (by decide) ?_
              refine W.widen (k := 30 + (k + 1)) (n := 17637 + 6 * (k + 1)) (by omega) (by omega) ?_
              exact ih (k + 1) w104.1 u107 w104.2 v115 _ _ _ h (by omega) hP hD hS (lv_sub hl [3, 4, 5, 6, 0] rfl)
            · have h := q_f h c114
              cases h
        · have h := q_f h c111
          cases h
      have h := q_f h c101
      by_cases c116 : ((xs y4.toNatClampNeg) &&& (15 : Int32)) = (9 : Int32)
      · have h := q_t h c116
        have ic116 : (((xs y4.toNatClampNeg) &&& (15 : Int32)) : Int32).toInt = 9 := by rw [c116]; rfl
        refine lv_tableIn (tgt := 783) hx hb dL_law_40 (by rw [ic116]; decide) (by rw [ic116]; decide) (by rw [ic116]; rfl) (by decide) ?_
        refine lv_aload_n hx hb dL_law_783 rfl (lv_at hl 1 rfl) ?_
        refine lv_aload_n hx hb dL_law_784 rfl (lv_at hl 0 rfl) ?_
        refine lv_iload hx hb dL_law_785 (lv_at hl 4 rfl) ?_
        refine lv_iconst (v := (1 : Int32)) hx hb dL_law_787 (by decide) ?_
        refine lv_iadd hx hb dL_law_788 ?_
        obtain ⟨hin, h⟩ := q_g h
        refine va_sld hx hb hX hbl hbA hS hin dL_law_789 ?_
        refine lv_aload_n hx hb dL_law_790 rfl (lv_at hl 0 rfl) ?_
        refine lv_iload hx hb dL_law_791 (lv_at hl 4 rfl) ?_
        refine lv_iconst (v := (2 : Int32)) hx hb dL_law_793 (by decide) ?_
        refine lv_iadd hx hb dL_law_794 ?_
        obtain ⟨hin, h⟩ := q_g h
        refine va_sld hx hb hX hbl hbA hS hin dL_law_795 ?_
        obtain ⟨r117, g118, h⟩ := q_s h
        refine qL_Vi (wa := wX1 cI cJ cZ bd v) (wb := [(oo, .inl (cJ, 1, .inr (.inl f)))]) (rest := []) (As := [.int (xs (y4 + (1 : Int32)).toNatClampNeg), .int (xs (y4 + (2 : Int32)).toNatClampNeg)]) ⟨hx, hb, hml, hown, hts⟩ (kX0_service l dC dI cI cJ cZ ad _ u (xs (y4 + (1 : Int32)).toNatClampNeg) (xs (y4 + (2 : Int32)).toNatClampNeg) r117 g118) (cwV 2 hts gL_law_X0_service rfl rfl rfl hdV_X0_service ⟨(show _ ≤ _ by decide), (show _ ≤ _ by decide)⟩) (fun hP => rvX0 hK hP) hK hP hD hS hA rfl hl.1 (Nat.le_of_ble_eq_true rfl) rfl dL_law_796 ⟨(show _ ≤ 1056 by omega), (show _ ≤ 25841 by omega)⟩ (fun H locs hP hD hS => ?_)
        have hP : va_P (dC, dI) vwCl (wX1 cI cJ cZ bd v ++ (wX0 cI cJ cZ ad u ++ [(oo, .inl (cJ, 1, .inr (.inl f)))])) H := hP
        have hD : va_D A (wX1 cI cJ cZ bd v ++ (wX0 cI cJ cZ ad u ++ [(oo, .inl (cJ, 1, .inr (.inl f)))])) := hD
        refine lv_aload_n hx hb dL_law_799 rfl (lv_at hl 2 rfl) ?_
        refine lv_aload_n hx hb dL_law_800 rfl (lv_at hl 0 rfl) ?_
        refine lv_iload hx hb dL_law_801 (lv_at hl 4 rfl) ?_
        refine lv_iconst (v := (1 : Int32)) hx hb dL_law_803 (by decide) ?_
        refine lv_iadd hx hb dL_law_804 ?_
        obtain ⟨hin, h⟩ := q_g h
        refine va_sld hx hb hX hbl hbA hS hin dL_law_805 ?_
        refine lv_aload_n hx hb dL_law_806 rfl (lv_at hl 0 rfl) ?_
        refine lv_iload hx hb dL_law_807 (lv_at hl 4 rfl) ?_
        refine lv_iconst (v := (2 : Int32)) hx hb dL_law_809 (by decide) ?_
        refine lv_iadd hx hb dL_law_810 ?_
        obtain ⟨hin, h⟩ := q_g h
        refine va_sld hx hb hX hbl hbA hS hin dL_law_811 ?_
        obtain ⟨r120, u122, g121, h⟩ := q_s2 h
        refine qL_Vi (wa := []) (wb := wX0 cI cJ cZ ad u ++ [(oo, .inl (cJ, 1, .inr (.inl f)))]) (rest := [.int r117]) (As := [.int (xs (y4 + (1 : Int32)).toNatClampNeg), .int (xs (y4 + (2 : Int32)).toNatClampNeg)]) ⟨hx, hb, hml, hown, hts⟩ (kX1_service l dC dI cI cJ cZ bd _ v (xs (y4 + (1 : Int32)).toNatClampNeg) (xs (y4 + (2 : Int32)).toNatClampNeg) r120 u122 g121) (cwV 2 hts gL_law_X1_service rfl rfl rfl hdV_X1_service ⟨(show _ ≤ _ by decide), (show _ ≤ _ by decide)⟩) (fun hP => rvX1 hK hP) hK hP hD hS hA rfl hl.1 (Nat.le_of_ble_eq_true rfl) rfl dL_law_812 ⟨(show _ ≤ 1056 by omega), (show _ ≤ 25841 by omega)⟩ (fun H locs hP hD hS => ?_)
        have hP : va_P (dC, dI) vwCl (wX1 cI cJ cZ bd u122 ++ (wX0 cI cJ cZ ad u ++ [(oo, .inl (cJ, 1, .inr (.inl f)))])) H := hP
        have hD : va_D A (wX1 cI cJ cZ bd u122 ++ (wX0 cI cJ cZ ad u ++ [(oo, .inl (cJ, 1, .inr (.inl f)))])) := hD
        refine lv_icmp_eq (tgt := 820) hx hb dL_law_815 (by decide) (fun c123 => ?_) (fun c123 => ?_)
        · have h := q_t h c123
          obtain ⟨v124, ev124, h⟩ := q_l h
          refine lv_iinc (v := v124) (lv' := [(4, .int v124), (0, .ref b), (1, .ref ((ad 0))), (2, .ref ((bd 0))), (3, .ref oo)]) hx hb dL_law_820 hl (k := 4) rfl (by rw [ev124]; rfl) (by decide) rfl (fun ls hl => ?_)
          refine lv_goto (tgt := 23) hx hb dL_law_823 (by decide) ?_
          refine W.widen (k := 30 + (k + 1)) (n := 17637 + 6 * (k + 1)) (by omega) (by omega) ?_
          exact ih (k + 1) u u122 f v124 _ _ _ h (by omega) hP hD hS (lv_sub hl [1, 2, 3, 4, 0] rfl)
        · have h := q_f h c123
          cases h
      have h := q_f h c116
      refine lv_tableOut (tgt := 820) hx hb dL_law_40 (q_sw0_9 c2 c17 c47 c56 c65 c74 c83 c92 c101 c116) (by decide) ?_
      obtain ⟨v125, ev125, h⟩ := q_l h
      refine lv_iinc (v := v125) (lv' := [(4, .int v125), (0, .ref b), (1, .ref ((ad 0))), (2, .ref ((bd 0))), (3, .ref oo)]) hx hb dL_law_820 hl (k := 4) rfl (by rw [ev125]; rfl) (by decide) rfl (fun ls hl => ?_)
      refine lv_goto (tgt := 23) hx hb dL_law_823 (by decide) ?_
      refine W.widen (k := 30 + (k + 1)) (n := 17637 + 6 * (k + 1)) (by omega) (by omega) ?_
      exact ih (k + 1) u v f v125 _ _ _ h (by omega) hP hD hS (lv_sub hl [1, 2, 3, 4, 0] rfl)
