set_option maxHeartbeats 4000000 in
set_option maxRecDepth 100000 in
theorem kX1_gate (l : Launch) (dC : Nat → ClassId) (dI : Nat → Nat → Nat) (cI cJ cZ : ClassId) (ad : Nat → Nat) (sz : Nat) (u : gS) (x1 : Int32) (x2 : Int64) (x3 : Int64) (r9 : Int32) (u9 : gS) (h : fX1_gate u x1 x2 x3 = some (r9, u9)) : Ki l yX1_gate wsX1_gate rmX1_gate (dC, dI) vwCl (tyS cI cJ cZ) (wX1 cI cJ cZ ad) sz u [.ref (ad 0), .int x1, .long x2, .long x3] r9 u9 := by
  refine g_ofW (cc := cX1_gate) (maxL := 7) (ret := (some .int)) (wf := (wX1 cI cJ cZ ad)) (u := u) (Qf := fun A => va_Qi (fun r1 u1 => r1 = r9 ∧ u1 = u9) (gAt (dC, dI) vwCl (tyS cI cJ cZ) A (wX1 cI cJ cZ ad)) A) (by decide) rfl (Nat.le_of_ble_eq_true rfl) ?_
  intro p e s m below meth c A ls C0 hK hP hD hA hl
  have hS : va_S A s.heap s.heap [] := va_S.rf
  obtain ⟨hx, hb, hml, hown, hts, hr, hlocks⟩ := id C0
  have hl : lv_has ls 7 [(0, .ref ((ad 0))), (1, .int x1), (2, .long x2), (4, .long x3)] := hl
  unfold fX1_gate at h
  refine lv_aload_n hx hb dX1_gate_0 rfl (lv_at hl 0 rfl) ?_
  refine lv_iconst (v := (0 : Int32)) hx hb dX1_gate_1 (by decide) ?_
  obtain ⟨u1, eu1, h⟩ := q_l h
  refine pfX1_thrown inX1_gate mX1_gate_51 hx hb hts hown hK hP hD hS eu1 dX1_gate_2 (fun H locs hP hD hS => ?_)
  refine lv_aload_n hx hb dX1_gate_5 rfl (lv_at hl 0 rfl) ?_
  refine lv_iload_n hx hb dX1_gate_6 rfl (lv_at hl 1 rfl) ?_
  obtain ⟨r2, g4, h⟩ := q_s h
  refine q_Vi (rest := []) (As := [.int x1]) ⟨hx, hb, hml, hown, hts⟩ (kX1_isPiece l dC dI cI cJ cZ ad _ u1 x1 r2 g4) (cwV 1 hts gX1_gate_X1_isPiece rfl rfl rfl hdX1_isPiece ⟨Nat.le_of_ble_eq_true rfl, Nat.le_of_ble_eq_true rfl⟩) (rvX1 hK hP) hK hP hD hS hA rfl hl.1 (Nat.le_of_ble_eq_true rfl) rfl dX1_gate_7 ⟨Nat.zero_le _, Nat.zero_le _⟩ (fun H locs hP hD hS => ?_)
  refine lv_if_ne (tgt := 16) hx hb dX1_gate_10 (by decide) (fun c5 => ?_) (fun c5 => ?_)
  · have h := q_f h c5
    refine lv_lload_n hx hb dX1_gate_16 rfl (lv_at hl 2 rfl) ?_
    refine lv_lconst (v := (0 : Int64)) hx hb dX1_gate_17 (by decide) ?_
    refine q_lc_ne (tgt := 33) hx hb dX1_gate_18 dX1_gate_19 (by decide) (fun c6 => ?_) (fun c6 => ?_)
    · have h := q_f h c6
      refine lv_iconst (v := (0 : Int32)) hx hb dX1_gate_33 (by decide) ?_
      refine lv_istore (lv' := [(6, .int (0 : Int32)), (0, .ref ((ad 0))), (1, .int x1), (2, .long x2), (4, .long x3)]) hx hb dX1_gate_34 hl (by decide) rfl (fun ls hl => ?_)
      refine lv_iload hx hb dX1_gate_36 (lv_at hl 0 rfl) ?_
      refine lv_if_ne (tgt := 66) hx hb dX1_gate_38 (by decide) (fun c7 => ?_) (fun c7 => ?_)
      · have h := q_f h c7
        refine lv_aload_n hx hb dX1_gate_66 rfl (lv_at hl 1 rfl) ?_
        refine gfX1_open inX1_gate mX1_gate_23 hx hb hts hown hK hP dX1_gate_67 ?_
        refine lv_iload_n hx hb dX1_gate_70 rfl (lv_at hl 2 rfl) ?_
        refine lv_lload_n hx hb dX1_gate_71 rfl (lv_at hl 3 rfl) ?_
        obtain ⟨hin, h⟩ := q_g h
        obtain ⟨u8, eu8, h⟩ := q_l h
        refine stX1_open hx hb hK hP hD hS hin eu8 dX1_gate_72 (fun H locs hP hD hS => ?_)
        refine lv_aload_n hx hb dX1_gate_73 rfl (lv_at hl 1 rfl) ?_
        refine gfX1_close inX1_gate mX1_gate_26 hx hb hts hown hK hP dX1_gate_74 ?_
        refine lv_iload_n hx hb dX1_gate_77 rfl (lv_at hl 2 rfl) ?_
        refine lv_lload hx hb dX1_gate_78 (lv_at hl 4 rfl) ?_
        obtain ⟨hin, h⟩ := q_g h
        obtain ⟨u9, eu9, h⟩ := q_l h
        refine stX1_close hx hb hK hP hD hS hin eu9 dX1_gate_80 (fun H locs hP hD hS => ?_)
        refine lv_iload hx hb dX1_gate_81 (lv_at hl 0 rfl) ?_
        refine lv_if_eq (tgt := 90) hx hb dX1_gate_83 (by decide) (fun c10 => ?_) (fun c10 => ?_)
        · have h := q_t h c10
          refine lv_iconst (v := (1 : Int32)) hx hb dX1_gate_90 (by decide) ?_
          exact q_iret hx hb hr hlocks hK hP hD hS (q_p h).1 (q_p h).2 dX1_gate_91
        · have h := q_f h c10
          refine lv_iconst (v := (0 : Int32)) hx hb dX1_gate_86 (by decide) ?_
          refine lv_goto (tgt := 91) hx hb dX1_gate_87 (by decide) ?_
          exact q_iret hx hb hr hlocks hK hP hD hS (q_p h).1 (q_p h).2 dX1_gate_91
      · have h := q_t h c7
        refine lv_lload_n hx hb dX1_gate_41 rfl (lv_at hl 3 rfl) ?_
        refine lv_lconst (v := (0 : Int64)) hx hb dX1_gate_42 (by decide) ?_
        refine q_lc_lt (tgt := 63) hx hb dX1_gate_43 dX1_gate_44 (by decide) (fun c11 => ?_) (fun c11 => ?_)
        · have h := q_t h c11
          refine lv_bipush (v := (-12 : Int32)) hx hb dX1_gate_63 (by decide) ?_
          exact q_iret hx hb hr hlocks hK hP hD hS (q_p h).1 (q_p h).2 dX1_gate_65
        · have h := q_f h c11
          refine lv_lload_n hx hb dX1_gate_47 rfl (lv_at hl 3 rfl) ?_
          refine lv_lload hx hb dX1_gate_48 (lv_at hl 4 rfl) ?_
          refine q_lc_ge (tgt := 63) hx hb dX1_gate_50 dX1_gate_51 (by decide) (fun c12 => ?_) (fun c12 => ?_)
          · have h := q_t h c12
            refine lv_bipush (v := (-12 : Int32)) hx hb dX1_gate_63 (by decide) ?_
            exact q_iret hx hb hr hlocks hK hP hD hS (q_p h).1 (q_p h).2 dX1_gate_65
          · have h := q_f h c12
            refine lv_lload hx hb dX1_gate_54 (lv_at hl 4 rfl) ?_
            refine lv_ldc2 hx hb hown (hts _ mX1_gate_77) dX1_gate_56 ?_
            refine q_lc_le (tgt := 66) hx hb dX1_gate_59 dX1_gate_60 (by decide) (fun c13 => ?_) (fun c13 => ?_)
            · have h := q_t h c13
              refine lv_aload_n hx hb dX1_gate_66 rfl (lv_at hl 1 rfl) ?_
              refine gfX1_open inX1_gate mX1_gate_23 hx hb hts hown hK hP dX1_gate_67 ?_
              refine lv_iload_n hx hb dX1_gate_70 rfl (lv_at hl 2 rfl) ?_
              refine lv_lload_n hx hb dX1_gate_71 rfl (lv_at hl 3 rfl) ?_
              obtain ⟨hin, h⟩ := q_g h
              obtain ⟨u14, eu14, h⟩ := q_l h
              refine stX1_open hx hb hK hP hD hS hin eu14 dX1_gate_72 (fun H locs hP hD hS => ?_)
              refine lv_aload_n hx hb dX1_gate_73 rfl (lv_at hl 1 rfl) ?_
              refine gfX1_close inX1_gate mX1_gate_26 hx hb hts hown hK hP dX1_gate_74 ?_
              refine lv_iload_n hx hb dX1_gate_77 rfl (lv_at hl 2 rfl) ?_
              refine lv_lload hx hb dX1_gate_78 (lv_at hl 4 rfl) ?_
              obtain ⟨hin, h⟩ := q_g h
              obtain ⟨u15, eu15, h⟩ := q_l h
              refine stX1_close hx hb hK hP hD hS hin eu15 dX1_gate_80 (fun H locs hP hD hS => ?_)
              refine lv_iload hx hb dX1_gate_81 (lv_at hl 0 rfl) ?_
              refine lv_if_eq (tgt := 90) hx hb dX1_gate_83 (by decide) (fun c16 => ?_) (fun c16 => ?_)
              · have h := q_t h c16
                refine lv_iconst (v := (1 : Int32)) hx hb dX1_gate_90 (by decide) ?_
                exact q_iret hx hb hr hlocks hK hP hD hS (q_p h).1 (q_p h).2 dX1_gate_91
              · have h := q_f h c16
                refine lv_iconst (v := (0 : Int32)) hx hb dX1_gate_86 (by decide) ?_
                refine lv_goto (tgt := 91) hx hb dX1_gate_87 (by decide) ?_
                exact q_iret hx hb hr hlocks hK hP hD hS (q_p h).1 (q_p h).2 dX1_gate_91
            · have h := q_f h c13
              refine lv_bipush (v := (-12 : Int32)) hx hb dX1_gate_63 (by decide) ?_
              exact q_iret hx hb hr hlocks hK hP hD hS (q_p h).1 (q_p h).2 dX1_gate_65
    · have h := q_t h c6
      refine lv_lload hx hb dX1_gate_22 (lv_at hl 3 rfl) ?_
      refine lv_lconst (v := (0 : Int64)) hx hb dX1_gate_24 (by decide) ?_
      refine q_lc_ne (tgt := 33) hx hb dX1_gate_25 dX1_gate_26 (by decide) (fun c17 => ?_) (fun c17 => ?_)
      · have h := q_f h c17
        refine lv_iconst (v := (0 : Int32)) hx hb dX1_gate_33 (by decide) ?_
        refine lv_istore (lv' := [(6, .int (0 : Int32)), (0, .ref ((ad 0))), (1, .int x1), (2, .long x2), (4, .long x3)]) hx hb dX1_gate_34 hl (by decide) rfl (fun ls hl => ?_)
        refine lv_iload hx hb dX1_gate_36 (lv_at hl 0 rfl) ?_
        refine lv_if_ne (tgt := 66) hx hb dX1_gate_38 (by decide) (fun c18 => ?_) (fun c18 => ?_)
        · have h := q_f h c18
          refine lv_aload_n hx hb dX1_gate_66 rfl (lv_at hl 1 rfl) ?_
          refine gfX1_open inX1_gate mX1_gate_23 hx hb hts hown hK hP dX1_gate_67 ?_
          refine lv_iload_n hx hb dX1_gate_70 rfl (lv_at hl 2 rfl) ?_
          refine lv_lload_n hx hb dX1_gate_71 rfl (lv_at hl 3 rfl) ?_
          obtain ⟨hin, h⟩ := q_g h
          obtain ⟨u19, eu19, h⟩ := q_l h
          refine stX1_open hx hb hK hP hD hS hin eu19 dX1_gate_72 (fun H locs hP hD hS => ?_)
          refine lv_aload_n hx hb dX1_gate_73 rfl (lv_at hl 1 rfl) ?_
          refine gfX1_close inX1_gate mX1_gate_26 hx hb hts hown hK hP dX1_gate_74 ?_
          refine lv_iload_n hx hb dX1_gate_77 rfl (lv_at hl 2 rfl) ?_
          refine lv_lload hx hb dX1_gate_78 (lv_at hl 4 rfl) ?_
          obtain ⟨hin, h⟩ := q_g h
          obtain ⟨u20, eu20, h⟩ := q_l h
          refine stX1_close hx hb hK hP hD hS hin eu20 dX1_gate_80 (fun H locs hP hD hS => ?_)
          refine lv_iload hx hb dX1_gate_81 (lv_at hl 0 rfl) ?_
          refine lv_if_eq (tgt := 90) hx hb dX1_gate_83 (by decide) (fun c21 => ?_) (fun c21 => ?_)
          · have h := q_t h c21
            refine lv_iconst (v := (1 : Int32)) hx hb dX1_gate_90 (by decide) ?_
            exact q_iret hx hb hr hlocks hK hP hD hS (q_p h).1 (q_p h).2 dX1_gate_91
          · have h := q_f h c21
            refine lv_iconst (v := (0 : Int32)) hx hb dX1_gate_86 (by decide) ?_
            refine lv_goto (tgt := 91) hx hb dX1_gate_87 (by decide) ?_
            exact q_iret hx hb hr hlocks hK hP hD hS (q_p h).1 (q_p h).2 dX1_gate_91
        · have h := q_t h c18
          refine lv_lload_n hx hb dX1_gate_41 rfl (lv_at hl 3 rfl) ?_
          refine lv_lconst (v := (0 : Int64)) hx hb dX1_gate_42 (by decide) ?_
          refine q_lc_lt (tgt := 63) hx hb dX1_gate_43 dX1_gate_44 (by decide) (fun c22 => ?_) (fun c22 => ?_)
          · have h := q_t h c22
            refine lv_bipush (v := (-12 : Int32)) hx hb dX1_gate_63 (by decide) ?_
            exact q_iret hx hb hr hlocks hK hP hD hS (q_p h).1 (q_p h).2 dX1_gate_65
          · have h := q_f h c22
            refine lv_lload_n hx hb dX1_gate_47 rfl (lv_at hl 3 rfl) ?_
            refine lv_lload hx hb dX1_gate_48 (lv_at hl 4 rfl) ?_
            refine q_lc_ge (tgt := 63) hx hb dX1_gate_50 dX1_gate_51 (by decide) (fun c23 => ?_) (fun c23 => ?_)
            · have h := q_t h c23
              refine lv_bipush (v := (-12 : Int32)) hx hb dX1_gate_63 (by decide) ?_
              exact q_iret hx hb hr hlocks hK hP hD hS (q_p h).1 (q_p h).2 dX1_gate_65
            · have h := q_f h c23
              refine lv_lload hx hb dX1_gate_54 (lv_at hl 4 rfl) ?_
              refine lv_ldc2 hx hb hown (hts _ mX1_gate_77) dX1_gate_56 ?_
              refine q_lc_le (tgt := 66) hx hb dX1_gate_59 dX1_gate_60 (by decide) (fun c24 => ?_) (fun c24 => ?_)
              · have h := q_t h c24
                refine lv_aload_n hx hb dX1_gate_66 rfl (lv_at hl 1 rfl) ?_
                refine gfX1_open inX1_gate mX1_gate_23 hx hb hts hown hK hP dX1_gate_67 ?_
                refine lv_iload_n hx hb dX1_gate_70 rfl (lv_at hl 2 rfl) ?_
                refine lv_lload_n hx hb dX1_gate_71 rfl (lv_at hl 3 rfl) ?_
                obtain ⟨hin, h⟩ := q_g h
                obtain ⟨u25, eu25, h⟩ := q_l h
                refine stX1_open hx hb hK hP hD hS hin eu25 dX1_gate_72 (fun H locs hP hD hS => ?_)
                refine lv_aload_n hx hb dX1_gate_73 rfl (lv_at hl 1 rfl) ?_
                refine gfX1_close inX1_gate mX1_gate_26 hx hb hts hown hK hP dX1_gate_74 ?_
                refine lv_iload_n hx hb dX1_gate_77 rfl (lv_at hl 2 rfl) ?_
                refine lv_lload hx hb dX1_gate_78 (lv_at hl 4 rfl) ?_
                obtain ⟨hin, h⟩ := q_g h
                obtain ⟨u26, eu26, h⟩ := q_l h
                refine stX1_close hx hb hK hP hD hS hin eu26 dX1_gate_80 (fun H locs hP hD hS => ?_)
                refine lv_iload hx hb dX1_gate_81 (lv_at hl 0 rfl) ?_
                refine lv_if_eq (tgt := 90) hx hb dX1_gate_83 (by decide) (fun c27 => ?_) (fun c27 => ?_)
                · have h := q_t h c27
                  refine lv_iconst (v := (1 : Int32)) hx hb dX1_gate_90 (by decide) ?_
                  exact q_iret hx hb hr hlocks hK hP hD hS (q_p h).1 (q_p h).2 dX1_gate_91
                · have h := q_f h c27
                  refine lv_iconst (v := (0 : Int32)) hx hb dX1_gate_86 (by decide) ?_
                  refine lv_goto (tgt := 91) hx hb dX1_gate_87 (by decide) ?_
                  exact q_iret hx hb hr hlocks hK hP hD hS (q_p h).1 (q_p h).2 dX1_gate_91
              · have h := q_f h c24
                refine lv_bipush (v := (-12 : Int32)) hx hb dX1_gate_63 (by decide) ?_
                exact q_iret hx hb hr hlocks hK hP hD hS (q_p h).1 (q_p h).2 dX1_gate_65
      · have h := q_t h c17
        refine lv_iconst (v := (1 : Int32)) hx hb dX1_gate_29 (by decide) ?_
        refine lv_goto (tgt := 34) hx hb dX1_gate_30 (by decide) ?_
        refine lv_istore (lv' := [(6, .int (1 : Int32)), (0, .ref ((ad 0))), (1, .int x1), (2, .long x2), (4, .long x3)]) hx hb dX1_gate_34 hl (by decide) rfl (fun ls hl => ?_)
        refine lv_iload hx hb dX1_gate_36 (lv_at hl 0 rfl) ?_
        refine lv_if_ne (tgt := 66) hx hb dX1_gate_38 (by decide) (fun c28 => ?_) (fun c28 => ?_)
        · have h := q_f h c28
          refine lv_aload_n hx hb dX1_gate_66 rfl (lv_at hl 1 rfl) ?_
          refine gfX1_open inX1_gate mX1_gate_23 hx hb hts hown hK hP dX1_gate_67 ?_
          refine lv_iload_n hx hb dX1_gate_70 rfl (lv_at hl 2 rfl) ?_
          refine lv_lload_n hx hb dX1_gate_71 rfl (lv_at hl 3 rfl) ?_
          obtain ⟨hin, h⟩ := q_g h
          obtain ⟨u29, eu29, h⟩ := q_l h
          refine stX1_open hx hb hK hP hD hS hin eu29 dX1_gate_72 (fun H locs hP hD hS => ?_)
          refine lv_aload_n hx hb dX1_gate_73 rfl (lv_at hl 1 rfl) ?_
          refine gfX1_close inX1_gate mX1_gate_26 hx hb hts hown hK hP dX1_gate_74 ?_
          refine lv_iload_n hx hb dX1_gate_77 rfl (lv_at hl 2 rfl) ?_
          refine lv_lload hx hb dX1_gate_78 (lv_at hl 4 rfl) ?_
          obtain ⟨hin, h⟩ := q_g h
          obtain ⟨u30, eu30, h⟩ := q_l h
          refine stX1_close hx hb hK hP hD hS hin eu30 dX1_gate_80 (fun H locs hP hD hS => ?_)
          refine lv_iload hx hb dX1_gate_81 (lv_at hl 0 rfl) ?_
          refine lv_if_eq (tgt := 90) hx hb dX1_gate_83 (by decide) (fun c31 => ?_) (fun c31 => ?_)
          · have h := q_t h c31
            refine lv_iconst (v := (1 : Int32)) hx hb dX1_gate_90 (by decide) ?_
            exact q_iret hx hb hr hlocks hK hP hD hS (q_p h).1 (q_p h).2 dX1_gate_91
          · have h := q_f h c31
            refine lv_iconst (v := (0 : Int32)) hx hb dX1_gate_86 (by decide) ?_
            refine lv_goto (tgt := 91) hx hb dX1_gate_87 (by decide) ?_
            exact q_iret hx hb hr hlocks hK hP hD hS (q_p h).1 (q_p h).2 dX1_gate_91
        · have h := q_t h c28
          refine lv_lload_n hx hb dX1_gate_41 rfl (lv_at hl 3 rfl) ?_
          refine lv_lconst (v := (0 : Int64)) hx hb dX1_gate_42 (by decide) ?_
          refine q_lc_lt (tgt := 63) hx hb dX1_gate_43 dX1_gate_44 (by decide) (fun c32 => ?_) (fun c32 => ?_)
          · have h := q_t h c32
            refine lv_bipush (v := (-12 : Int32)) hx hb dX1_gate_63 (by decide) ?_
            exact q_iret hx hb hr hlocks hK hP hD hS (q_p h).1 (q_p h).2 dX1_gate_65
          · have h := q_f h c32
            refine lv_lload_n hx hb dX1_gate_47 rfl (lv_at hl 3 rfl) ?_
            refine lv_lload hx hb dX1_gate_48 (lv_at hl 4 rfl) ?_
            refine q_lc_ge (tgt := 63) hx hb dX1_gate_50 dX1_gate_51 (by decide) (fun c33 => ?_) (fun c33 => ?_)
            · have h := q_t h c33
              refine lv_bipush (v := (-12 : Int32)) hx hb dX1_gate_63 (by decide) ?_
              exact q_iret hx hb hr hlocks hK hP hD hS (q_p h).1 (q_p h).2 dX1_gate_65
            · have h := q_f h c33
              refine lv_lload hx hb dX1_gate_54 (lv_at hl 4 rfl) ?_
              refine lv_ldc2 hx hb hown (hts _ mX1_gate_77) dX1_gate_56 ?_
              refine q_lc_le (tgt := 66) hx hb dX1_gate_59 dX1_gate_60 (by decide) (fun c34 => ?_) (fun c34 => ?_)
              · have h := q_t h c34
                refine lv_aload_n hx hb dX1_gate_66 rfl (lv_at hl 1 rfl) ?_
                refine gfX1_open inX1_gate mX1_gate_23 hx hb hts hown hK hP dX1_gate_67 ?_
                refine lv_iload_n hx hb dX1_gate_70 rfl (lv_at hl 2 rfl) ?_
                refine lv_lload_n hx hb dX1_gate_71 rfl (lv_at hl 3 rfl) ?_
                obtain ⟨hin, h⟩ := q_g h
                obtain ⟨u35, eu35, h⟩ := q_l h
                refine stX1_open hx hb hK hP hD hS hin eu35 dX1_gate_72 (fun H locs hP hD hS => ?_)
                refine lv_aload_n hx hb dX1_gate_73 rfl (lv_at hl 1 rfl) ?_
                refine gfX1_close inX1_gate mX1_gate_26 hx hb hts hown hK hP dX1_gate_74 ?_
                refine lv_iload_n hx hb dX1_gate_77 rfl (lv_at hl 2 rfl) ?_
                refine lv_lload hx hb dX1_gate_78 (lv_at hl 4 rfl) ?_
                obtain ⟨hin, h⟩ := q_g h
                obtain ⟨u36, eu36, h⟩ := q_l h
                refine stX1_close hx hb hK hP hD hS hin eu36 dX1_gate_80 (fun H locs hP hD hS => ?_)
                refine lv_iload hx hb dX1_gate_81 (lv_at hl 0 rfl) ?_
                refine lv_if_eq (tgt := 90) hx hb dX1_gate_83 (by decide) (fun c37 => ?_) (fun c37 => ?_)
                · have h := q_t h c37
                  refine lv_iconst (v := (1 : Int32)) hx hb dX1_gate_90 (by decide) ?_
                  exact q_iret hx hb hr hlocks hK hP hD hS (q_p h).1 (q_p h).2 dX1_gate_91
                · have h := q_f h c37
                  refine lv_iconst (v := (0 : Int32)) hx hb dX1_gate_86 (by decide) ?_
                  refine lv_goto (tgt := 91) hx hb dX1_gate_87 (by decide) ?_
                  exact q_iret hx hb hr hlocks hK hP hD hS (q_p h).1 (q_p h).2 dX1_gate_91
              · have h := q_f h c34
                refine lv_bipush (v := (-12 : Int32)) hx hb dX1_gate_63 (by decide) ?_
                exact q_iret hx hb hr hlocks hK hP hD hS (q_p h).1 (q_p h).2 dX1_gate_65
  · have h := q_t h c5
    refine lv_bipush (v := (-11 : Int32)) hx hb dX1_gate_13 (by decide) ?_
    exact q_iret hx hb hr hlocks hK hP hD hS (q_p h).1 (q_p h).2 dX1_gate_15
set_option maxHeartbeats 4000000 in
set_option maxRecDepth 100000 in
theorem kX1_change (l : Launch) (dC : Nat → ClassId) (dI : Nat → Nat → Nat) (cI cJ cZ : ClassId) (ad : Nat → Nat) (sz : Nat) (u : gS) (x1 : Int32) (x2 : Int64) (r9 : Int32) (u9 : gS) (h : fX1_change u x1 x2 = some (r9, u9)) : Ki l yX1_change wsX1_change rmX1_change (dC, dI) vwCl (tyS cI cJ cZ) (wX1 cI cJ cZ ad) sz u [.ref (ad 0), .int x1, .long x2] r9 u9 := by
  refine g_ofW (cc := cX1_change) (maxL := 5) (ret := (some .int)) (wf := (wX1 cI cJ cZ ad)) (u := u) (Qf := fun A => va_Qi (fun r1 u1 => r1 = r9 ∧ u1 = u9) (gAt (dC, dI) vwCl (tyS cI cJ cZ) A (wX1 cI cJ cZ ad)) A) (by decide) rfl (Nat.le_of_ble_eq_true rfl) ?_
  intro p e s m below meth c A ls C0 hK hP hD hA hl
  have hS : va_S A s.heap s.heap [] := va_S.rf
  obtain ⟨hx, hb, hml, hown, hts, hr, hlocks⟩ := id C0
  have hl : lv_has ls 5 [(0, .ref ((ad 0))), (1, .int x1), (2, .long x2)] := hl
  unfold fX1_change at h
  refine lv_aload_n hx hb dX1_change_0 rfl (lv_at hl 0 rfl) ?_
  refine lv_iconst (v := (0 : Int32)) hx hb dX1_change_1 (by decide) ?_
  obtain ⟨u1, eu1, h⟩ := q_l h
  refine pfX1_thrown inX1_change mX1_change_51 hx hb hts hown hK hP hD hS eu1 dX1_change_2 (fun H locs hP hD hS => ?_)
  refine lv_aload_n hx hb dX1_change_5 rfl (lv_at hl 0 rfl) ?_
  refine lv_iload_n hx hb dX1_change_6 rfl (lv_at hl 1 rfl) ?_
  obtain ⟨r2, g4, h⟩ := q_s h
  refine q_Vi (rest := []) (As := [.int x1]) ⟨hx, hb, hml, hown, hts⟩ (kX1_isPiece l dC dI cI cJ cZ ad _ u1 x1 r2 g4) (cwV 1 hts gX1_change_X1_isPiece rfl rfl rfl hdX1_isPiece ⟨Nat.le_of_ble_eq_true rfl, Nat.le_of_ble_eq_true rfl⟩) (rvX1 hK hP) hK hP hD hS hA rfl hl.1 (Nat.le_of_ble_eq_true rfl) rfl dX1_change_7 ⟨Nat.zero_le _, Nat.zero_le _⟩ (fun H locs hP hD hS => ?_)
  refine lv_if_ne (tgt := 16) hx hb dX1_change_10 (by decide) (fun c5 => ?_) (fun c5 => ?_)
  · have h := q_f h c5
    refine lv_lload_n hx hb dX1_change_16 rfl (lv_at hl 2 rfl) ?_
    refine lv_lconst (v := (1 : Int64)) hx hb dX1_change_17 (by decide) ?_
    refine lv_ldc2 hx hb hown (hts _ mX1_change_71) dX1_change_18 ?_
    obtain ⟨r6, g8, h⟩ := q_s h
    refine q_Si (rest := []) (As := [.long x2, .long (1 : Int64), .long (1000 : Int64)]) ⟨hx, hb, hml, hown, hts⟩ (kX1_in l dC dI cI cJ cZ ad _ u1 x2 (1 : Int64) (1000 : Int64) r6 g8) (va_cwS 3 hts gX1_change_X1_in rfl rfl rfl hdX1_in ⟨Nat.le_of_ble_eq_true rfl, Nat.le_of_ble_eq_true rfl⟩) hK hP hD hS hA rfl hl.1 (Nat.le_of_ble_eq_true rfl) rfl dX1_change_21 ⟨Nat.zero_le _, Nat.zero_le _⟩ (fun H locs hP hD hS => ?_)
    refine lv_if_ne (tgt := 30) hx hb dX1_change_24 (by decide) (fun c9 => ?_) (fun c9 => ?_)
    · have h := q_f h c9
      refine lv_aload_n hx hb dX1_change_30 rfl (lv_at hl 0 rfl) ?_
      refine gfX1_speed inX1_change mX1_change_20 hx hb hts hown hK hP dX1_change_31 ?_
      refine lv_iload_n hx hb dX1_change_34 rfl (lv_at hl 1 rfl) ?_
      obtain ⟨hin, h⟩ := q_g h
      refine ldX1_speed hx hb hK hP hin dX1_change_35 ?_
      refine lv_l2i (v := (gl u1 1 x1.toNatClampNeg).toInt32) hx hb dX1_change_36 rfl ?_
      obtain ⟨v10, ev10, h⟩ := q_l h
      refine q_topi ev10 ?_
      refine lv_istore (lv' := [(4, .int v10), (0, .ref ((ad 0))), (1, .int x1), (2, .long x2)]) hx hb dX1_change_37 hl (by decide) rfl (fun ls hl => ?_)
      refine lv_aload_n hx hb dX1_change_39 rfl (lv_at hl 1 rfl) ?_
      refine gfX1_speed inX1_change mX1_change_20 hx hb hts hown hK hP dX1_change_40 ?_
      refine lv_iload_n hx hb dX1_change_43 rfl (lv_at hl 2 rfl) ?_
      refine lv_lload_n hx hb dX1_change_44 rfl (lv_at hl 3 rfl) ?_
      obtain ⟨hin, h⟩ := q_g h
      obtain ⟨u11, eu11, h⟩ := q_l h
      refine stX1_speed hx hb hK hP hD hS hin eu11 dX1_change_45 (fun H locs hP hD hS => ?_)
      refine lv_iload hx hb dX1_change_46 (lv_at hl 0 rfl) ?_
      exact q_iret hx hb hr hlocks hK hP hD hS (q_p h).1 (q_p h).2 dX1_change_48
    · have h := q_t h c9
      refine lv_bipush (v := (-12 : Int32)) hx hb dX1_change_27 (by decide) ?_
      exact q_iret hx hb hr hlocks hK hP hD hS (q_p h).1 (q_p h).2 dX1_change_29
  · have h := q_t h c5
    refine lv_bipush (v := (-11 : Int32)) hx hb dX1_change_13 (by decide) ?_
    exact q_iret hx hb hr hlocks hK hP hD hS (q_p h).1 (q_p h).2 dX1_change_15
set_option maxHeartbeats 4000000 in
set_option maxRecDepth 100000 in
theorem kX1_leads (l : Launch) (dC : Nat → ClassId) (dI : Nat → Nat → Nat) (cI cJ cZ : ClassId) (ad : Nat → Nat) (sz : Nat) (u : gS) (x1 : Int32) (x2 : Int32) (r9 : Int32) (h : fX1_leads u x1 x2 = some r9) : Ki l yX1_leads wsX1_leads rmX1_leads (dC, dI) vwCl (tyS cI cJ cZ) (wX1 cI cJ cZ ad) sz u [.ref (ad 0), .int x1, .int x2] r9 u := by
  refine g_ofW (cc := cX1_leads) (maxL := 3) (ret := (some .boolean)) (wf := (wX1 cI cJ cZ ad)) (u := u) (Qf := fun A => va_Qi (fun r1 u1 => r1 = r9 ∧ u1 = u) (gAt (dC, dI) vwCl (tyS cI cJ cZ) A (wX1 cI cJ cZ ad)) A) (by decide) rfl (Nat.le_of_ble_eq_true rfl) ?_
  intro p e s m below meth c A ls C0 hK hP hD hA hl
  have hS : va_S A s.heap s.heap [] := va_S.rf
  obtain ⟨hx, hb, hml, hown, hts, hr, hlocks⟩ := id C0
  have hl : lv_has ls 3 [(0, .ref ((ad 0))), (1, .int x1), (2, .int x2)] := hl
  unfold fX1_leads at h
  refine lv_aload_n hx hb dX1_leads_0 rfl (lv_at hl 0 rfl) ?_
  refine gfX1_ends inX1_leads mX1_leads_13 hx hb hts hown hK hP dX1_leads_1 ?_
  refine lv_iload_n hx hb dX1_leads_4 rfl (lv_at hl 1 rfl) ?_
  obtain ⟨hin, h⟩ := q_g h
  refine ldX1_ends hx hb hK hP hin dX1_leads_5 ?_
  refine lv_aload_n hx hb dX1_leads_6 rfl (lv_at hl 0 rfl) ?_
  refine gfX1_begins inX1_leads mX1_leads_7 hx hb hts hown hK hP dX1_leads_7 ?_
  refine lv_iload_n hx hb dX1_leads_10 rfl (lv_at hl 2 rfl) ?_
  obtain ⟨hin, h⟩ := q_g h
  refine ldX1_begins hx hb hK hP hin dX1_leads_11 ?_
  refine lv_icmp_ne (tgt := 33) hx hb dX1_leads_12 (by decide) (fun c1 => ?_) (fun c1 => ?_)
  · have h := q_f h c1
    refine lv_iconst (v := (0 : Int32)) hx hb dX1_leads_33 (by decide) ?_
    exact q_zret hx hb hr hlocks hK hP hD hS rfl (Option.some.inj h) rfl dX1_leads_34
  · have h := q_t h c1
    refine lv_aload_n hx hb dX1_leads_15 rfl (lv_at hl 0 rfl) ?_
    refine gfX1_barred inX1_leads mX1_leads_29 hx hb hts hown hK hP dX1_leads_16 ?_
    refine lv_bipush (v := (120 : Int32)) hx hb dX1_leads_19 (by decide) ?_
    refine lv_iload_n hx hb dX1_leads_21 rfl (lv_at hl 1 rfl) ?_
    refine lv_imul hx hb dX1_leads_22 ?_
    refine lv_iload_n hx hb dX1_leads_23 rfl (lv_at hl 2 rfl) ?_
    refine lv_iadd hx hb dX1_leads_24 ?_
    obtain ⟨hin, h⟩ := q_g h
    refine ldX1_barred hx hb hK hP hin dX1_leads_25 ?_
    refine lv_if_ne (tgt := 33) hx hb dX1_leads_26 (by decide) (fun c2 => ?_) (fun c2 => ?_)
    · have h := q_f h c2
      refine lv_iconst (v := (0 : Int32)) hx hb dX1_leads_33 (by decide) ?_
      exact q_zret hx hb hr hlocks hK hP hD hS rfl (Option.some.inj h) rfl dX1_leads_34
    · have h := q_t h c2
      refine lv_iconst (v := (1 : Int32)) hx hb dX1_leads_29 (by decide) ?_
      refine lv_goto (tgt := 34) hx hb dX1_leads_30 (by decide) ?_
      exact q_zret hx hb hr hlocks hK hP hD hS rfl (Option.some.inj h) rfl dX1_leads_34
set_option maxHeartbeats 4000000 in
set_option maxRecDepth 100000 in
theorem kX1_entry (l : Launch) (dC : Nat → ClassId) (dI : Nat → Nat → Nat) (cI cJ cZ : ClassId) (ad : Nat → Nat) (sz : Nat) (u : gS) (x1 : Int32) (x2 : Int64) (r9 : Int64) (h : fX1_entry u x1 x2 = some r9) : Kl l yX1_entry wsX1_entry rmX1_entry (dC, dI) vwCl (tyS cI cJ cZ) (wX1 cI cJ cZ ad) sz u [.ref (ad 0), .int x1, .long x2] r9 u := by
  refine g_ofW (cc := cX1_entry) (maxL := 6) (ret := (some .long)) (wf := (wX1 cI cJ cZ ad)) (u := u) (Qf := fun A => va_Ql (fun r1 u1 => r1 = r9 ∧ u1 = u) (gAt (dC, dI) vwCl (tyS cI cJ cZ) A (wX1 cI cJ cZ ad)) A) (by decide) rfl (Nat.le_of_ble_eq_true rfl) ?_
  intro p e s m below meth c A ls C0 hK hP hD hA hl
  have hS : va_S A s.heap s.heap [] := va_S.rf
  obtain ⟨hx, hb, hml, hown, hts, hr, hlocks⟩ := id C0
  have hl : lv_has ls 6 [(0, .ref ((ad 0))), (1, .int x1), (2, .long x2)] := hl
  unfold fX1_entry at h
  refine lv_aload_n hx hb dX1_entry_0 rfl (lv_at hl 0 rfl) ?_
  refine gfX1_close inX1_entry mX1_entry_26 hx hb hts hown hK hP dX1_entry_1 ?_
  refine lv_iload_n hx hb dX1_entry_4 rfl (lv_at hl 1 rfl) ?_
  obtain ⟨hin, h⟩ := q_g h
  refine ldX1_close hx hb hK hP hin dX1_entry_5 ?_
  refine lv_lconst (v := (0 : Int64)) hx hb dX1_entry_6 (by decide) ?_
  refine q_lc_ne (tgt := 13) hx hb dX1_entry_7 dX1_entry_8 (by decide) (fun c1 => ?_) (fun c1 => ?_)
  · have h := q_f h c1
    refine lv_lload_n hx hb dX1_entry_13 rfl (lv_at hl 2 rfl) ?_
    refine lv_lload_n hx hb dX1_entry_14 rfl (lv_at hl 2 rfl) ?_
    refine lv_ldc2 hx hb hown (hts _ mX1_entry_77) dX1_entry_15 ?_
    refine lv_lrem hx hb dX1_entry_18 (by decide) ?_
    refine lv_lsub hx hb dX1_entry_19 ?_
    obtain ⟨v2, ev2, h⟩ := q_l h
    refine q_topl ev2 ?_
    refine lv_lstore (lv' := [(4, .long v2), (0, .ref ((ad 0))), (1, .int x1), (2, .long x2)]) hx hb dX1_entry_20 hl (by decide) rfl (fun ls hl => ?_)
    refine lv_lload_n hx hb dX1_entry_22 rfl (lv_at hl 3 rfl) ?_
    refine lv_lload hx hb dX1_entry_23 (lv_at hl 0 rfl) ?_
    refine lv_aload_n hx hb dX1_entry_25 rfl (lv_at hl 1 rfl) ?_
    refine gfX1_open inX1_entry mX1_entry_23 hx hb hts hown hK hP dX1_entry_26 ?_
    refine lv_iload_n hx hb dX1_entry_29 rfl (lv_at hl 2 rfl) ?_
    obtain ⟨hin, h⟩ := q_g h
    refine ldX1_open hx hb hK hP hin dX1_entry_30 ?_
    refine lv_ladd hx hb dX1_entry_31 ?_
    refine q_lc_ge (tgt := 46) hx hb dX1_entry_32 dX1_entry_33 (by decide) (fun c3 => ?_) (fun c3 => ?_)
    · have h := q_t h c3
      refine lv_lload_n hx hb dX1_entry_46 rfl (lv_at hl 3 rfl) ?_
      refine lv_lload hx hb dX1_entry_47 (lv_at hl 0 rfl) ?_
      refine lv_aload_n hx hb dX1_entry_49 rfl (lv_at hl 1 rfl) ?_
      refine gfX1_close inX1_entry mX1_entry_26 hx hb hts hown hK hP dX1_entry_50 ?_
      refine lv_iload_n hx hb dX1_entry_53 rfl (lv_at hl 2 rfl) ?_
      obtain ⟨hin, h⟩ := q_g h
      refine ldX1_close hx hb hK hP hin dX1_entry_54 ?_
      refine lv_ladd hx hb dX1_entry_55 ?_
      refine q_lc_ge (tgt := 64) hx hb dX1_entry_56 dX1_entry_57 (by decide) (fun c4 => ?_) (fun c4 => ?_)
      · have h := q_t h c4
        refine lv_lload hx hb dX1_entry_64 (lv_at hl 0 rfl) ?_
        refine lv_ldc2 hx hb hown (hts _ mX1_entry_77) dX1_entry_66 ?_
        refine lv_ladd hx hb dX1_entry_69 ?_
        refine lv_aload_n hx hb dX1_entry_70 rfl (lv_at hl 1 rfl) ?_
        refine gfX1_open inX1_entry mX1_entry_23 hx hb hts hown hK hP dX1_entry_71 ?_
        refine lv_iload_n hx hb dX1_entry_74 rfl (lv_at hl 2 rfl) ?_
        obtain ⟨hin, h⟩ := q_g h
        refine ldX1_open hx hb hK hP hin dX1_entry_75 ?_
        refine lv_ladd hx hb dX1_entry_76 ?_
        exact q_lret hx hb hr hlocks hK hP hD hS (Option.some.inj h) rfl dX1_entry_77
      · have h := q_f h c4
        refine lv_lload_n hx hb dX1_entry_60 rfl (lv_at hl 3 rfl) ?_
        refine lv_goto (tgt := 77) hx hb dX1_entry_61 (by decide) ?_
        exact q_lret hx hb hr hlocks hK hP hD hS (Option.some.inj h) rfl dX1_entry_77
    · have h := q_f h c3
      refine lv_lload hx hb dX1_entry_36 (lv_at hl 0 rfl) ?_
      refine lv_aload_n hx hb dX1_entry_38 rfl (lv_at hl 1 rfl) ?_
      refine gfX1_open inX1_entry mX1_entry_23 hx hb hts hown hK hP dX1_entry_39 ?_
      refine lv_iload_n hx hb dX1_entry_42 rfl (lv_at hl 2 rfl) ?_
      obtain ⟨hin, h⟩ := q_g h
      refine ldX1_open hx hb hK hP hin dX1_entry_43 ?_
      refine lv_ladd hx hb dX1_entry_44 ?_
      exact q_lret hx hb hr hlocks hK hP hD hS (Option.some.inj h) rfl dX1_entry_45
  · have h := q_t h c1
    refine lv_lload_n hx hb dX1_entry_11 rfl (lv_at hl 2 rfl) ?_
    exact q_lret hx hb hr hlocks hK hP hD hS (Option.some.inj h) rfl dX1_entry_12
set_option maxHeartbeats 4000000 in
set_option maxRecDepth 100000 in
theorem kX1_crossing (l : Launch) (dC : Nat → ClassId) (dI : Nat → Nat → Nat) (cI cJ cZ : ClassId) (ad : Nat → Nat) (sz : Nat) (u : gS) (x1 : Int32) (r9 : Int64) (h : fX1_crossing u x1 = some r9) : Kl l yX1_crossing wsX1_crossing rmX1_crossing (dC, dI) vwCl (tyS cI cJ cZ) (wX1 cI cJ cZ ad) sz u [.ref (ad 0), .int x1] r9 u := by
  refine g_ofW (cc := cX1_crossing) (maxL := 2) (ret := (some .long)) (wf := (wX1 cI cJ cZ ad)) (u := u) (Qf := fun A => va_Ql (fun r1 u1 => r1 = r9 ∧ u1 = u) (gAt (dC, dI) vwCl (tyS cI cJ cZ) A (wX1 cI cJ cZ ad)) A) (by decide) rfl (Nat.le_of_ble_eq_true rfl) ?_
  intro p e s m below meth c A ls C0 hK hP hD hA hl
  have hS : va_S A s.heap s.heap [] := va_S.rf
  obtain ⟨hx, hb, hml, hown, hts, hr, hlocks⟩ := id C0
  have hl : lv_has ls 2 [(0, .ref ((ad 0))), (1, .int x1)] := hl
  unfold fX1_crossing at h
  refine lv_aload_n hx hb dX1_crossing_0 rfl (lv_at hl 0 rfl) ?_
  refine gfX1_side inX1_crossing mX1_crossing_36 hx hb hts hown hK hP dX1_crossing_1 ?_
  refine lv_iload_n hx hb dX1_crossing_4 rfl (lv_at hl 1 rfl) ?_
  obtain ⟨hin, h⟩ := q_g h
  refine ldX1_side hx hb hK hP hin dX1_crossing_5 ?_
  refine lv_iconst (v := (1 : Int32)) hx hb dX1_crossing_6 (by decide) ?_
  refine lv_icmp_ne (tgt := 16) hx hb dX1_crossing_7 (by decide) (fun c1 => ?_) (fun c1 => ?_)
  · have h := q_f h c1
    refine lv_lconst (v := (0 : Int64)) hx hb dX1_crossing_16 (by decide) ?_
    exact q_lret hx hb hr hlocks hK hP hD hS (Option.some.inj h) rfl dX1_crossing_17
  · have h := q_t h c1
    refine lv_ldc2 hx hb hown (hts _ mX1_crossing_79) dX1_crossing_10 ?_
    refine lv_goto (tgt := 17) hx hb dX1_crossing_13 (by decide) ?_
    exact q_lret hx hb hr hlocks hK hP hD hS (Option.some.inj h) rfl dX1_crossing_17
set_option maxHeartbeats 4000000 in
set_option maxRecDepth 100000 in
theorem kX1_rest (l : Launch) (dC : Nat → ClassId) (dI : Nat → Nat → Nat) (cI cJ cZ : ClassId) (ad : Nat → Nat) (sz : Nat) (u : gS) (x1 : Int32) (x2 : Int64) (r9 : Int64) (h : fX1_rest u x1 x2 = some r9) : Kl l yX1_rest wsX1_rest rmX1_rest (dC, dI) vwCl (tyS cI cJ cZ) (wX1 cI cJ cZ ad) sz u [.ref (ad 0), .int x1, .long x2] r9 u := by
  refine g_ofW (cc := cX1_rest) (maxL := 4) (ret := (some .long)) (wf := (wX1 cI cJ cZ ad)) (u := u) (Qf := fun A => va_Ql (fun r1 u1 => r1 = r9 ∧ u1 = u) (gAt (dC, dI) vwCl (tyS cI cJ cZ) A (wX1 cI cJ cZ ad)) A) (by decide) rfl (Nat.le_of_ble_eq_true rfl) ?_
  intro p e s m below meth c A ls C0 hK hP hD hA hl
  have hS : va_S A s.heap s.heap [] := va_S.rf
  obtain ⟨hx, hb, hml, hown, hts, hr, hlocks⟩ := id C0
  have hl : lv_has ls 4 [(0, .ref ((ad 0))), (1, .int x1), (2, .long x2)] := hl
  unfold fX1_rest at h
  refine lv_lload_n hx hb dX1_rest_0 rfl (lv_at hl 2 rfl) ?_
  refine lv_aload_n hx hb dX1_rest_1 rfl (lv_at hl 0 rfl) ?_
  refine lv_iload_n hx hb dX1_rest_2 rfl (lv_at hl 1 rfl) ?_
  obtain ⟨r1, g3, h⟩ := q_s h
  refine q_Vl (rest := [.long x2]) (As := [.int x1]) ⟨hx, hb, hml, hown, hts⟩ (kX1_crossing l dC dI cI cJ cZ ad _ u x1 r1 g3) (cwV 1 hts gX1_rest_X1_crossing rfl rfl rfl hdX1_crossing ⟨Nat.le_of_ble_eq_true rfl, Nat.le_of_ble_eq_true rfl⟩) (rvX1 hK hP) hK hP hD hS hA rfl hl.1 (Nat.le_of_ble_eq_true rfl) rfl dX1_rest_3 ⟨Nat.zero_le _, Nat.zero_le _⟩ (fun H locs hP hD hS => ?_)
  refine lv_ladd hx hb dX1_rest_6 ?_
  refine lv_aload_n hx hb dX1_rest_7 rfl (lv_at hl 0 rfl) ?_
  refine lv_aload_n hx hb dX1_rest_8 rfl (lv_at hl 0 rfl) ?_
  refine gfX1_on inX1_rest mX1_rest_33 hx hb hts hown hK hP dX1_rest_9 ?_
  refine lv_iload_n hx hb dX1_rest_12 rfl (lv_at hl 1 rfl) ?_
  obtain ⟨hin, h⟩ := q_g h
  refine ldX1_on hx hb hK hP hin dX1_rest_13 ?_
  refine lv_aload_n hx hb dX1_rest_14 rfl (lv_at hl 0 rfl) ?_
  refine gfX1_length inX1_rest mX1_rest_16 hx hb hts hown hK hP dX1_rest_15 ?_
  refine lv_aload_n hx hb dX1_rest_18 rfl (lv_at hl 0 rfl) ?_
  refine gfX1_on inX1_rest mX1_rest_33 hx hb hts hown hK hP dX1_rest_19 ?_
  refine lv_iload_n hx hb dX1_rest_22 rfl (lv_at hl 1 rfl) ?_
  obtain ⟨hin, h⟩ := q_g h
  refine ldX1_on hx hb hK hP hin dX1_rest_23 ?_
  obtain ⟨hin, h⟩ := q_g h
  refine ldX1_length hx hb hK hP hin dX1_rest_24 ?_
  refine lv_aload_n hx hb dX1_rest_25 rfl (lv_at hl 0 rfl) ?_
  refine gfX1_at inX1_rest mX1_rest_39 hx hb hts hown hK hP dX1_rest_26 ?_
  refine lv_iload_n hx hb dX1_rest_29 rfl (lv_at hl 1 rfl) ?_
  obtain ⟨hin, h⟩ := q_g h
  refine ldX1_at hx hb hK hP hin dX1_rest_30 ?_
  refine lv_lsub hx hb dX1_rest_31 ?_
  obtain ⟨r4, g6, h⟩ := q_s h
  refine q_Vl (rest := [.long (x2 + r1)]) (As := [.int (gi u 3 x1.toNatClampNeg), .long ((gl u 0 (gi u 3 x1.toNatClampNeg).toNatClampNeg) - (gl u 4 x1.toNatClampNeg))]) ⟨hx, hb, hml, hown, hts⟩ (kX1_seconds l dC dI cI cJ cZ ad _ u (gi u 3 x1.toNatClampNeg) ((gl u 0 (gi u 3 x1.toNatClampNeg).toNatClampNeg) - (gl u 4 x1.toNatClampNeg)) r4 g6) (cwV 2 hts gX1_rest_X1_seconds rfl rfl rfl hdX1_seconds ⟨Nat.le_of_ble_eq_true rfl, Nat.le_of_ble_eq_true rfl⟩) (rvX1 hK hP) hK hP hD hS hA rfl hl.1 (Nat.le_of_ble_eq_true rfl) rfl dX1_rest_32 ⟨Nat.zero_le _, Nat.zero_le _⟩ (fun H locs hP hD hS => ?_)
  refine lv_ladd hx hb dX1_rest_35 ?_
  exact q_lret hx hb hr hlocks hK hP hD hS (Option.some.inj h) rfl dX1_rest_36
set_option maxHeartbeats 4000000 in
set_option maxRecDepth 100000 in
theorem kX1_reach_L3 {k9 : Nat} {l : Launch} {dC : Nat → ClassId} {dI : Nat → Nat → Nat} {cI cJ cZ : ClassId} {ad : Nat → Nat} {p : Program} {e : Env} {s : State} {m : MethodId} {below : List Frame} {meth : Method} {c : Code} {A : Nat → Prop} {args : Array Value} {z1 : Int32} {z2 : Int64} {z4 : Int32} {u9 : gS} {Q : State → Prop} (C0 : gCtx p s m meth c args cX1_reach 11 none wsX1_reach yX1_reach.cls) (hK : va_K (dC, dI) vwCl (tyS cI cJ cZ) s) (hA : ∀ q, s.heap.size ≤ q → A q) :
    ∀ (n : Nat) (u : gS) (y1 : Int32) (y2 : Int64) (y4 : Int32) (H : Heap) (locs : List Loc) (ls : Array Slot), fX1_reach_L3 k9 n u y1 y2 y4 = some (u9, z1, z2, z4) → va_P (dC, dI) vwCl ((wX1 cI cJ cZ ad) u) H → va_D A ((wX1 cI cJ cZ ad) u) → va_S A s.heap H locs → lv_has ls 11 [(0, .ref ((ad 0))), (1, .int y1), (2, .long y2), (4, .int y4)] → (∀ (H : Heap) (locs : List Loc) (ls : Array Slot), va_P (dC, dI) vwCl ((wX1 cI cJ cZ ad) u9) H → va_D A ((wX1 cI cJ cZ ad) u9) → va_S A s.heap H locs → lv_has ls 11 [(0, .ref ((ad 0))), (1, .int z1), (2, .long z2), (4, .int z4)] → W p l e rmX1_reach s m args below meth c H locs 0 0 Q (F0 m 36 ls [])) → W p l e rmX1_reach s m args below meth c H locs 0 0 Q (F0 m 3 ls []) := by
  obtain ⟨hx, hb, hml, hown, hts, hr, hlocks⟩ := id C0
  intro n
  induction n with
  | zero =>
    intro u y1 y2 y4 H locs ls h
    cases h
  | succ n ih3 =>
    intro u y1 y2 y4 H locs ls h hP hD hS hl kk3
    have h : fX1_reach_L3_b k9 (fX1_reach_L3 k9 n) u y1 y2 y4 = some (u9, z1, z2, z4) := h
    unfold fX1_reach_L3_b at h
    refine lv_iload hx hb dX1_reach_3 (lv_at hl 3 rfl) ?_
    refine lv_bipush (v := (120 : Int32)) hx hb dX1_reach_5 (by decide) ?_
    refine lv_icmp_ge (tgt := 36) hx hb dX1_reach_7 (by decide) (fun c1 => ?_) (fun c1 => ?_)
    · have h := q_t h c1
      have e0 := Option.some.inj h
      obtain ⟨a0, e1⟩ := Prod.mk.inj e0
      obtain ⟨a1, e2⟩ := Prod.mk.inj e1
      obtain ⟨a2, e3⟩ := Prod.mk.inj e2
      subst e3
      subst a0
      subst a1
      subst a2
      exact kk3 _ _ _ hP hD hS (lv_sub hl [0, 1, 2, 3] rfl)
    · have h := q_f h c1
      refine lv_aload_n hx hb dX1_reach_10 rfl (lv_at hl 0 rfl) ?_
      refine gfX1_entered inX1_reach mX1_reach_42 hx hb hts hown hK hP dX1_reach_11 ?_
      refine lv_iload hx hb dX1_reach_14 (lv_at hl 3 rfl) ?_
      refine lv_ldc2 hx hb hown (hts _ mX1_reach_89) dX1_reach_16 ?_
      obtain ⟨hin, h⟩ := q_g h
      obtain ⟨u2, eu2, h⟩ := q_l h
      refine stX1_entered hx hb hK hP hD hS hin eu2 dX1_reach_19 (fun H locs hP hD hS => ?_)
      refine lv_aload_n hx hb dX1_reach_20 rfl (lv_at hl 0 rfl) ?_
      refine gfX1_done inX1_reach mX1_reach_45 hx hb hts hown hK hP dX1_reach_21 ?_
      refine lv_iload hx hb dX1_reach_24 (lv_at hl 3 rfl) ?_
      refine lv_ldc2 hx hb hown (hts _ mX1_reach_89) dX1_reach_26 ?_
      obtain ⟨hin, h⟩ := q_g h
      obtain ⟨u3, eu3, h⟩ := q_l h
      refine stX1_done hx hb hK hP hD hS hin eu3 dX1_reach_29 (fun H locs hP hD hS => ?_)
      obtain ⟨v4, ev4, h⟩ := q_l h
      refine lv_iinc (v := v4) (lv' := [(4, .int v4), (0, .ref ((ad 0))), (1, .int y1), (2, .long y2)]) hx hb dX1_reach_30 hl (k := 3) rfl (by rw [ev4]; rfl) (by decide) rfl (fun ls hl => ?_)
      refine lv_goto (tgt := 3) hx hb dX1_reach_33 (by decide) ?_
      exact ih3 u3 y1 y2 v4 _ _ _ h hP hD hS (lv_sub hl [1, 2, 3, 0] rfl) kk3
set_option maxHeartbeats 4000000 in
set_option maxRecDepth 100000 in
theorem kX1_reach_L79 {k9 : Nat} {l : Launch} {dC : Nat → ClassId} {dI : Nat → Nat → Nat} {cI cJ cZ : ClassId} {ad : Nat → Nat} {p : Program} {e : Env} {s : State} {m : MethodId} {below : List Frame} {meth : Method} {c : Code} {A : Nat → Prop} {args : Array Value} {z4 : Int32} {z5 : Int32} {z6 : Int32} {u9 : gS} {Q : State → Prop} (C0 : gCtx p s m meth c args cX1_reach 11 none wsX1_reach yX1_reach.cls) (hK : va_K (dC, dI) vwCl (tyS cI cJ cZ) s) (hA : ∀ q, s.heap.size ≤ q → A q) :
    ∀ (n : Nat) (u : gS) (y4 : Int32) (y5 : Int32) (y6 : Int32) (H : Heap) (locs : List Loc) (ls : Array Slot), fX1_reach_L79 k9 n u y4 y5 y6 = some (u9, z4, z5, z6) → va_P (dC, dI) vwCl ((wX1 cI cJ cZ ad) u) H → va_D A ((wX1 cI cJ cZ ad) u) → va_S A s.heap H locs → lv_has ls 11 [(0, .ref ((ad 0))), (4, .int y4), (5, .int y5), (6, .int y6)] → (∀ (H : Heap) (locs : List Loc) (ls : Array Slot), va_P (dC, dI) vwCl ((wX1 cI cJ cZ ad) u9) H → va_D A ((wX1 cI cJ cZ ad) u9) → va_S A s.heap H locs → lv_has ls 11 [(0, .ref ((ad 0))), (4, .int z4), (5, .int z5), (6, .int z6)] → W p l e rmX1_reach s m args below meth c H locs 0 0 Q (F0 m 215 ls [])) → W p l e rmX1_reach s m args below meth c H locs 0 0 Q (F0 m 79 ls []) := by
  obtain ⟨hx, hb, hml, hown, hts, hr, hlocks⟩ := id C0
  intro n
  induction n with
  | zero =>
    intro u y4 y5 y6 H locs ls h
    cases h
  | succ n ih79 =>
    intro u y4 y5 y6 H locs ls h hP hD hS hl kk79
    have h : fX1_reach_L79_b k9 (fX1_reach_L79 k9 n) u y4 y5 y6 = some (u9, z4, z5, z6) := h
    unfold fX1_reach_L79_b at h
    refine lv_iload hx hb dX1_reach_79 (lv_at hl 3 rfl) ?_
    refine lv_aload_n hx hb dX1_reach_81 rfl (lv_at hl 0 rfl) ?_
    refine gfX1_pieces inX1_reach mX1_reach_55 hx hb hts hown hK hP dX1_reach_82 ?_
    refine lv_icmp_ge (tgt := 215) hx hb dX1_reach_85 (by decide) (fun c16 => ?_) (fun c16 => ?_)
    · have h := q_t h c16
      have e0 := Option.some.inj h
      obtain ⟨a0, e1⟩ := Prod.mk.inj e0
      obtain ⟨a1, e2⟩ := Prod.mk.inj e1
      obtain ⟨a2, e3⟩ := Prod.mk.inj e2
      subst e3
      subst a0
      subst a1
      subst a2
      exact kk79 _ _ _ hP hD hS (lv_sub hl [0, 1, 2, 3] rfl)
    · have h := q_f h c16
      refine lv_aload_n hx hb dX1_reach_88 rfl (lv_at hl 0 rfl) ?_
      refine gfX1_done inX1_reach mX1_reach_45 hx hb hts hown hK hP dX1_reach_89 ?_
      refine lv_iload hx hb dX1_reach_92 (lv_at hl 2 rfl) ?_
      obtain ⟨hin, h⟩ := q_g h
      refine ldX1_done hx hb hK hP hin dX1_reach_94 ?_
      refine lv_ldc2 hx hb hown (hts _ mX1_reach_89) dX1_reach_95 ?_
      refine q_lc_ge (tgt := 215) hx hb dX1_reach_98 dX1_reach_99 (by decide) (fun c17 => ?_) (fun c17 => ?_)
      · have h := q_t h c17
        have e0 := Option.some.inj h
        obtain ⟨a0, e1⟩ := Prod.mk.inj e0
        obtain ⟨a1, e2⟩ := Prod.mk.inj e1
        obtain ⟨a2, e3⟩ := Prod.mk.inj e2
        subst e3
        subst a0
        subst a1
        subst a2
        exact kk79 _ _ _ hP hD hS (lv_sub hl [0, 1, 2, 3] rfl)
      · have h := q_f h c17
        refine lv_aload_n hx hb dX1_reach_102 rfl (lv_at hl 0 rfl) ?_
        refine lv_iload hx hb dX1_reach_103 (lv_at hl 2 rfl) ?_
        refine lv_iload hx hb dX1_reach_105 (lv_at hl 3 rfl) ?_
        obtain ⟨r18, g20, h⟩ := q_s h
        refine q_Vi (rest := []) (As := [.int y5, .int y6]) ⟨hx, hb, hml, hown, hts⟩ (kX1_leads l dC dI cI cJ cZ ad _ u y5 y6 r18 g20) (cwV 2 hts gX1_reach_X1_leads rfl rfl rfl hdX1_leads ⟨Nat.le_of_ble_eq_true rfl, Nat.le_of_ble_eq_true rfl⟩) (rvX1 hK hP) hK hP hD hS hA rfl hl.1 (Nat.le_of_ble_eq_true rfl) rfl dX1_reach_107 ⟨Nat.zero_le _, Nat.zero_le _⟩ (fun H locs hP hD hS => ?_)
        refine lv_if_eq (tgt := 129) hx hb dX1_reach_110 (by decide) (fun c21 => ?_) (fun c21 => ?_)
        · have h := q_t h c21
          refine lv_ldc2 hx hb hown (hts _ mX1_reach_89) dX1_reach_129 ?_
          refine lv_lstore (lv' := [(7, .long (4000000000000000000 : Int64)), (0, .ref ((ad 0))), (4, .int y4), (5, .int y5), (6, .int y6)]) hx hb dX1_reach_132 hl (by decide) rfl (fun ls hl => ?_)
          refine lv_lload hx hb dX1_reach_134 (lv_at hl 0 rfl) ?_
          refine lv_aload_n hx hb dX1_reach_136 rfl (lv_at hl 1 rfl) ?_
          refine gfX1_entered inX1_reach mX1_reach_42 hx hb hts hown hK hP dX1_reach_137 ?_
          refine lv_iload hx hb dX1_reach_140 (lv_at hl 4 rfl) ?_
          obtain ⟨hin, h⟩ := q_g h
          refine ldX1_entered hx hb hK hP hin dX1_reach_142 ?_
          refine q_lc_ge (tgt := 209) hx hb dX1_reach_143 dX1_reach_144 (by decide) (fun c22 => ?_) (fun c22 => ?_)
          · have h := q_t h c22
            obtain ⟨v23, ev23, h⟩ := q_l h
            refine lv_iinc (v := v23) (lv' := [(6, .int v23), (7, .long (4000000000000000000 : Int64)), (0, .ref ((ad 0))), (4, .int y4), (5, .int y5)]) hx hb dX1_reach_209 hl (k := 4) rfl (by rw [ev23]; rfl) (by decide) rfl (fun ls hl => ?_)
            refine lv_goto (tgt := 79) hx hb dX1_reach_212 (by decide) ?_
            exact ih79 u y4 y5 v23 _ _ _ h hP hD hS (lv_sub hl [2, 3, 4, 0] rfl) kk79
          · have h := q_f h c22
            refine lv_aload_n hx hb dX1_reach_147 rfl (lv_at hl 1 rfl) ?_
            refine gfX1_entered inX1_reach mX1_reach_42 hx hb hts hown hK hP dX1_reach_148 ?_
            refine lv_iload hx hb dX1_reach_151 (lv_at hl 4 rfl) ?_
            refine lv_lload hx hb dX1_reach_153 (lv_at hl 0 rfl) ?_
            obtain ⟨hin, h⟩ := q_g h
            obtain ⟨u24, eu24, h⟩ := q_l h
            refine stX1_entered hx hb hK hP hD hS hin eu24 dX1_reach_155 (fun H locs hP hD hS => ?_)
            refine lv_lload hx hb dX1_reach_156 (lv_at hl 0 rfl) ?_
            refine lv_aload_n hx hb dX1_reach_158 rfl (lv_at hl 1 rfl) ?_
            refine lv_iload hx hb dX1_reach_159 (lv_at hl 4 rfl) ?_
            refine lv_aload_n hx hb dX1_reach_161 rfl (lv_at hl 1 rfl) ?_
            refine gfX1_length inX1_reach mX1_reach_16 hx hb hts hown hK hP dX1_reach_162 ?_
            refine lv_iload hx hb dX1_reach_165 (lv_at hl 4 rfl) ?_
            obtain ⟨hin, h⟩ := q_g h
            refine ldX1_length hx hb hK hP hin dX1_reach_167 ?_
            obtain ⟨r25, g27, h⟩ := q_s h
            refine q_Vl (rest := [.long (4000000000000000000 : Int64)]) (As := [.int y6, .long (gl u24 0 y6.toNatClampNeg)]) ⟨hx, hb, hml, hown, hts⟩ (kX1_seconds l dC dI cI cJ cZ ad _ u24 y6 (gl u24 0 y6.toNatClampNeg) r25 g27) (cwV 2 hts gX1_reach_X1_seconds rfl rfl rfl hdX1_seconds ⟨Nat.le_of_ble_eq_true rfl, Nat.le_of_ble_eq_true rfl⟩) (rvX1 hK hP) hK hP hD hS hA rfl hl.1 (Nat.le_of_ble_eq_true rfl) rfl dX1_reach_168 ⟨Nat.zero_le _, Nat.zero_le _⟩ (fun H locs hP hD hS => ?_)
            refine lv_ladd hx hb dX1_reach_171 ?_
            obtain ⟨v28, ev28, h⟩ := q_l h
            refine q_topl ev28 ?_
            refine lv_lstore (lv' := [(9, .long v28), (7, .long (4000000000000000000 : Int64)), (0, .ref ((ad 0))), (4, .int y4), (5, .int y5), (6, .int y6)]) hx hb dX1_reach_172 hl (by decide) rfl (fun ls hl => ?_)
            refine lv_aload_n hx hb dX1_reach_174 rfl (lv_at hl 2 rfl) ?_
            refine gfX1_done inX1_reach mX1_reach_45 hx hb hts hown hK hP dX1_reach_175 ?_
            refine lv_iload hx hb dX1_reach_178 (lv_at hl 5 rfl) ?_
            refine lv_lload hx hb dX1_reach_180 (lv_at hl 0 rfl) ?_
            refine lv_aload_n hx hb dX1_reach_182 rfl (lv_at hl 2 rfl) ?_
            refine gfX1_done inX1_reach mX1_reach_45 hx hb hts hown hK hP dX1_reach_183 ?_
            refine lv_iload hx hb dX1_reach_186 (lv_at hl 5 rfl) ?_
            obtain ⟨hin, h⟩ := q_g h
            refine ldX1_done hx hb hK hP hin dX1_reach_188 ?_
            refine q_lc_ge (tgt := 198) hx hb dX1_reach_189 dX1_reach_190 (by decide) (fun c29 => ?_) (fun c29 => ?_)
            · have h := q_t h c29
              refine lv_aload_n hx hb dX1_reach_198 rfl (lv_at hl 2 rfl) ?_
              refine gfX1_done inX1_reach mX1_reach_45 hx hb hts hown hK hP dX1_reach_199 ?_
              refine lv_iload hx hb dX1_reach_202 (lv_at hl 5 rfl) ?_
              obtain ⟨hin, h⟩ := q_g h
              refine ldX1_done hx hb hK hP hin dX1_reach_204 ?_
              obtain ⟨hin, h⟩ := q_g h
              obtain ⟨u30, eu30, h⟩ := q_l h
              refine stX1_done hx hb hK hP hD hS hin eu30 dX1_reach_205 (fun H locs hP hD hS => ?_)
              refine lv_iconst (v := (1 : Int32)) hx hb dX1_reach_206 (by decide) ?_
              refine lv_istore (lv' := [(4, .int (1 : Int32)), (9, .long v28), (7, .long (4000000000000000000 : Int64)), (0, .ref ((ad 0))), (5, .int y5), (6, .int y6)]) hx hb dX1_reach_207 hl (by decide) rfl (fun ls hl => ?_)
              obtain ⟨v31, ev31, h⟩ := q_l h
              refine lv_iinc (v := v31) (lv' := [(6, .int v31), (4, .int (1 : Int32)), (9, .long v28), (7, .long (4000000000000000000 : Int64)), (0, .ref ((ad 0))), (5, .int y5)]) hx hb dX1_reach_209 hl (k := 5) rfl (by rw [ev31]; rfl) (by decide) rfl (fun ls hl => ?_)
              refine lv_goto (tgt := 79) hx hb dX1_reach_212 (by decide) ?_
              exact ih79 u30 (1 : Int32) y5 v31 _ _ _ h hP hD hS (lv_sub hl [4, 1, 5, 0] rfl) kk79
            · have h := q_f h c29
              refine lv_lload hx hb dX1_reach_193 (lv_at hl 0 rfl) ?_
              refine lv_goto (tgt := 205) hx hb dX1_reach_195 (by decide) ?_
              obtain ⟨hin, h⟩ := q_g h
              obtain ⟨u32, eu32, h⟩ := q_l h
              refine stX1_done hx hb hK hP hD hS hin eu32 dX1_reach_205 (fun H locs hP hD hS => ?_)
              refine lv_iconst (v := (1 : Int32)) hx hb dX1_reach_206 (by decide) ?_
              refine lv_istore (lv' := [(4, .int (1 : Int32)), (9, .long v28), (7, .long (4000000000000000000 : Int64)), (0, .ref ((ad 0))), (5, .int y5), (6, .int y6)]) hx hb dX1_reach_207 hl (by decide) rfl (fun ls hl => ?_)
              obtain ⟨v33, ev33, h⟩ := q_l h
              refine lv_iinc (v := v33) (lv' := [(6, .int v33), (4, .int (1 : Int32)), (9, .long v28), (7, .long (4000000000000000000 : Int64)), (0, .ref ((ad 0))), (5, .int y5)]) hx hb dX1_reach_209 hl (k := 5) rfl (by rw [ev33]; rfl) (by decide) rfl (fun ls hl => ?_)
              refine lv_goto (tgt := 79) hx hb dX1_reach_212 (by decide) ?_
              exact ih79 u32 (1 : Int32) y5 v33 _ _ _ h hP hD hS (lv_sub hl [4, 1, 5, 0] rfl) kk79
        · have h := q_f h c21
          refine lv_aload_n hx hb dX1_reach_113 rfl (lv_at hl 0 rfl) ?_
          refine lv_iload hx hb dX1_reach_114 (lv_at hl 3 rfl) ?_
          refine lv_aload_n hx hb dX1_reach_116 rfl (lv_at hl 0 rfl) ?_
          refine gfX1_done inX1_reach mX1_reach_45 hx hb hts hown hK hP dX1_reach_117 ?_
          refine lv_iload hx hb dX1_reach_120 (lv_at hl 2 rfl) ?_
          obtain ⟨hin, h⟩ := q_g h
          refine ldX1_done hx hb hK hP hin dX1_reach_122 ?_
          obtain ⟨r34, g36, h⟩ := q_s h
          refine q_Vl (rest := []) (As := [.int y6, .long (gl u 6 y5.toNatClampNeg)]) ⟨hx, hb, hml, hown, hts⟩ (kX1_entry l dC dI cI cJ cZ ad _ u y6 (gl u 6 y5.toNatClampNeg) r34 g36) (cwV 2 hts gX1_reach_X1_entry rfl rfl rfl hdX1_entry ⟨Nat.le_of_ble_eq_true rfl, Nat.le_of_ble_eq_true rfl⟩) (rvX1 hK hP) hK hP hD hS hA rfl hl.1 (Nat.le_of_ble_eq_true rfl) rfl dX1_reach_123 ⟨Nat.zero_le _, Nat.zero_le _⟩ (fun H locs hP hD hS => ?_)
          refine lv_goto (tgt := 132) hx hb dX1_reach_126 (by decide) ?_
          refine lv_lstore (lv' := [(7, .long r34), (0, .ref ((ad 0))), (4, .int y4), (5, .int y5), (6, .int y6)]) hx hb dX1_reach_132 hl (by decide) rfl (fun ls hl => ?_)
          refine lv_lload hx hb dX1_reach_134 (lv_at hl 0 rfl) ?_
          refine lv_aload_n hx hb dX1_reach_136 rfl (lv_at hl 1 rfl) ?_
          refine gfX1_entered inX1_reach mX1_reach_42 hx hb hts hown hK hP dX1_reach_137 ?_
          refine lv_iload hx hb dX1_reach_140 (lv_at hl 4 rfl) ?_
          obtain ⟨hin, h⟩ := q_g h
          refine ldX1_entered hx hb hK hP hin dX1_reach_142 ?_
          refine q_lc_ge (tgt := 209) hx hb dX1_reach_143 dX1_reach_144 (by decide) (fun c37 => ?_) (fun c37 => ?_)
          · have h := q_t h c37
            obtain ⟨v38, ev38, h⟩ := q_l h
            refine lv_iinc (v := v38) (lv' := [(6, .int v38), (7, .long r34), (0, .ref ((ad 0))), (4, .int y4), (5, .int y5)]) hx hb dX1_reach_209 hl (k := 4) rfl (by rw [ev38]; rfl) (by decide) rfl (fun ls hl => ?_)
            refine lv_goto (tgt := 79) hx hb dX1_reach_212 (by decide) ?_
            exact ih79 u y4 y5 v38 _ _ _ h hP hD hS (lv_sub hl [2, 3, 4, 0] rfl) kk79
          · have h := q_f h c37
            refine lv_aload_n hx hb dX1_reach_147 rfl (lv_at hl 1 rfl) ?_
            refine gfX1_entered inX1_reach mX1_reach_42 hx hb hts hown hK hP dX1_reach_148 ?_
            refine lv_iload hx hb dX1_reach_151 (lv_at hl 4 rfl) ?_
            refine lv_lload hx hb dX1_reach_153 (lv_at hl 0 rfl) ?_
            obtain ⟨hin, h⟩ := q_g h
            obtain ⟨u39, eu39, h⟩ := q_l h
            refine stX1_entered hx hb hK hP hD hS hin eu39 dX1_reach_155 (fun H locs hP hD hS => ?_)
            refine lv_lload hx hb dX1_reach_156 (lv_at hl 0 rfl) ?_
            refine lv_aload_n hx hb dX1_reach_158 rfl (lv_at hl 1 rfl) ?_
            refine lv_iload hx hb dX1_reach_159 (lv_at hl 4 rfl) ?_
            refine lv_aload_n hx hb dX1_reach_161 rfl (lv_at hl 1 rfl) ?_
            refine gfX1_length inX1_reach mX1_reach_16 hx hb hts hown hK hP dX1_reach_162 ?_
            refine lv_iload hx hb dX1_reach_165 (lv_at hl 4 rfl) ?_
            obtain ⟨hin, h⟩ := q_g h
            refine ldX1_length hx hb hK hP hin dX1_reach_167 ?_
            obtain ⟨r40, g42, h⟩ := q_s h
            refine q_Vl (rest := [.long r34]) (As := [.int y6, .long (gl u39 0 y6.toNatClampNeg)]) ⟨hx, hb, hml, hown, hts⟩ (kX1_seconds l dC dI cI cJ cZ ad _ u39 y6 (gl u39 0 y6.toNatClampNeg) r40 g42) (cwV 2 hts gX1_reach_X1_seconds rfl rfl rfl hdX1_seconds ⟨Nat.le_of_ble_eq_true rfl, Nat.le_of_ble_eq_true rfl⟩) (rvX1 hK hP) hK hP hD hS hA rfl hl.1 (Nat.le_of_ble_eq_true rfl) rfl dX1_reach_168 ⟨Nat.zero_le _, Nat.zero_le _⟩ (fun H locs hP hD hS => ?_)
            refine lv_ladd hx hb dX1_reach_171 ?_
            obtain ⟨v43, ev43, h⟩ := q_l h
            refine q_topl ev43 ?_
            refine lv_lstore (lv' := [(9, .long v43), (7, .long r34), (0, .ref ((ad 0))), (4, .int y4), (5, .int y5), (6, .int y6)]) hx hb dX1_reach_172 hl (by decide) rfl (fun ls hl => ?_)
            refine lv_aload_n hx hb dX1_reach_174 rfl (lv_at hl 2 rfl) ?_
            refine gfX1_done inX1_reach mX1_reach_45 hx hb hts hown hK hP dX1_reach_175 ?_
            refine lv_iload hx hb dX1_reach_178 (lv_at hl 5 rfl) ?_
            refine lv_lload hx hb dX1_reach_180 (lv_at hl 0 rfl) ?_
            refine lv_aload_n hx hb dX1_reach_182 rfl (lv_at hl 2 rfl) ?_
            refine gfX1_done inX1_reach mX1_reach_45 hx hb hts hown hK hP dX1_reach_183 ?_
            refine lv_iload hx hb dX1_reach_186 (lv_at hl 5 rfl) ?_
            obtain ⟨hin, h⟩ := q_g h
            refine ldX1_done hx hb hK hP hin dX1_reach_188 ?_
            refine q_lc_ge (tgt := 198) hx hb dX1_reach_189 dX1_reach_190 (by decide) (fun c44 => ?_) (fun c44 => ?_)
            · have h := q_t h c44
              refine lv_aload_n hx hb dX1_reach_198 rfl (lv_at hl 2 rfl) ?_
              refine gfX1_done inX1_reach mX1_reach_45 hx hb hts hown hK hP dX1_reach_199 ?_
              refine lv_iload hx hb dX1_reach_202 (lv_at hl 5 rfl) ?_
              obtain ⟨hin, h⟩ := q_g h
              refine ldX1_done hx hb hK hP hin dX1_reach_204 ?_
              obtain ⟨hin, h⟩ := q_g h
              obtain ⟨u45, eu45, h⟩ := q_l h
              refine stX1_done hx hb hK hP hD hS hin eu45 dX1_reach_205 (fun H locs hP hD hS => ?_)
              refine lv_iconst (v := (1 : Int32)) hx hb dX1_reach_206 (by decide) ?_
              refine lv_istore (lv' := [(4, .int (1 : Int32)), (9, .long v43), (7, .long r34), (0, .ref ((ad 0))), (5, .int y5), (6, .int y6)]) hx hb dX1_reach_207 hl (by decide) rfl (fun ls hl => ?_)
              obtain ⟨v46, ev46, h⟩ := q_l h
              refine lv_iinc (v := v46) (lv' := [(6, .int v46), (4, .int (1 : Int32)), (9, .long v43), (7, .long r34), (0, .ref ((ad 0))), (5, .int y5)]) hx hb dX1_reach_209 hl (k := 5) rfl (by rw [ev46]; rfl) (by decide) rfl (fun ls hl => ?_)
              refine lv_goto (tgt := 79) hx hb dX1_reach_212 (by decide) ?_
              exact ih79 u45 (1 : Int32) y5 v46 _ _ _ h hP hD hS (lv_sub hl [4, 1, 5, 0] rfl) kk79
            · have h := q_f h c44
              refine lv_lload hx hb dX1_reach_193 (lv_at hl 0 rfl) ?_
              refine lv_goto (tgt := 205) hx hb dX1_reach_195 (by decide) ?_
              obtain ⟨hin, h⟩ := q_g h
              obtain ⟨u47, eu47, h⟩ := q_l h
              refine stX1_done hx hb hK hP hD hS hin eu47 dX1_reach_205 (fun H locs hP hD hS => ?_)
              refine lv_iconst (v := (1 : Int32)) hx hb dX1_reach_206 (by decide) ?_
              refine lv_istore (lv' := [(4, .int (1 : Int32)), (9, .long v43), (7, .long r34), (0, .ref ((ad 0))), (5, .int y5), (6, .int y6)]) hx hb dX1_reach_207 hl (by decide) rfl (fun ls hl => ?_)
              obtain ⟨v48, ev48, h⟩ := q_l h
              refine lv_iinc (v := v48) (lv' := [(6, .int v48), (4, .int (1 : Int32)), (9, .long v43), (7, .long r34), (0, .ref ((ad 0))), (5, .int y5)]) hx hb dX1_reach_209 hl (k := 5) rfl (by rw [ev48]; rfl) (by decide) rfl (fun ls hl => ?_)
              refine lv_goto (tgt := 79) hx hb dX1_reach_212 (by decide) ?_
              exact ih79 u47 (1 : Int32) y5 v48 _ _ _ h hP hD hS (lv_sub hl [4, 1, 5, 0] rfl) kk79
set_option maxHeartbeats 4000000 in
set_option maxRecDepth 100000 in
theorem kX1_reach_L67 {k9 : Nat} {l : Launch} {dC : Nat → ClassId} {dI : Nat → Nat → Nat} {cI cJ cZ : ClassId} {ad : Nat → Nat} {p : Program} {e : Env} {s : State} {m : MethodId} {below : List Frame} {meth : Method} {c : Code} {A : Nat → Prop} {args : Array Value} {z4 : Int32} {z5 : Int32} {u9 : gS} {Q : State → Prop} (C0 : gCtx p s m meth c args cX1_reach 11 none wsX1_reach yX1_reach.cls) (hK : va_K (dC, dI) vwCl (tyS cI cJ cZ) s) (hA : ∀ q, s.heap.size ≤ q → A q) :
    ∀ (n : Nat) (u : gS) (y4 : Int32) (y5 : Int32) (H : Heap) (locs : List Loc) (ls : Array Slot), fX1_reach_L67 k9 n u y4 y5 = some (u9, z4, z5) → va_P (dC, dI) vwCl ((wX1 cI cJ cZ ad) u) H → va_D A ((wX1 cI cJ cZ ad) u) → va_S A s.heap H locs → lv_has ls 11 [(0, .ref ((ad 0))), (4, .int y4), (5, .int y5)] → (∀ (H : Heap) (locs : List Loc) (ls : Array Slot), va_P (dC, dI) vwCl ((wX1 cI cJ cZ ad) u9) H → va_D A ((wX1 cI cJ cZ ad) u9) → va_S A s.heap H locs → lv_has ls 11 [(0, .ref ((ad 0))), (4, .int z4), (5, .int z5)] → W p l e rmX1_reach s m args below meth c H locs 0 0 Q (F0 m 221 ls [])) → W p l e rmX1_reach s m args below meth c H locs 0 0 Q (F0 m 67 ls []) := by
  obtain ⟨hx, hb, hml, hown, hts, hr, hlocks⟩ := id C0
  intro n
  induction n with
  | zero =>
    intro u y4 y5 H locs ls h
    cases h
  | succ n ih67 =>
    intro u y4 y5 H locs ls h hP hD hS hl kk67
    have h : fX1_reach_L67_b k9 (fX1_reach_L67 k9 n) u y4 y5 = some (u9, z4, z5) := h
    unfold fX1_reach_L67_b at h
    refine lv_iload hx hb dX1_reach_67 (lv_at hl 2 rfl) ?_
    refine lv_aload_n hx hb dX1_reach_69 rfl (lv_at hl 0 rfl) ?_
    refine gfX1_pieces inX1_reach mX1_reach_55 hx hb hts hown hK hP dX1_reach_70 ?_
    refine lv_icmp_ge (tgt := 221) hx hb dX1_reach_73 (by decide) (fun c15 => ?_) (fun c15 => ?_)
    · have h := q_t h c15
      have e0 := Option.some.inj h
      obtain ⟨a0, e1⟩ := Prod.mk.inj e0
      obtain ⟨a1, e2⟩ := Prod.mk.inj e1
      subst e2
      subst a0
      subst a1
      exact kk67 _ _ _ hP hD hS (lv_sub hl [0, 1, 2] rfl)
    · have h := q_f h c15
      refine lv_iconst (v := (0 : Int32)) hx hb dX1_reach_76 (by decide) ?_
      refine lv_istore (lv' := [(6, .int (0 : Int32)), (0, .ref ((ad 0))), (4, .int y4), (5, .int y5)]) hx hb dX1_reach_77 hl (by decide) rfl (fun ls hl => ?_)
      obtain ⟨u49, z50, z51, z52, g53, h⟩ := q_s4 h
      refine kX1_reach_L79 C0 hK hA 200 u y4 y5 (0 : Int32) _ _ _ g53 hP hD hS (lv_sub hl [1, 2, 3, 0] rfl) (fun H locs ls hP hD hS hl => ?_)
      obtain ⟨v54, ev54, h⟩ := q_l h
      refine lv_iinc (v := v54) (lv' := [(5, .int v54), (0, .ref ((ad 0))), (4, .int z50), (6, .int z52)]) hx hb dX1_reach_215 hl (k := 2) rfl (by rw [ev54]; rfl) (by decide) rfl (fun ls hl => ?_)
      refine lv_goto (tgt := 67) hx hb dX1_reach_218 (by decide) ?_
      exact ih67 u49 z50 v54 _ _ _ h hP hD hS (lv_sub hl [1, 2, 0] rfl) kk67
set_option maxHeartbeats 4000000 in
set_option maxRecDepth 100000 in
theorem kX1_reach_L56 {k9 : Nat} {l : Launch} {dC : Nat → ClassId} {dI : Nat → Nat → Nat} {cI cJ cZ : ClassId} {ad : Nat → Nat} {p : Program} {e : Env} {s : State} {m : MethodId} {below : List Frame} {meth : Method} {c : Code} {A : Nat → Prop} {args : Array Value} {z4 : Int32} {u9 : gS} {Q : State → Prop} (C0 : gCtx p s m meth c args cX1_reach 11 none wsX1_reach yX1_reach.cls) (hK : va_K (dC, dI) vwCl (tyS cI cJ cZ) s) (hA : ∀ q, s.heap.size ≤ q → A q) :
    ∀ (n : Nat) (u : gS) (y4 : Int32) (H : Heap) (locs : List Loc) (ls : Array Slot), fX1_reach_L56 k9 n u y4 = some (u9, z4) → va_P (dC, dI) vwCl ((wX1 cI cJ cZ ad) u) H → va_D A ((wX1 cI cJ cZ ad) u) → va_S A s.heap H locs → lv_has ls 11 [(0, .ref ((ad 0))), (4, .int y4)] → (∀ (H : Heap) (locs : List Loc) (ls : Array Slot), va_P (dC, dI) vwCl ((wX1 cI cJ cZ ad) u9) H → va_D A ((wX1 cI cJ cZ ad) u9) → va_S A s.heap H locs → lv_has ls 11 [(0, .ref ((ad 0))), (4, .int z4)] → W p l e rmX1_reach s m args below meth c H locs 0 0 Q (F0 m 224 ls [])) → W p l e rmX1_reach s m args below meth c H locs 0 0 Q (F0 m 56 ls []) := by
  obtain ⟨hx, hb, hml, hown, hts, hr, hlocks⟩ := id C0
  intro n
  induction n with
  | zero =>
    intro u y4 H locs ls h
    cases h
  | succ n ih56 =>
    intro u y4 H locs ls h hP hD hS hl kk56
    have h : fX1_reach_L56_b k9 (fX1_reach_L56 k9 n) u y4 = some (u9, z4) := h
    unfold fX1_reach_L56_b at h
    refine lv_iload hx hb dX1_reach_56 (lv_at hl 1 rfl) ?_
    refine lv_if_eq (tgt := 224) hx hb dX1_reach_58 (by decide) (fun c14 => ?_) (fun c14 => ?_)
    · have h := q_t h c14
      have e0 := Option.some.inj h
      obtain ⟨a0, e1⟩ := Prod.mk.inj e0
      subst e1
      subst a0
      exact kk56 _ _ _ hP hD hS (lv_sub hl [0, 1] rfl)
    · have h := q_f h c14
      refine lv_iconst (v := (0 : Int32)) hx hb dX1_reach_61 (by decide) ?_
      refine lv_istore (lv' := [(4, .int (0 : Int32)), (0, .ref ((ad 0)))]) hx hb dX1_reach_62 hl (by decide) rfl (fun ls hl => ?_)
      refine lv_iconst (v := (0 : Int32)) hx hb dX1_reach_64 (by decide) ?_
      refine lv_istore (lv' := [(5, .int (0 : Int32)), (4, .int (0 : Int32)), (0, .ref ((ad 0)))]) hx hb dX1_reach_65 hl (by decide) rfl (fun ls hl => ?_)
      obtain ⟨u55, z56, z57, g58, h⟩ := q_s3 h
      refine kX1_reach_L67 C0 hK hA 200 u (0 : Int32) (0 : Int32) _ _ _ g58 hP hD hS (lv_sub hl [2, 1, 0] rfl) (fun H locs ls hP hD hS hl => ?_)
      refine lv_goto (tgt := 56) hx hb dX1_reach_221 (by decide) ?_
      exact ih56 u55 z56 _ _ _ h hP hD hS (lv_sub hl [0, 1] rfl) kk56
set_option maxHeartbeats 4000000 in
set_option maxRecDepth 100000 in
theorem kX1_reach (k9 : Nat) (l : Launch) (dC : Nat → ClassId) (dI : Nat → Nat → Nat) (cI cJ cZ : ClassId) (ad : Nat → Nat) (sz : Nat) (u : gS) (x1 : Int32) (x2 : Int64) (u9 : gS) (h : fX1_reach k9 u x1 x2 = some u9) : Kv l yX1_reach wsX1_reach rmX1_reach (dC, dI) vwCl (tyS cI cJ cZ) (wX1 cI cJ cZ ad) sz u [.ref (ad 0), .int x1, .long x2] u9 := by
  refine g_ofW (cc := cX1_reach) (maxL := 11) (ret := none) (wf := (wX1 cI cJ cZ ad)) (u := u) (Qf := fun A => va_Qv (fun u1 => u1 = u9) (gAt (dC, dI) vwCl (tyS cI cJ cZ) A (wX1 cI cJ cZ ad)) A) (by decide) rfl (Nat.le_of_ble_eq_true rfl) ?_
  intro p e s m below meth c A ls C0 hK hP hD hA hl
  have hS : va_S A s.heap s.heap [] := va_S.rf
  obtain ⟨hx, hb, hml, hown, hts, hr, hlocks⟩ := id C0
  have hl : lv_has ls 11 [(0, .ref ((ad 0))), (1, .int x1), (2, .long x2)] := hl
  unfold fX1_reach at h
  refine lv_iconst (v := (0 : Int32)) hx hb dX1_reach_0 (by decide) ?_
  refine lv_istore (lv' := [(4, .int (0 : Int32)), (0, .ref ((ad 0))), (1, .int x1), (2, .long x2)]) hx hb dX1_reach_1 hl (by decide) rfl (fun ls hl => ?_)
  obtain ⟨u5, z6, z7, z8, g9, h⟩ := q_s4 h
  refine kX1_reach_L3 C0 hK hA 200 u x1 x2 (0 : Int32) _ _ _ g9 hP hD hS (lv_sub hl [1, 2, 3, 0] rfl) (fun H locs ls hP hD hS hl => ?_)
  refine lv_aload_n hx hb dX1_reach_36 rfl (lv_at hl 0 rfl) ?_
  refine gfX1_done inX1_reach mX1_reach_45 hx hb hts hown hK hP dX1_reach_37 ?_
  refine lv_aload_n hx hb dX1_reach_40 rfl (lv_at hl 0 rfl) ?_
  refine gfX1_on inX1_reach mX1_reach_33 hx hb hts hown hK hP dX1_reach_41 ?_
  refine lv_iload_n hx hb dX1_reach_44 rfl (lv_at hl 1 rfl) ?_
  obtain ⟨hin, h⟩ := q_g h
  refine ldX1_on hx hb hK hP hin dX1_reach_45 ?_
  refine lv_aload_n hx hb dX1_reach_46 rfl (lv_at hl 0 rfl) ?_
  refine lv_iload_n hx hb dX1_reach_47 rfl (lv_at hl 1 rfl) ?_
  refine lv_lload_n hx hb dX1_reach_48 rfl (lv_at hl 2 rfl) ?_
  obtain ⟨r10, g12, h⟩ := q_s h
  refine q_Vl (rest := [.int (gi u5 3 z6.toNatClampNeg), .ref (ad 12)]) (As := [.int z6, .long z7]) ⟨hx, hb, hml, hown, hts⟩ (kX1_rest l dC dI cI cJ cZ ad _ u5 z6 z7 r10 g12) (cwV 2 hts gX1_reach_X1_rest rfl rfl rfl hdX1_rest ⟨Nat.le_of_ble_eq_true rfl, Nat.le_of_ble_eq_true rfl⟩) (rvX1 hK hP) hK hP hD hS hA rfl hl.1 (Nat.le_of_ble_eq_true rfl) rfl dX1_reach_49 ⟨Nat.zero_le _, Nat.zero_le _⟩ (fun H locs hP hD hS => ?_)
  obtain ⟨hin, h⟩ := q_g h
  obtain ⟨u13, eu13, h⟩ := q_l h
  refine stX1_done hx hb hK hP hD hS hin eu13 dX1_reach_52 (fun H locs hP hD hS => ?_)
  refine lv_iconst (v := (1 : Int32)) hx hb dX1_reach_53 (by decide) ?_
  refine lv_istore (lv' := [(4, .int (1 : Int32)), (0, .ref ((ad 0))), (1, .int z6), (2, .long z7)]) hx hb dX1_reach_54 hl (by decide) rfl (fun ls hl => ?_)
  obtain ⟨u59, z60, g61, h⟩ := q_s2 h
  refine kX1_reach_L56 C0 hK hA k9 u13 (1 : Int32) _ _ _ g61 hP hD hS (lv_sub hl [1, 0] rfl) (fun H locs ls hP hD hS hl => ?_)
  exact q_vret hx hb hr hlocks hK hP hD hS (Option.some.inj h) dX1_reach_224
