/-! The pictures of the methods: what they answer, what they leave; none where the machine itself would throw. Laid by lay.py. -/
def fX1_thrown (u : gS) : Option (Int32) :=
  some (gf u 0)
def fX1_in (u : gS) (x1 : Int64) (x2 : Int64) (x3 : Int64) : Option (Int32) :=
  if x1 < x2 then
    some (0 : Int32)
  else
    if x3 < x1 then
      some (0 : Int32)
    else
      some (1 : Int32)
def fX1_isPiece (u : gS) (x1 : Int32) : Option (Int32) :=
  if x1 < 0 then
    some (0 : Int32)
  else
    if (gf u 1) ≤ x1 then
      some (0 : Int32)
    else
      some (1 : Int32)
def fX1_isStop (u : gS) (x1 : Int32) : Option (Int32) :=
  if x1 < 0 then
    some (0 : Int32)
  else
    if (gf u 2) ≤ x1 then
      some (0 : Int32)
    else
      some (1 : Int32)
def fX1_seconds (u : gS) (x1 : Int32) (x2 : Int64) : Option (Int64) :=
  q_let ((10 : Int64) * x2) fun v1 =>
  if x1 < 0 ∨ 120 ≤ x1.toNatClampNeg then none else
  if (gl u 1 x1.toNatClampNeg) = 0 then none else
  q_let (v1 / (gl u 1 x1.toNatClampNeg)) fun v2 =>
  if x1 < 0 ∨ 120 ≤ x1.toNatClampNeg then none else
  if v1 ≤ (v2 * (gl u 1 x1.toNatClampNeg)) then
    some v2
  else
    some (v2 + (1 : Int64))
def fX1_piece (u : gS) (x1 : Int32) (x2 : Int32) (x3 : Int64) (x4 : Int64) : Option (Int32 × gS) :=
  q_let (sf u 0 (0 : Int32)) fun u1 =>
  q_b (fX1_in u1 x1.toInt64 (0 : Int64) (59 : Int64)) fun r2 =>
  if r2 = 0 then
    some ((-11 : Int32), u1)
  else
    q_b (fX1_in u1 x2.toInt64 (0 : Int64) (59 : Int64)) fun r6 =>
    if r6 = 0 then
      some ((-11 : Int32), u1)
    else
      q_b (fX1_in u1 x3 (1 : Int64) (10000 : Int64)) fun r10 =>
      if r10 = 0 then
        some ((-12 : Int32), u1)
      else
        q_b (fX1_in u1 x4 (0 : Int64) (1000 : Int64)) fun r14 =>
        if r14 = 0 then
          some ((-12 : Int32), u1)
        else
          if (gf u1 1) = (120 : Int32) then
            some ((-14 : Int32), u1)
          else
            if x4 = (0 : Int64) then
              q_let (sf u1 0 (1 : Int32)) fun u27 =>
              if (gf u27 0) ≤ 0 then
                if (gf u27 1) < 0 ∨ 120 ≤ (gf u27 1).toNatClampNeg then none else
                q_let (si u27 0 (upd (gi u27 0) (gf u27 1).toNatClampNeg x1)) fun u29 =>
                if (gf u29 1) < 0 ∨ 120 ≤ (gf u29 1).toNatClampNeg then none else
                q_let (si u29 1 (upd (gi u29 1) (gf u29 1).toNatClampNeg x2)) fun u30 =>
                if (gf u30 1) < 0 ∨ 120 ≤ (gf u30 1).toNatClampNeg then none else
                q_let (sl u30 0 (vp_updL (gl u30 0) (gf u30 1).toNatClampNeg x3)) fun u31 =>
                if (gf u31 1) < 0 ∨ 120 ≤ (gf u31 1).toNatClampNeg then none else
                q_let (sl u31 1 (vp_updL (gl u31 1) (gf u31 1).toNatClampNeg x4)) fun u32 =>
                q_let (sf u32 1 ((gf u32 1) + (1 : Int32))) fun u33 =>
                some (((gf u33 1) - (1 : Int32)), u33)
              else
                some ((0 : Int32), u27)
            else
              q_let (sf u1 0 (0 : Int32)) fun u20 =>
              if (gf u20 0) ≤ 0 then
                if (gf u20 1) < 0 ∨ 120 ≤ (gf u20 1).toNatClampNeg then none else
                q_let (si u20 0 (upd (gi u20 0) (gf u20 1).toNatClampNeg x1)) fun u22 =>
                if (gf u22 1) < 0 ∨ 120 ≤ (gf u22 1).toNatClampNeg then none else
                q_let (si u22 1 (upd (gi u22 1) (gf u22 1).toNatClampNeg x2)) fun u23 =>
                if (gf u23 1) < 0 ∨ 120 ≤ (gf u23 1).toNatClampNeg then none else
                q_let (sl u23 0 (vp_updL (gl u23 0) (gf u23 1).toNatClampNeg x3)) fun u24 =>
                if (gf u24 1) < 0 ∨ 120 ≤ (gf u24 1).toNatClampNeg then none else
                q_let (sl u24 1 (vp_updL (gl u24 1) (gf u24 1).toNatClampNeg x4)) fun u25 =>
                q_let (sf u25 1 ((gf u25 1) + (1 : Int32))) fun u26 =>
                some (((gf u26 1) - (1 : Int32)), u26)
              else
                some ((0 : Int32), u20)
def fX1_piece2 (u : gS) (x1 : Int32) : Option (Int32 × gS) :=
  q_b (fX1_isPiece u x1) fun r1 =>
  if r1 = 0 then
    q_let (sf u 0 (1 : Int32)) fun u5 =>
    if (gf u5 0) ≤ 0 then
      if x1 < 0 ∨ 120 ≤ x1.toNatClampNeg then none else
      if x1 < 0 ∨ 120 ≤ x1.toNatClampNeg then none else
      some ((((60 : Int32) * (gi u5 0 x1.toNatClampNeg)) + (gi u5 1 x1.toNatClampNeg)), u5)
    else
      some ((0 : Int32), u5)
  else
    q_let (sf u 0 (0 : Int32)) fun u7 =>
    if (gf u7 0) ≤ 0 then
      if x1 < 0 ∨ 120 ≤ x1.toNatClampNeg then none else
      if x1 < 0 ∨ 120 ≤ x1.toNatClampNeg then none else
      some ((((60 : Int32) * (gi u7 0 x1.toNatClampNeg)) + (gi u7 1 x1.toNatClampNeg)), u7)
    else
      some ((0 : Int32), u7)
def fX1_turn_L60_b (rc : gS → Int32 → Int32 → Option (Int32 × gS)) (u : gS) (y4 : Int32) (y5 : Int32) : Option (Int32 × gS) :=
    if (14400 : Int32) ≤ y5 then
      some (y4, u)
    else
      if y5 < 0 ∨ 14400 ≤ y5.toNatClampNeg then none else
      if (gi u 2 y5.toNatClampNeg) = 0 then
        q_let (y5 + (1 : Int32)) fun v14 =>
        rc u y4 v14
      else
        q_let (y4 + (1 : Int32)) fun v15 =>
        q_let (y5 + (1 : Int32)) fun v16 =>
        rc u v15 v16
def fX1_turn_L60 : Nat → gS → Int32 → Int32 → Option (Int32 × gS)
  | 0 => fun _ _ _ => none
  | n + 1 => fX1_turn_L60_b (fX1_turn_L60 n)
def fX1_turn (u : gS) (x1 : Int32) (x2 : Int32) (x3 : Int32) : Option (Int32 × gS) :=
  q_let (sf u 0 (0 : Int32)) fun u1 =>
  q_b (fX1_isPiece u1 x1) fun r2 =>
  if r2 = 0 then
    some ((-11 : Int32), u1)
  else
    q_b (fX1_isPiece u1 x2) fun r6 =>
    if r6 = 0 then
      some ((-11 : Int32), u1)
    else
      if x1 < 0 ∨ 120 ≤ x1.toNatClampNeg then none else
      if x2 < 0 ∨ 120 ≤ x2.toNatClampNeg then none else
      if (gi u1 1 x1.toNatClampNeg) = (gi u1 0 x2.toNatClampNeg) then
        if (((120 : Int32) * x1) + x2) < 0 ∨ 14400 ≤ (((120 : Int32) * x1) + x2).toNatClampNeg then none else
        q_let (si u1 2 (upd (gi u1 2) (((120 : Int32) * x1) + x2).toNatClampNeg (vp_nar .boolean x3))) fun u11 =>
        fX1_turn_L60 14500 u11 (0 : Int32) (0 : Int32)
      else
        some ((-13 : Int32), u1)
def fX1_stop (u : gS) (x1 : Int32) (x2 : Int32) (x3 : Int64) : Option (Int32 × gS) :=
  q_let (sf u 0 (0 : Int32)) fun u1 =>
  q_b (fX1_isPiece u1 x1) fun r2 =>
  if r2 = 0 then
    some ((-11 : Int32), u1)
  else
    q_b (fX1_in u1 x2.toInt64 (0 : Int64) (1 : Int64)) fun r6 =>
    if r6 = 0 then
      some ((-12 : Int32), u1)
    else
      if x1 < 0 ∨ 120 ≤ x1.toNatClampNeg then none else
      q_b (fX1_in u1 x3 (0 : Int64) (gl u1 0 x1.toNatClampNeg)) fun r10 =>
      if r10 = 0 then
        some ((-12 : Int32), u1)
      else
        if (gf u1 2) = (100 : Int32) then
          some ((-14 : Int32), u1)
        else
          if (gf u1 2) < 0 ∨ 100 ≤ (gf u1 2).toNatClampNeg then none else
          q_let (si u1 3 (upd (gi u1 3) (gf u1 2).toNatClampNeg x1)) fun u15 =>
          if (gf u15 2) < 0 ∨ 100 ≤ (gf u15 2).toNatClampNeg then none else
          q_let (si u15 4 (upd (gi u15 4) (gf u15 2).toNatClampNeg x2)) fun u16 =>
          if (gf u16 2) < 0 ∨ 100 ≤ (gf u16 2).toNatClampNeg then none else
          q_let (sl u16 4 (vp_updL (gl u16 4) (gf u16 2).toNatClampNeg x3)) fun u17 =>
          q_let (sf u17 2 ((gf u17 2) + (1 : Int32))) fun u18 =>
          some (((gf u18 2) - (1 : Int32)), u18)
def fX1_gate (u : gS) (x1 : Int32) (x2 : Int64) (x3 : Int64) : Option (Int32 × gS) :=
  q_let (sf u 0 (0 : Int32)) fun u1 =>
  q_b (fX1_isPiece u1 x1) fun r2 =>
  if r2 = 0 then
    some ((-11 : Int32), u1)
  else
    if x2 = (0 : Int64) then
      if x3 = (0 : Int64) then
        if (1 : Int32) = 0 then
          if x2 < (0 : Int64) then
            some ((-12 : Int32), u1)
          else
            if x3 ≤ x2 then
              some ((-12 : Int32), u1)
            else
              if x3 ≤ (86400 : Int64) then
                if x1 < 0 ∨ 120 ≤ x1.toNatClampNeg then none else
                q_let (sl u1 2 (vp_updL (gl u1 2) x1.toNatClampNeg x2)) fun u35 =>
                if x1 < 0 ∨ 120 ≤ x1.toNatClampNeg then none else
                q_let (sl u35 3 (vp_updL (gl u35 3) x1.toNatClampNeg x3)) fun u36 =>
                if (1 : Int32) = 0 then
                  some ((1 : Int32), u36)
                else
                  some ((0 : Int32), u36)
              else
                some ((-12 : Int32), u1)
        else
          if x1 < 0 ∨ 120 ≤ x1.toNatClampNeg then none else
          q_let (sl u1 2 (vp_updL (gl u1 2) x1.toNatClampNeg x2)) fun u29 =>
          if x1 < 0 ∨ 120 ≤ x1.toNatClampNeg then none else
          q_let (sl u29 3 (vp_updL (gl u29 3) x1.toNatClampNeg x3)) fun u30 =>
          if (1 : Int32) = 0 then
            some ((1 : Int32), u30)
          else
            some ((0 : Int32), u30)
      else
        if (0 : Int32) = 0 then
          if x2 < (0 : Int64) then
            some ((-12 : Int32), u1)
          else
            if x3 ≤ x2 then
              some ((-12 : Int32), u1)
            else
              if x3 ≤ (86400 : Int64) then
                if x1 < 0 ∨ 120 ≤ x1.toNatClampNeg then none else
                q_let (sl u1 2 (vp_updL (gl u1 2) x1.toNatClampNeg x2)) fun u25 =>
                if x1 < 0 ∨ 120 ≤ x1.toNatClampNeg then none else
                q_let (sl u25 3 (vp_updL (gl u25 3) x1.toNatClampNeg x3)) fun u26 =>
                if (0 : Int32) = 0 then
                  some ((1 : Int32), u26)
                else
                  some ((0 : Int32), u26)
              else
                some ((-12 : Int32), u1)
        else
          if x1 < 0 ∨ 120 ≤ x1.toNatClampNeg then none else
          q_let (sl u1 2 (vp_updL (gl u1 2) x1.toNatClampNeg x2)) fun u19 =>
          if x1 < 0 ∨ 120 ≤ x1.toNatClampNeg then none else
          q_let (sl u19 3 (vp_updL (gl u19 3) x1.toNatClampNeg x3)) fun u20 =>
          if (0 : Int32) = 0 then
            some ((1 : Int32), u20)
          else
            some ((0 : Int32), u20)
    else
      if (0 : Int32) = 0 then
        if x2 < (0 : Int64) then
          some ((-12 : Int32), u1)
        else
          if x3 ≤ x2 then
            some ((-12 : Int32), u1)
          else
            if x3 ≤ (86400 : Int64) then
              if x1 < 0 ∨ 120 ≤ x1.toNatClampNeg then none else
              q_let (sl u1 2 (vp_updL (gl u1 2) x1.toNatClampNeg x2)) fun u14 =>
              if x1 < 0 ∨ 120 ≤ x1.toNatClampNeg then none else
              q_let (sl u14 3 (vp_updL (gl u14 3) x1.toNatClampNeg x3)) fun u15 =>
              if (0 : Int32) = 0 then
                some ((1 : Int32), u15)
              else
                some ((0 : Int32), u15)
            else
              some ((-12 : Int32), u1)
      else
        if x1 < 0 ∨ 120 ≤ x1.toNatClampNeg then none else
        q_let (sl u1 2 (vp_updL (gl u1 2) x1.toNatClampNeg x2)) fun u8 =>
        if x1 < 0 ∨ 120 ≤ x1.toNatClampNeg then none else
        q_let (sl u8 3 (vp_updL (gl u8 3) x1.toNatClampNeg x3)) fun u9 =>
        if (0 : Int32) = 0 then
          some ((1 : Int32), u9)
        else
          some ((0 : Int32), u9)
def fX1_change (u : gS) (x1 : Int32) (x2 : Int64) : Option (Int32 × gS) :=
  q_let (sf u 0 (0 : Int32)) fun u1 =>
  q_b (fX1_isPiece u1 x1) fun r2 =>
  if r2 = 0 then
    some ((-11 : Int32), u1)
  else
    q_b (fX1_in u1 x2 (1 : Int64) (1000 : Int64)) fun r6 =>
    if r6 = 0 then
      some ((-12 : Int32), u1)
    else
      if x1 < 0 ∨ 120 ≤ x1.toNatClampNeg then none else
      q_let ((gl u1 1 x1.toNatClampNeg).toInt32) fun v10 =>
      if x1 < 0 ∨ 120 ≤ x1.toNatClampNeg then none else
      q_let (sl u1 1 (vp_updL (gl u1 1) x1.toNatClampNeg x2)) fun u11 =>
      some (v10, u11)
def fX1_leads (u : gS) (x1 : Int32) (x2 : Int32) : Option (Int32) :=
  if x1 < 0 ∨ 120 ≤ x1.toNatClampNeg then none else
  if x2 < 0 ∨ 120 ≤ x2.toNatClampNeg then none else
  if (gi u 1 x1.toNatClampNeg) = (gi u 0 x2.toNatClampNeg) then
    if (((120 : Int32) * x1) + x2) < 0 ∨ 14400 ≤ (((120 : Int32) * x1) + x2).toNatClampNeg then none else
    if (gi u 2 (((120 : Int32) * x1) + x2).toNatClampNeg) = 0 then
      some (1 : Int32)
    else
      some (0 : Int32)
  else
    some (0 : Int32)
def fX1_entry (u : gS) (x1 : Int32) (x2 : Int64) : Option (Int64) :=
  if x1 < 0 ∨ 120 ≤ x1.toNatClampNeg then none else
  if (gl u 3 x1.toNatClampNeg) = (0 : Int64) then
    some x2
  else
    q_let (x2 - (x2 - x2 / (86400 : Int64) * (86400 : Int64))) fun v2 =>
    if x1 < 0 ∨ 120 ≤ x1.toNatClampNeg then none else
    if (v2 + (gl u 2 x1.toNatClampNeg)) ≤ x2 then
      if x1 < 0 ∨ 120 ≤ x1.toNatClampNeg then none else
      if (v2 + (gl u 3 x1.toNatClampNeg)) ≤ x2 then
        if x1 < 0 ∨ 120 ≤ x1.toNatClampNeg then none else
        some ((v2 + (86400 : Int64)) + (gl u 2 x1.toNatClampNeg))
      else
        some x2
    else
      if x1 < 0 ∨ 120 ≤ x1.toNatClampNeg then none else
      some (v2 + (gl u 2 x1.toNatClampNeg))
def fX1_crossing (u : gS) (x1 : Int32) : Option (Int64) :=
  if x1 < 0 ∨ 100 ≤ x1.toNatClampNeg then none else
  if (gi u 4 x1.toNatClampNeg) = (1 : Int32) then
    some (15 : Int64)
  else
    some (0 : Int64)
def fX1_rest (u : gS) (x1 : Int32) (x2 : Int64) : Option (Int64) :=
  q_b (fX1_crossing u x1) fun r1 =>
  if x1 < 0 ∨ 100 ≤ x1.toNatClampNeg then none else
  if x1 < 0 ∨ 100 ≤ x1.toNatClampNeg then none else
  if (gi u 3 x1.toNatClampNeg) < 0 ∨ 120 ≤ (gi u 3 x1.toNatClampNeg).toNatClampNeg then none else
  if x1 < 0 ∨ 100 ≤ x1.toNatClampNeg then none else
  q_b (fX1_seconds u (gi u 3 x1.toNatClampNeg) ((gl u 0 (gi u 3 x1.toNatClampNeg).toNatClampNeg) - (gl u 4 x1.toNatClampNeg))) fun r4 =>
  some ((x2 + r1) + r4)
def fX1_reach_L3_b (k9 : Nat) (rc : gS → Int32 → Int64 → Int32 → Option (gS × Int32 × Int64 × Int32)) (u : gS) (y1 : Int32) (y2 : Int64) (y4 : Int32) : Option (gS × Int32 × Int64 × Int32) :=
    if (120 : Int32) ≤ y4 then
      some (u, y1, y2, y4)
    else
      if y4 < 0 ∨ 120 ≤ y4.toNatClampNeg then none else
      q_let (sl u 5 (vp_updL (gl u 5) y4.toNatClampNeg (4000000000000000000 : Int64))) fun u2 =>
      if y4 < 0 ∨ 120 ≤ y4.toNatClampNeg then none else
      q_let (sl u2 6 (vp_updL (gl u2 6) y4.toNatClampNeg (4000000000000000000 : Int64))) fun u3 =>
      q_let (y4 + (1 : Int32)) fun v4 =>
      rc u3 y1 y2 v4
def fX1_reach_L3 (k9 : Nat) : Nat → gS → Int32 → Int64 → Int32 → Option (gS × Int32 × Int64 × Int32)
  | 0 => fun _ _ _ _ => none
  | n + 1 => fX1_reach_L3_b k9 (fX1_reach_L3 k9 n)
def fX1_reach_L79_b (k9 : Nat) (rc : gS → Int32 → Int32 → Int32 → Option (gS × Int32 × Int32 × Int32)) (u : gS) (y4 : Int32) (y5 : Int32) (y6 : Int32) : Option (gS × Int32 × Int32 × Int32) :=
    if (gf u 1) ≤ y6 then
      some (u, y4, y5, y6)
    else
      if y5 < 0 ∨ 120 ≤ y5.toNatClampNeg then none else
      if (4000000000000000000 : Int64) ≤ (gl u 6 y5.toNatClampNeg) then
        some (u, y4, y5, y6)
      else
        q_b (fX1_leads u y5 y6) fun r18 =>
        if r18 = 0 then
          if y6 < 0 ∨ 120 ≤ y6.toNatClampNeg then none else
          if (gl u 5 y6.toNatClampNeg) ≤ (4000000000000000000 : Int64) then
            q_let (y6 + (1 : Int32)) fun v23 =>
            rc u y4 y5 v23
          else
            if y6 < 0 ∨ 120 ≤ y6.toNatClampNeg then none else
            q_let (sl u 5 (vp_updL (gl u 5) y6.toNatClampNeg (4000000000000000000 : Int64))) fun u24 =>
            if y6 < 0 ∨ 120 ≤ y6.toNatClampNeg then none else
            q_b (fX1_seconds u24 y6 (gl u24 0 y6.toNatClampNeg)) fun r25 =>
            q_let ((4000000000000000000 : Int64) + r25) fun v28 =>
            if y6 < 0 ∨ 120 ≤ y6.toNatClampNeg then none else
            if (gl u24 6 y6.toNatClampNeg) ≤ v28 then
              if y6 < 0 ∨ 120 ≤ y6.toNatClampNeg then none else
              if y6 < 0 ∨ 120 ≤ y6.toNatClampNeg then none else
              q_let (sl u24 6 (vp_updL (gl u24 6) y6.toNatClampNeg (gl u24 6 y6.toNatClampNeg))) fun u30 =>
              q_let (y6 + (1 : Int32)) fun v31 =>
              rc u30 (1 : Int32) y5 v31
            else
              if y6 < 0 ∨ 120 ≤ y6.toNatClampNeg then none else
              q_let (sl u24 6 (vp_updL (gl u24 6) y6.toNatClampNeg v28)) fun u32 =>
              q_let (y6 + (1 : Int32)) fun v33 =>
              rc u32 (1 : Int32) y5 v33
        else
          if y5 < 0 ∨ 120 ≤ y5.toNatClampNeg then none else
          q_b (fX1_entry u y6 (gl u 6 y5.toNatClampNeg)) fun r34 =>
          if y6 < 0 ∨ 120 ≤ y6.toNatClampNeg then none else
          if (gl u 5 y6.toNatClampNeg) ≤ r34 then
            q_let (y6 + (1 : Int32)) fun v38 =>
            rc u y4 y5 v38
          else
            if y6 < 0 ∨ 120 ≤ y6.toNatClampNeg then none else
            q_let (sl u 5 (vp_updL (gl u 5) y6.toNatClampNeg r34)) fun u39 =>
            if y6 < 0 ∨ 120 ≤ y6.toNatClampNeg then none else
            q_b (fX1_seconds u39 y6 (gl u39 0 y6.toNatClampNeg)) fun r40 =>
            q_let (r34 + r40) fun v43 =>
            if y6 < 0 ∨ 120 ≤ y6.toNatClampNeg then none else
            if (gl u39 6 y6.toNatClampNeg) ≤ v43 then
              if y6 < 0 ∨ 120 ≤ y6.toNatClampNeg then none else
              if y6 < 0 ∨ 120 ≤ y6.toNatClampNeg then none else
              q_let (sl u39 6 (vp_updL (gl u39 6) y6.toNatClampNeg (gl u39 6 y6.toNatClampNeg))) fun u45 =>
              q_let (y6 + (1 : Int32)) fun v46 =>
              rc u45 (1 : Int32) y5 v46
            else
              if y6 < 0 ∨ 120 ≤ y6.toNatClampNeg then none else
              q_let (sl u39 6 (vp_updL (gl u39 6) y6.toNatClampNeg v43)) fun u47 =>
              q_let (y6 + (1 : Int32)) fun v48 =>
              rc u47 (1 : Int32) y5 v48
def fX1_reach_L79 (k9 : Nat) : Nat → gS → Int32 → Int32 → Int32 → Option (gS × Int32 × Int32 × Int32)
  | 0 => fun _ _ _ _ => none
  | n + 1 => fX1_reach_L79_b k9 (fX1_reach_L79 k9 n)
def fX1_reach_L67_b (k9 : Nat) (rc : gS → Int32 → Int32 → Option (gS × Int32 × Int32)) (u : gS) (y4 : Int32) (y5 : Int32) : Option (gS × Int32 × Int32) :=
    if (gf u 1) ≤ y5 then
      some (u, y4, y5)
    else
      q_b4 (fX1_reach_L79 k9 200 u y4 y5 (0 : Int32)) fun u49 z50 z51 z52 =>
      q_let (z51 + (1 : Int32)) fun v54 =>
      rc u49 z50 v54
def fX1_reach_L67 (k9 : Nat) : Nat → gS → Int32 → Int32 → Option (gS × Int32 × Int32)
  | 0 => fun _ _ _ => none
  | n + 1 => fX1_reach_L67_b k9 (fX1_reach_L67 k9 n)
def fX1_reach_L56_b (k9 : Nat) (rc : gS → Int32 → Option (gS × Int32)) (u : gS) (y4 : Int32) : Option (gS × Int32) :=
    if y4 = 0 then
      some (u, y4)
    else
      q_b3 (fX1_reach_L67 k9 200 u (0 : Int32) (0 : Int32)) fun u55 z56 z57 =>
      rc u55 z56
def fX1_reach_L56 (k9 : Nat) : Nat → gS → Int32 → Option (gS × Int32)
  | 0 => fun _ _ => none
  | n + 1 => fX1_reach_L56_b k9 (fX1_reach_L56 k9 n)
def fX1_reach (k9 : Nat) (u : gS) (x1 : Int32) (x2 : Int64) : Option (gS) :=
  q_b4 (fX1_reach_L3 k9 200 u x1 x2 (0 : Int32)) fun u5 z6 z7 z8 =>
  if z6 < 0 ∨ 100 ≤ z6.toNatClampNeg then none else
  q_b (fX1_rest u5 z6 z7) fun r10 =>
  if (gi u5 3 z6.toNatClampNeg) < 0 ∨ 120 ≤ (gi u5 3 z6.toNatClampNeg).toNatClampNeg then none else
  q_let (sl u5 6 (vp_updL (gl u5 6) (gi u5 3 z6.toNatClampNeg).toNatClampNeg r10)) fun u13 =>
  q_b2 (fX1_reach_L56 k9 k9 u13 (1 : Int32)) fun u59 z60 =>
  some u59
def fX1_straight (u : gS) (x1 : Int32) (x2 : Int32) (x3 : Int64) : Option (Int64) :=
  if x1 < 0 ∨ 100 ≤ x1.toNatClampNeg then none else
  if x2 < 0 ∨ 100 ≤ x2.toNatClampNeg then none else
  if (gi u 3 x1.toNatClampNeg) = (gi u 3 x2.toNatClampNeg) then
    if x2 < 0 ∨ 100 ≤ x2.toNatClampNeg then none else
    if x1 < 0 ∨ 100 ≤ x1.toNatClampNeg then none else
    if (gl u 4 x2.toNatClampNeg) < (gl u 4 x1.toNatClampNeg) then
      if (0 : Int32) = 0 then
        some (4000000000000000000 : Int64)
      else
        q_b (fX1_crossing u x1) fun r14 =>
        if x1 < 0 ∨ 100 ≤ x1.toNatClampNeg then none else
        if x2 < 0 ∨ 100 ≤ x2.toNatClampNeg then none else
        if x1 < 0 ∨ 100 ≤ x1.toNatClampNeg then none else
        q_b (fX1_seconds u (gi u 3 x1.toNatClampNeg) ((gl u 4 x2.toNatClampNeg) - (gl u 4 x1.toNatClampNeg))) fun r17 =>
        q_b (fX1_crossing u x2) fun r20 =>
        some (((x3 + r14) + r17) + r20)
    else
      if (1 : Int32) = 0 then
        some (4000000000000000000 : Int64)
      else
        q_b (fX1_crossing u x1) fun r24 =>
        if x1 < 0 ∨ 100 ≤ x1.toNatClampNeg then none else
        if x2 < 0 ∨ 100 ≤ x2.toNatClampNeg then none else
        if x1 < 0 ∨ 100 ≤ x1.toNatClampNeg then none else
        q_b (fX1_seconds u (gi u 3 x1.toNatClampNeg) ((gl u 4 x2.toNatClampNeg) - (gl u 4 x1.toNatClampNeg))) fun r27 =>
        q_b (fX1_crossing u x2) fun r30 =>
        some (((x3 + r24) + r27) + r30)
  else
    if (0 : Int32) = 0 then
      some (4000000000000000000 : Int64)
    else
      q_b (fX1_crossing u x1) fun r3 =>
      if x1 < 0 ∨ 100 ≤ x1.toNatClampNeg then none else
      if x2 < 0 ∨ 100 ≤ x2.toNatClampNeg then none else
      if x1 < 0 ∨ 100 ≤ x1.toNatClampNeg then none else
      q_b (fX1_seconds u (gi u 3 x1.toNatClampNeg) ((gl u 4 x2.toNatClampNeg) - (gl u 4 x1.toNatClampNeg))) fun r6 =>
      q_b (fX1_crossing u x2) fun r9 =>
      some (((x3 + r3) + r6) + r9)
def fX1_around (u : gS) (x1 : Int32) : Option (Int64) :=
  if x1 < 0 ∨ 100 ≤ x1.toNatClampNeg then none else
  q_let (gi u 3 x1.toNatClampNeg) fun v1 =>
  if v1 < 0 ∨ 120 ≤ v1.toNatClampNeg then none else
  if (gl u 5 v1.toNatClampNeg) = (4000000000000000000 : Int64) then
    some (4000000000000000000 : Int64)
  else
    if v1 < 0 ∨ 120 ≤ v1.toNatClampNeg then none else
    if x1 < 0 ∨ 100 ≤ x1.toNatClampNeg then none else
    q_b (fX1_seconds u v1 (gl u 4 x1.toNatClampNeg)) fun r3 =>
    q_b (fX1_crossing u x1) fun r6 =>
    some (((gl u 5 v1.toNatClampNeg) + r3) + r6)
def fX1_before_L9_b (rc : gS → Int32 → Int32 → Int32 → Option (Int32)) (u : gS) (y1 : Int32) (y2 : Int32) (y3 : Int32) : Option (Int32) :=
    if y3 < 0 then
      some y2
    else
      q_b (fX1_leads u y3 y1) fun r3 =>
      if r3 = 0 then
        q_let (y3 + (-1 : Int32)) fun v7 =>
        rc u y1 y2 v7
      else
        if y3 < 0 ∨ 120 ≤ y3.toNatClampNeg then none else
        if (4000000000000000000 : Int64) ≤ (gl u 6 y3.toNatClampNeg) then
          q_let (y3 + (-1 : Int32)) fun v9 =>
          rc u y1 y2 v9
        else
          if y3 < 0 ∨ 120 ≤ y3.toNatClampNeg then none else
          q_b (fX1_entry u y1 (gl u 6 y3.toNatClampNeg)) fun r10 =>
          if y1 < 0 ∨ 120 ≤ y1.toNatClampNeg then none else
          if r10 = (gl u 5 y1.toNatClampNeg) then
            q_let (y3 + (-1 : Int32)) fun v15 =>
            rc u y1 y3 v15
          else
            q_let (y3 + (-1 : Int32)) fun v14 =>
            rc u y1 y2 v14
def fX1_before_L9 : Nat → gS → Int32 → Int32 → Int32 → Option (Int32)
  | 0 => fun _ _ _ _ => none
  | n + 1 => fX1_before_L9_b (fX1_before_L9 n)
def fX1_before (u : gS) (x1 : Int32) : Option (Int32) :=
  q_let ((gf u 1) - (1 : Int32)) fun v1 =>
  fX1_before_L9 200 u x1 (-1 : Int32) v1
def fX1_way_L120_b (k9 : Nat) (rc : gS → Int32 → Int64 → Int64 → Int32 → Option (Int64 × gS)) (u : gS) (y1 : Int32) (y3 : Int64) (y7 : Int64) (y9 : Int32) : Option (Int64 × gS) :=
    if y9 = 0 then
      some (y7, u)
    else
      if ((gf u 3) - (1 : Int32)) < 0 ∨ 200 ≤ ((gf u 3) - (1 : Int32)).toNatClampNeg then none else
      q_b (fX1_before u (gi u 5 ((gf u 3) - (1 : Int32)).toNatClampNeg)) fun r29 =>
      if (gf u 3) < 0 ∨ 200 ≤ (gf u 3).toNatClampNeg then none else
      q_let (si u 5 (upd (gi u 5) (gf u 3).toNatClampNeg r29)) fun u32 =>
      q_let (sf u32 3 ((gf u32 3) + (1 : Int32))) fun u33 =>
      if y1 < 0 ∨ 100 ≤ y1.toNatClampNeg then none else
      if r29 = (gi u33 3 y1.toNatClampNeg) then
        if r29 < 0 ∨ 120 ≤ r29.toNatClampNeg then none else
        q_b (fX1_rest u33 y1 y3) fun r35 =>
        if (gl u33 6 r29.toNatClampNeg) = r35 then
          rc u33 y1 y3 y7 (0 : Int32)
        else
          rc u33 y1 y3 y7 (1 : Int32)
      else
        rc u33 y1 y3 y7 (1 : Int32)
def fX1_way_L120 (k9 : Nat) : Nat → gS → Int32 → Int64 → Int64 → Int32 → Option (Int64 × gS)
  | 0 => fun _ _ _ _ _ => none
  | n + 1 => fX1_way_L120_b k9 (fX1_way_L120 k9 n)
def fX1_way (k9 : Nat) (u : gS) (x1 : Int32) (x2 : Int32) (x3 : Int64) : Option (Int64 × gS) :=
  q_let (sf u 0 (0 : Int32)) fun u1 =>
  q_b (fX1_isStop u1 x1) fun r2 =>
  if r2 = 0 then
    some ((-11 : Int64), u1)
  else
    q_b (fX1_isStop u1 x2) fun r6 =>
    if r6 = 0 then
      some ((-11 : Int64), u1)
    else
      q_b (fX1_in u1 x3 (0 : Int64) (1000000000000 : Int64)) fun r10 =>
      if r10 = 0 then
        some ((-12 : Int64), u1)
      else
        q_b (fX1_reach k9 u1 x1 x3) fun u15 =>
        q_b (fX1_straight u15 x1 x2 x3) fun r17 =>
        q_b (fX1_around u15 x2) fun r20 =>
        q_let (sf u15 3 (0 : Int32)) fun u23 =>
        if r17 = (4000000000000000000 : Int64) then
          if r20 = (4000000000000000000 : Int64) then
            some ((-1 : Int64), u23)
          else
            if x2 < 0 ∨ 100 ≤ x2.toNatClampNeg then none else
            if (0 : Int32) < 0 ∨ 200 ≤ (0 : Int32).toNatClampNeg then none else
            q_let (si u23 5 (upd (gi u23 5) (0 : Int32).toNatClampNeg (gi u23 3 x2.toNatClampNeg))) fun u40 =>
            q_let (sf u40 3 (1 : Int32)) fun u41 =>
            if r20 < r17 then
              fX1_way_L120 k9 200 u41 x1 x3 r20 (1 : Int32)
            else
              some (r17, u41)
        else
          if x2 < 0 ∨ 100 ≤ x2.toNatClampNeg then none else
          if (0 : Int32) < 0 ∨ 200 ≤ (0 : Int32).toNatClampNeg then none else
          q_let (si u23 5 (upd (gi u23 5) (0 : Int32).toNatClampNeg (gi u23 3 x2.toNatClampNeg))) fun u25 =>
          q_let (sf u25 3 (1 : Int32)) fun u26 =>
          if r20 < r17 then
            fX1_way_L120 k9 200 u26 x1 x3 r20 (1 : Int32)
          else
            some (r17, u26)
def fX1_step (u : gS) (x1 : Int32) : Option (Int32 × gS) :=
  q_let (sf u 0 (0 : Int32)) fun u1 =>
  if x1 < 0 then
    some ((-1 : Int32), u1)
  else
    if (gf u1 3) ≤ x1 then
      some ((-1 : Int32), u1)
    else
      if (((gf u1 3) - (1 : Int32)) - x1) < 0 ∨ 200 ≤ (((gf u1 3) - (1 : Int32)) - x1).toNatClampNeg then none else
      some ((gi u1 5 (((gf u1 3) - (1 : Int32)) - x1).toNatClampNeg), u1)
def fX1_table (k9 : Nat) (u : gS) (x1 : Int32) (x2 : Int32) : Option (Int64 × gS) :=
  q_let (sf u 0 (0 : Int32)) fun u1 =>
  q_b (fX1_isStop u1 x1) fun r2 =>
  if r2 = 0 then
    some ((-11 : Int64), u1)
  else
    q_b (fX1_isStop u1 x2) fun r6 =>
    if r6 = 0 then
      some ((-11 : Int64), u1)
    else
      q_b (fX1_reach k9 u1 x1 (0 : Int64)) fun u11 =>
      q_b (fX1_straight u11 x1 x2 (0 : Int64)) fun r13 =>
      q_b (fX1_around u11 x2) fun r16 =>
      if r16 ≤ r13 then
        if r16 = (4000000000000000000 : Int64) then
          some ((-1 : Int64), u11)
        else
          some (r16, u11)
      else
        if r13 = (4000000000000000000 : Int64) then
          some ((-1 : Int64), u11)
        else
          some (r13, u11)
def fX1_service_L101_b (rc : gS → Int32 → Int32 → Int32 → Int32 → Option (Int32 × gS)) (u : gS) (y1 : Int32) (y2 : Int32) (y3 : Int32) (y4 : Int32) : Option (Int32 × gS) :=
    if (gf u 1) ≤ y4 then
      if ¬ vp_nar .boolean y3 = y3 then none else
      some (y3, u)
    else
      if y2 = (3 : Int32) then
        if y3 = 0 then
          q_b (fX1_leads u y1 y4) fun r12 =>
          if r12 = 0 then
            q_let (y4 + (1 : Int32)) fun v16 =>
            rc u y1 y2 (0 : Int32) v16
          else
            q_let (y4 + (1 : Int32)) fun v17 =>
            rc u y1 y2 (1 : Int32) v17
        else
          q_let (y4 + (1 : Int32)) fun v11 =>
          rc u y1 y2 (1 : Int32) v11
      else
        if ¬ vp_nar .boolean y3 = y3 then none else
        some (y3, u)
def fX1_service_L101 : Nat → gS → Int32 → Int32 → Int32 → Int32 → Option (Int32 × gS)
  | 0 => fun _ _ _ _ _ => none
  | n + 1 => fX1_service_L101_b (fX1_service_L101 n)
def fX1_service_L42_b (rc : gS → Int32 → Int32 → Int32 → Int32 → Option (Int32 × gS)) (u : gS) (y1 : Int32) (y2 : Int32) (y3 : Int32) (y4 : Int32) : Option (Int32 × gS) :=
    if (gf u 2) ≤ y4 then
      fX1_service_L101 200 u y1 y2 y3 (0 : Int32)
    else
      if y2 < 0 then
        fX1_service_L101 200 u y1 y2 y3 (0 : Int32)
      else
        if (2 : Int32) ≤ y2 then
          fX1_service_L101 200 u y1 y2 y3 (0 : Int32)
        else
          if y3 = 0 then
            if y4 < 0 ∨ 100 ≤ y4.toNatClampNeg then none else
            if (gi u 3 y4.toNatClampNeg) = y1 then
              if y4 < 0 ∨ 100 ≤ y4.toNatClampNeg then none else
              if (gi u 4 y4.toNatClampNeg) = y2 then
                q_let (y4 + (1 : Int32)) fun v26 =>
                rc u y1 y2 (1 : Int32) v26
              else
                q_let (y4 + (1 : Int32)) fun v25 =>
                rc u y1 y2 (0 : Int32) v25
            else
              q_let (y4 + (1 : Int32)) fun v23 =>
              rc u y1 y2 (0 : Int32) v23
          else
            q_let (y4 + (1 : Int32)) fun v21 =>
            rc u y1 y2 (1 : Int32) v21
def fX1_service_L42 : Nat → gS → Int32 → Int32 → Int32 → Int32 → Option (Int32 × gS)
  | 0 => fun _ _ _ _ _ => none
  | n + 1 => fX1_service_L42_b (fX1_service_L42 n)
def fX1_service (u : gS) (x1 : Int32) (x2 : Int32) : Option (Int32 × gS) :=
  q_let (sf u 0 (0 : Int32)) fun u1 =>
  q_b (fX1_isPiece u1 x1) fun r2 =>
  if r2 = 0 then
    some ((0 : Int32), u1)
  else
    if x2 = (2 : Int32) then
      if x1 < 0 ∨ 120 ≤ x1.toNatClampNeg then none else
      if (gl u1 3 x1.toNatClampNeg) ≤ (0 : Int64) then
        some ((0 : Int32), u1)
      else
        some ((1 : Int32), u1)
    else
      fX1_service_L42 200 u1 x1 x2 (0 : Int32) (0 : Int32)
