/-! The pictures of the methods: what they answer, what they leave; none where the machine itself would throw. Laid by lay.py. -/
def fX0_isCrossing (u : gS) (x1 : Int32) : Option (Int32) :=
  if x1 < 0 then
    some (0 : Int32)
  else
    if (60 : Int32) ≤ x1 then
      some (0 : Int32)
    else
      some (1 : Int32)
def fX0_isPiece (u : gS) (x1 : Int32) : Option (Int32) :=
  if x1 < 0 then
    some (0 : Int32)
  else
    if (gf u 0) ≤ x1 then
      some (0 : Int32)
    else
      some (1 : Int32)
def fX0_wordOfTurn (u : gS) (x1 : Int32) (x2 : Int32) : Option (Int32) :=
  some ((x1 * (2 : Int32)) + (x2 / (64 : Int32)))
def fX0_bitOfTurn (u : gS) (x1 : Int32) : Option (Int64) :=
  some ((1 : Int64) <<< ((x1 - x1 / (64 : Int32) * (64 : Int32)).toInt64 &&& 63))
def fX0_isBarred (u : gS) (x1 : Int32) (x2 : Int32) : Option (Int32) :=
  q_b (fX0_wordOfTurn u x1 x2) fun r1 =>
  if r1 < 0 ∨ 240 ≤ r1.toNatClampNeg then none else
  q_b (fX0_bitOfTurn u x2) fun r4 =>
  if ((gl u 4 r1.toNatClampNeg) &&& r4) = (0 : Int64) then
    some (0 : Int32)
  else
    some (1 : Int32)
def fX0_turn (u : gS) (x1 : Int32) (x2 : Int32) (x3 : Int32) : Option (Int32 × gS) :=
  q_b (fX0_isPiece u x1) fun r1 =>
  if r1 = 0 then
    some ((-11 : Int32), u)
  else
    q_b (fX0_isPiece u x2) fun r5 =>
    if r5 = 0 then
      some ((-11 : Int32), u)
    else
      if x1 < 0 ∨ 120 ≤ x1.toNatClampNeg then none else
      if x2 < 0 ∨ 120 ≤ x2.toNatClampNeg then none else
      if (gi u 1 x1.toNatClampNeg) = (gi u 0 x2.toNatClampNeg) then
        q_b (fX0_isBarred u x1 x2) fun r10 =>
        if r10 = x3 then
          some ((gf u 1), u)
        else
          q_b (fX0_wordOfTurn u x1 x2) fun r14 =>
          if r14 < 0 ∨ 240 ≤ r14.toNatClampNeg then none else
          q_b (fX0_bitOfTurn u x2) fun r17 =>
          if r14 < 0 ∨ 240 ≤ r14.toNatClampNeg then none else
          q_let (sl u 4 (vp_updL (gl u 4) r14.toNatClampNeg ((gl u 4 r14.toNatClampNeg) ^^^ r17))) fun u20 =>
          if x3 = 0 then
            q_let (sf u20 1 ((gf u20 1) + (-1 : Int32))) fun u22 =>
            some ((gf u22 1), u22)
          else
            q_let (sf u20 1 ((gf u20 1) + (1 : Int32))) fun u23 =>
            some ((gf u23 1), u23)
      else
        some ((-13 : Int32), u)
def fX0_stop (u : gS) (x1 : Int32) (x2 : Int32) (x3 : Int64) : Option (Int32 × gS) :=
  q_b (fX0_isPiece u x1) fun r1 =>
  if r1 = 0 then
    some ((-11 : Int32), u)
  else
    if x2 < 0 then
      some ((-12 : Int32), u)
    else
      if (1 : Int32) < x2 then
        some ((-12 : Int32), u)
      else
        if x3 < (0 : Int64) then
          some ((-12 : Int32), u)
        else
          if x1 < 0 ∨ 120 ≤ x1.toNatClampNeg then none else
          if x3 ≤ (gl u 0 x1.toNatClampNeg) then
            if (gf u 2) < (100 : Int32) then
              if (gf u 2) < 0 ∨ 100 ≤ (gf u 2).toNatClampNeg then none else
              q_let (si u 2 (upd (gi u 2) (gf u 2).toNatClampNeg x1)) fun u10 =>
              if (gf u10 2) < 0 ∨ 100 ≤ (gf u10 2).toNatClampNeg then none else
              q_let (si u10 3 (upd (gi u10 3) (gf u10 2).toNatClampNeg x2)) fun u11 =>
              if (gf u11 2) < 0 ∨ 100 ≤ (gf u11 2).toNatClampNeg then none else
              q_let (sl u11 5 (vp_updL (gl u11 5) (gf u11 2).toNatClampNeg x3)) fun u12 =>
              q_let (sf u12 2 ((gf u12 2) + (1 : Int32))) fun u13 =>
              some (((gf u13 2) - (1 : Int32)), u13)
            else
              some ((-14 : Int32), u)
          else
            some ((-12 : Int32), u)
def fX0_isStop (u : gS) (x1 : Int32) : Option (Int32) :=
  if x1 < 0 then
    some (0 : Int32)
  else
    if (gf u 2) ≤ x1 then
      some (0 : Int32)
    else
      some (1 : Int32)
def fX0_secondsAcross (u : gS) (x1 : Int32) : Option (Int64) :=
  if x1 < 0 ∨ 100 ≤ x1.toNatClampNeg then none else
  if (gi u 3 x1.toNatClampNeg) = (1 : Int32) then
    some (15 : Int64)
  else
    some (0 : Int64)
def fX0_isStraightOn (u : gS) (x1 : Int32) (x2 : Int32) : Option (Int32) :=
  if x1 < 0 ∨ 100 ≤ x1.toNatClampNeg then none else
  if x2 < 0 ∨ 100 ≤ x2.toNatClampNeg then none else
  if (gi u 2 x1.toNatClampNeg) = (gi u 2 x2.toNatClampNeg) then
    if x1 < 0 ∨ 100 ≤ x1.toNatClampNeg then none else
    if x2 < 0 ∨ 100 ≤ x2.toNatClampNeg then none else
    if (gl u 5 x2.toNatClampNeg) < (gl u 5 x1.toNatClampNeg) then
      some (0 : Int32)
    else
      some (1 : Int32)
  else
    some (0 : Int32)
def fX0_secondsFor (u : gS) (x1 : Int32) (x2 : Int64) : Option (Int64) :=
  if x1 < 0 ∨ 120 ≤ x1.toNatClampNeg then none else
  q_let (if (gl u 1 x1.toNatClampNeg) < (1 : Int64) then (1 : Int64) else (gl u 1 x1.toNatClampNeg)) fun v1 =>
  if v1 = 0 then none else
  some (((((10 : Int64) * x2) + v1) - (1 : Int64)) / v1)
def fX0_forgetLeastTimes_L2_b (rc : gS → Int32 → Option (gS)) (u : gS) (y1 : Int32) : Option (gS) :=
    if (gf u 0) ≤ y1 then
      some u
    else
      if y1 < 0 ∨ 120 ≤ y1.toNatClampNeg then none else
      q_let (sl u 6 (vp_updL (gl u 6) y1.toNatClampNeg (4000000000000000000 : Int64))) fun u2 =>
      if y1 < 0 ∨ 120 ≤ y1.toNatClampNeg then none else
      q_let (sl u2 7 (vp_updL (gl u2 7) y1.toNatClampNeg (4000000000000000000 : Int64))) fun u3 =>
      if y1 < 0 ∨ 120 ≤ y1.toNatClampNeg then none else
      q_let (si u3 4 (upd (gi u3 4) y1.toNatClampNeg (vp_nar .boolean (0 : Int32)))) fun u4 =>
      q_let (y1 + (1 : Int32)) fun v5 =>
      rc u4 v5
def fX0_forgetLeastTimes_L2 : Nat → gS → Int32 → Option (gS)
  | 0 => fun _ _ => none
  | n + 1 => fX0_forgetLeastTimes_L2_b (fX0_forgetLeastTimes_L2 n)
def fX0_forgetLeastTimes (u : gS) : Option (gS) :=
  fX0_forgetLeastTimes_L2 200 u (0 : Int32)
def fX0_earliestUnsettled_L9_b (rc : gS → Int32 → Int64 → Int32 → Option (Int32)) (u : gS) (y1 : Int32) (y2 : Int64) (y4 : Int32) : Option (Int32) :=
    if (gf u 0) ≤ y4 then
      some y1
    else
      if y4 < 0 ∨ 120 ≤ y4.toNatClampNeg then none else
      if (gi u 4 y4.toNatClampNeg) = 0 then
        if y4 < 0 ∨ 120 ≤ y4.toNatClampNeg then none else
        if y2 ≤ (gl u 7 y4.toNatClampNeg) then
          q_let (y4 + (1 : Int32)) fun v5 =>
          rc u y1 y2 v5
        else
          if y4 < 0 ∨ 120 ≤ y4.toNatClampNeg then none else
          q_let (gl u 7 y4.toNatClampNeg) fun v6 =>
          q_let (y4 + (1 : Int32)) fun v7 =>
          rc u y4 v6 v7
      else
        q_let (y4 + (1 : Int32)) fun v3 =>
        rc u y1 y2 v3
def fX0_earliestUnsettled_L9 : Nat → gS → Int32 → Int64 → Int32 → Option (Int32)
  | 0 => fun _ _ _ _ => none
  | n + 1 => fX0_earliestUnsettled_L9_b (fX0_earliestUnsettled_L9 n)
def fX0_earliestUnsettled (u : gS) : Option (Int32) :=
  fX0_earliestUnsettled_L9 200 u (-1 : Int32) (4000000000000000000 : Int64) (0 : Int32)
def fX0_mayGoOn (u : gS) (x1 : Int32) (x2 : Int32) : Option (Int32) :=
  if x1 < 0 ∨ 120 ≤ x1.toNatClampNeg then none else
  if x2 < 0 ∨ 120 ≤ x2.toNatClampNeg then none else
  if (gi u 1 x1.toNatClampNeg) = (gi u 0 x2.toNatClampNeg) then
    q_b (fX0_isBarred u x1 x2) fun r2 =>
    if r2 = 0 then
      some (1 : Int32)
    else
      some (0 : Int32)
  else
    some (0 : Int32)
def fX0_hasGate (u : gS) (x1 : Int32) : Option (Int32) :=
  if x1 < 0 ∨ 120 ≤ x1.toNatClampNeg then none else
  if (gl u 3 x1.toNatClampNeg) = (0 : Int64) then
    some (0 : Int32)
  else
    some (1 : Int32)
def fX0_entryAtOrAfter (u : gS) (x1 : Int32) (x2 : Int64) : Option (Int64) :=
  q_b (fX0_hasGate u x1) fun r1 =>
  if r1 = 0 then
    some x2
  else
    q_let (x2 - x2 / (86400 : Int64) * (86400 : Int64)) fun v5 =>
    if x1 < 0 ∨ 120 ≤ x1.toNatClampNeg then none else
    if (gl u 2 x1.toNatClampNeg) ≤ v5 then
      if x1 < 0 ∨ 120 ≤ x1.toNatClampNeg then none else
      if (gl u 3 x1.toNatClampNeg) ≤ v5 then
        if x1 < 0 ∨ 120 ≤ x1.toNatClampNeg then none else
        some (((x2 - v5) + (86400 : Int64)) + (gl u 2 x1.toNatClampNeg))
      else
        some x2
    else
      if x1 < 0 ∨ 120 ≤ x1.toNatClampNeg then none else
      some ((x2 - v5) + (gl u 2 x1.toNatClampNeg))
def fX0_goOnFrom_L2_b (rc : gS → Int32 → Int32 → Option (gS)) (u : gS) (y1 : Int32) (y2 : Int32) : Option (gS) :=
    if (gf u 0) ≤ y2 then
      some u
    else
      q_b (fX0_mayGoOn u y1 y2) fun r2 =>
      if r2 = 0 then
        q_let (y2 + (1 : Int32)) fun v17 =>
        rc u y1 v17
      else
        if y1 < 0 ∨ 120 ≤ y1.toNatClampNeg then none else
        q_b (fX0_entryAtOrAfter u y2 (gl u 7 y1.toNatClampNeg)) fun r6 =>
        if y2 < 0 ∨ 120 ≤ y2.toNatClampNeg then none else
        if (gl u 6 y2.toNatClampNeg) ≤ r6 then
          q_let (y2 + (1 : Int32)) fun v10 =>
          rc u y1 v10
        else
          if y2 < 0 ∨ 120 ≤ y2.toNatClampNeg then none else
          q_let (sl u 6 (vp_updL (gl u 6) y2.toNatClampNeg r6)) fun u11 =>
          if y2 < 0 ∨ 120 ≤ y2.toNatClampNeg then none else
          if y2 < 0 ∨ 120 ≤ y2.toNatClampNeg then none else
          q_b (fX0_secondsFor u11 y2 (gl u11 0 y2.toNatClampNeg)) fun r12 =>
          if y2 < 0 ∨ 120 ≤ y2.toNatClampNeg then none else
          q_let (sl u11 7 (vp_updL (gl u11 7) y2.toNatClampNeg (if (r6 + r12) < (gl u11 7 y2.toNatClampNeg) then (r6 + r12) else (gl u11 7 y2.toNatClampNeg)))) fun u15 =>
          q_let (y2 + (1 : Int32)) fun v16 =>
          rc u15 y1 v16
def fX0_goOnFrom_L2 : Nat → gS → Int32 → Int32 → Option (gS)
  | 0 => fun _ _ _ => none
  | n + 1 => fX0_goOnFrom_L2_b (fX0_goOnFrom_L2 n)
def fX0_goOnFrom (u : gS) (x1 : Int32) : Option (gS) :=
  fX0_goOnFrom_L2 200 u x1 (0 : Int32)
def fX0_findLeastTimes_L14_b (rc : gS → Int32 → Int32 → Option (gS)) (u : gS) (y4 : Int32) (y5 : Int32) : Option (gS) :=
    if (gf u 0) ≤ y5 then
      some u
    else
      q_b (fX0_earliestUnsettled u) fun r6 =>
      if r6 = (-1 : Int32) then
        some u
      else
        if r6 < 0 ∨ 120 ≤ r6.toNatClampNeg then none else
        if y4 < 0 ∨ 120 ≤ y4.toNatClampNeg then none else
        if (gl u 7 r6.toNatClampNeg) ≤ (gl u 6 y4.toNatClampNeg) then
          if r6 < 0 ∨ 120 ≤ r6.toNatClampNeg then none else
          q_let (si u 4 (upd (gi u 4) r6.toNatClampNeg (vp_nar .boolean (1 : Int32)))) fun u11 =>
          q_b (fX0_goOnFrom u11 r6) fun u13 =>
          q_let (y5 + (1 : Int32)) fun v15 =>
          rc u13 y4 v15
        else
          some u
def fX0_findLeastTimes_L14 : Nat → gS → Int32 → Int32 → Option (gS)
  | 0 => fun _ _ _ => none
  | n + 1 => fX0_findLeastTimes_L14_b (fX0_findLeastTimes_L14 n)
def fX0_findLeastTimes (u : gS) (x1 : Int32) (x2 : Int64) (x3 : Int32) : Option (gS) :=
  q_b (fX0_forgetLeastTimes u) fun u2 =>
  if x1 < 0 ∨ 120 ≤ x1.toNatClampNeg then none else
  q_let (sl u2 7 (vp_updL (gl u2 7) x1.toNatClampNeg x2)) fun u4 =>
  fX0_findLeastTimes_L14 200 u4 x3 (0 : Int32)
def fX0_leastArrival (u : gS) (x1 : Int32) (x2 : Int32) (x3 : Int64) : Option (Int64 × gS) :=
  q_b (fX0_secondsAcross u x1) fun r1 =>
  q_let (x3 + r1) fun v4 =>
  if x1 < 0 ∨ 100 ≤ x1.toNatClampNeg then none else
  q_let (gi u 2 x1.toNatClampNeg) fun v5 =>
  if x2 < 0 ∨ 100 ≤ x2.toNatClampNeg then none else
  q_let (gi u 2 x2.toNatClampNeg) fun v6 =>
  q_b (fX0_isStraightOn u x1 x2) fun r7 =>
  if r7 = 0 then
    if v5 < 0 ∨ 120 ≤ v5.toNatClampNeg then none else
    if x1 < 0 ∨ 100 ≤ x1.toNatClampNeg then none else
    q_let ((gl u 0 v5.toNatClampNeg) - (gl u 5 x1.toNatClampNeg)) fun v11 =>
    q_b (fX0_secondsFor u v5 v11) fun r12 =>
    q_b (fX0_findLeastTimes u v5 (v4 + r12) v6) fun u16 =>
    if v6 < 0 ∨ 120 ≤ v6.toNatClampNeg then none else
    if (gl u16 6 v6.toNatClampNeg) = (4000000000000000000 : Int64) then
      some ((-1 : Int64), u16)
    else
      if v6 < 0 ∨ 120 ≤ v6.toNatClampNeg then none else
      if x2 < 0 ∨ 100 ≤ x2.toNatClampNeg then none else
      q_b (fX0_secondsFor u16 v6 (gl u16 5 x2.toNatClampNeg)) fun r19 =>
      q_b (fX0_secondsAcross u16 x2) fun r22 =>
      some ((((gl u16 6 v6.toNatClampNeg) + r19) + r22), u16)
  else
    if x2 < 0 ∨ 100 ≤ x2.toNatClampNeg then none else
    if x1 < 0 ∨ 100 ≤ x1.toNatClampNeg then none else
    q_let ((gl u 5 x2.toNatClampNeg) - (gl u 5 x1.toNatClampNeg)) fun v25 =>
    q_b (fX0_secondsFor u v5 v25) fun r26 =>
    q_b (fX0_secondsAcross u x2) fun r29 =>
    some (((v4 + r26) + r29), u)
def fX0_pieceBefore_L2_b (rc : gS → Int32 → Int32 → Option (Int32)) (u : gS) (y1 : Int32) (y2 : Int32) : Option (Int32) :=
    if (gf u 0) ≤ y2 then
      some (-1 : Int32)
    else
      q_b (fX0_mayGoOn u y2 y1) fun r2 =>
      if r2 = 0 then
        q_let (y2 + (1 : Int32)) fun v6 =>
        rc u y1 v6
      else
        if y2 < 0 ∨ 120 ≤ y2.toNatClampNeg then none else
        q_b (fX0_entryAtOrAfter u y1 (gl u 7 y2.toNatClampNeg)) fun r7 =>
        if y1 < 0 ∨ 120 ≤ y1.toNatClampNeg then none else
        if r7 = (gl u 6 y1.toNatClampNeg) then
          some y2
        else
          q_let (y2 + (1 : Int32)) fun v11 =>
          rc u y1 v11
def fX0_pieceBefore_L2 : Nat → gS → Int32 → Int32 → Option (Int32)
  | 0 => fun _ _ _ => none
  | n + 1 => fX0_pieceBefore_L2_b (fX0_pieceBefore_L2 n)
def fX0_pieceBefore (u : gS) (x1 : Int32) : Option (Int32) :=
  fX0_pieceBefore_L2 200 u x1 (0 : Int32)
def fX0_keepSteps_L46_b (rc : gS → Int32 → Int32 → Option (gS)) (u : gS) (y3 : Int32) (y5 : Int32) : Option (gS) :=
    if y5 = (-1 : Int32) then
      some u
    else
      if (121 : Int32) ≤ (gf u 3) then
        some u
      else
        if (gf u 3) < 0 ∨ 121 ≤ (gf u 3).toNatClampNeg then none else
        q_let (si u 5 (upd (gi u 5) (gf u 3).toNatClampNeg y5)) fun u14 =>
        q_let (sf u14 3 ((gf u14 3) + (1 : Int32))) fun u15 =>
        if y5 = y3 then
          rc u15 y3 (-1 : Int32)
        else
          q_b (fX0_pieceBefore u15 y5) fun r17 =>
          rc u15 y3 r17
def fX0_keepSteps_L46 : Nat → gS → Int32 → Int32 → Option (gS)
  | 0 => fun _ _ _ => none
  | n + 1 => fX0_keepSteps_L46_b (fX0_keepSteps_L46 n)
def fX0_keepSteps (u : gS) (x1 : Int32) (x2 : Int32) : Option (gS) :=
  if x1 < 0 ∨ 100 ≤ x1.toNatClampNeg then none else
  q_let (gi u 2 x1.toNatClampNeg) fun v1 =>
  if x2 < 0 ∨ 100 ≤ x2.toNatClampNeg then none else
  q_let (gi u 2 x2.toNatClampNeg) fun v2 =>
  if (0 : Int32) < 0 ∨ 121 ≤ (0 : Int32).toNatClampNeg then none else
  q_let (si u 5 (upd (gi u 5) (0 : Int32).toNatClampNeg v2)) fun u3 =>
  q_let (sf u3 3 (1 : Int32)) fun u4 =>
  q_b (fX0_isStraightOn u4 x1 x2) fun r5 =>
  if r5 = 0 then
    q_b (fX0_pieceBefore u4 v2) fun r9 =>
    fX0_keepSteps_L46 200 u4 v1 r9
  else
    some u4
def fX0_way (u : gS) (x1 : Int32) (x2 : Int32) (x3 : Int64) : Option (Int64 × gS) :=
  q_b (fX0_isStop u x1) fun r1 =>
  if r1 = 0 then
    some ((-11 : Int64), u)
  else
    q_b (fX0_isStop u x2) fun r5 =>
    if r5 = 0 then
      some ((-11 : Int64), u)
    else
      if x3 < (0 : Int64) then
        some ((-12 : Int64), u)
      else
        if x3 ≤ (1000000000000 : Int64) then
          q_b2 (fX0_leastArrival u x1 x2 x3) fun r11 u12 =>
          q_let (sf u12 3 (0 : Int32)) fun u14 =>
          if r11 = (-1 : Int64) then
            some (r11, u14)
          else
            q_b (fX0_keepSteps u14 x1 x2) fun u17 =>
            some (r11, u17)
        else
          some ((-12 : Int64), u)
def fX0_step (u : gS) (x1 : Int32) : Option (Int32) :=
  if x1 < 0 then
    some (-1 : Int32)
  else
    if x1 < (gf u 3) then
      if (((gf u 3) - (1 : Int32)) - x1) < 0 ∨ 121 ≤ (((gf u 3) - (1 : Int32)) - x1).toNatClampNeg then none else
      some (gi u 5 (((gf u 3) - (1 : Int32)) - x1).toNatClampNeg)
    else
      some (-1 : Int32)
def fX0_gate (u : gS) (x1 : Int32) (x2 : Int64) (x3 : Int64) : Option (Int32 × gS) :=
  q_b (fX0_isPiece u x1) fun r1 =>
  if r1 = 0 then
    some ((-11 : Int32), u)
  else
    if x2 = (0 : Int64) then
      if x3 = (0 : Int64) then
        if (1 : Int32) = 0 then
          if x2 < (0 : Int64) then
            some ((-12 : Int32), u)
          else
            if x3 ≤ x2 then
              some ((-12 : Int32), u)
            else
              if x3 ≤ (86400 : Int64) then
                if x1 < 0 ∨ 120 ≤ x1.toNatClampNeg then none else
                q_let (sl u 2 (vp_updL (gl u 2) x1.toNatClampNeg x2)) fun u34 =>
                if x1 < 0 ∨ 120 ≤ x1.toNatClampNeg then none else
                q_let (sl u34 3 (vp_updL (gl u34 3) x1.toNatClampNeg x3)) fun u35 =>
                if (1 : Int32) = 0 then
                  some ((1 : Int32), u35)
                else
                  some ((0 : Int32), u35)
              else
                some ((-12 : Int32), u)
        else
          if x1 < 0 ∨ 120 ≤ x1.toNatClampNeg then none else
          q_let (sl u 2 (vp_updL (gl u 2) x1.toNatClampNeg x2)) fun u28 =>
          if x1 < 0 ∨ 120 ≤ x1.toNatClampNeg then none else
          q_let (sl u28 3 (vp_updL (gl u28 3) x1.toNatClampNeg x3)) fun u29 =>
          if (1 : Int32) = 0 then
            some ((1 : Int32), u29)
          else
            some ((0 : Int32), u29)
      else
        if (0 : Int32) = 0 then
          if x2 < (0 : Int64) then
            some ((-12 : Int32), u)
          else
            if x3 ≤ x2 then
              some ((-12 : Int32), u)
            else
              if x3 ≤ (86400 : Int64) then
                if x1 < 0 ∨ 120 ≤ x1.toNatClampNeg then none else
                q_let (sl u 2 (vp_updL (gl u 2) x1.toNatClampNeg x2)) fun u24 =>
                if x1 < 0 ∨ 120 ≤ x1.toNatClampNeg then none else
                q_let (sl u24 3 (vp_updL (gl u24 3) x1.toNatClampNeg x3)) fun u25 =>
                if (0 : Int32) = 0 then
                  some ((1 : Int32), u25)
                else
                  some ((0 : Int32), u25)
              else
                some ((-12 : Int32), u)
        else
          if x1 < 0 ∨ 120 ≤ x1.toNatClampNeg then none else
          q_let (sl u 2 (vp_updL (gl u 2) x1.toNatClampNeg x2)) fun u18 =>
          if x1 < 0 ∨ 120 ≤ x1.toNatClampNeg then none else
          q_let (sl u18 3 (vp_updL (gl u18 3) x1.toNatClampNeg x3)) fun u19 =>
          if (0 : Int32) = 0 then
            some ((1 : Int32), u19)
          else
            some ((0 : Int32), u19)
    else
      if (0 : Int32) = 0 then
        if x2 < (0 : Int64) then
          some ((-12 : Int32), u)
        else
          if x3 ≤ x2 then
            some ((-12 : Int32), u)
          else
            if x3 ≤ (86400 : Int64) then
              if x1 < 0 ∨ 120 ≤ x1.toNatClampNeg then none else
              q_let (sl u 2 (vp_updL (gl u 2) x1.toNatClampNeg x2)) fun u13 =>
              if x1 < 0 ∨ 120 ≤ x1.toNatClampNeg then none else
              q_let (sl u13 3 (vp_updL (gl u13 3) x1.toNatClampNeg x3)) fun u14 =>
              if (0 : Int32) = 0 then
                some ((1 : Int32), u14)
              else
                some ((0 : Int32), u14)
            else
              some ((-12 : Int32), u)
      else
        if x1 < 0 ∨ 120 ≤ x1.toNatClampNeg then none else
        q_let (sl u 2 (vp_updL (gl u 2) x1.toNatClampNeg x2)) fun u7 =>
        if x1 < 0 ∨ 120 ≤ x1.toNatClampNeg then none else
        q_let (sl u7 3 (vp_updL (gl u7 3) x1.toNatClampNeg x3)) fun u8 =>
        if (0 : Int32) = 0 then
          some ((1 : Int32), u8)
        else
          some ((0 : Int32), u8)
def fX0_change (u : gS) (x1 : Int32) (x2 : Int64) : Option (Int32 × gS) :=
  q_b (fX0_isPiece u x1) fun r1 =>
  if r1 = 0 then
    some ((-11 : Int32), u)
  else
    if x2 < (1 : Int64) then
      some ((-12 : Int32), u)
    else
      if x2 ≤ (1000 : Int64) then
        if x1 < 0 ∨ 120 ≤ x1.toNatClampNeg then none else
        q_let ((gl u 1 x1.toNatClampNeg).toInt32) fun v7 =>
        if x1 < 0 ∨ 120 ≤ x1.toNatClampNeg then none else
        q_let (sl u 1 (vp_updL (gl u 1) x1.toNatClampNeg x2)) fun u8 =>
        some (v7, u8)
      else
        some ((-12 : Int32), u)
def fX0_table (u : gS) (x1 : Int32) (x2 : Int32) : Option (Int64 × gS) :=
  q_b (fX0_isStop u x1) fun r1 =>
  if r1 = 0 then
    some ((-11 : Int64), u)
  else
    q_b (fX0_isStop u x2) fun r5 =>
    if r5 = 0 then
      some ((-11 : Int64), u)
    else
      q_b2 (fX0_leastArrival u x1 x2 (0 : Int64)) fun r9 u10 =>
      some (r9, u10)
def fX0_hasStopAtSide_L2_b (rc : gS → Int32 → Int32 → Int32 → Option (Int32)) (u : gS) (y1 : Int32) (y2 : Int32) (y3 : Int32) : Option (Int32) :=
    if (gf u 2) ≤ y3 then
      some (0 : Int32)
    else
      if y3 < 0 ∨ 100 ≤ y3.toNatClampNeg then none else
      if (gi u 2 y3.toNatClampNeg) = y1 then
        if y3 < 0 ∨ 100 ≤ y3.toNatClampNeg then none else
        if (gi u 3 y3.toNatClampNeg) = y2 then
          some (1 : Int32)
        else
          q_let (y3 + (1 : Int32)) fun v5 =>
          rc u y1 y2 v5
      else
        q_let (y3 + (1 : Int32)) fun v3 =>
        rc u y1 y2 v3
def fX0_hasStopAtSide_L2 : Nat → gS → Int32 → Int32 → Int32 → Option (Int32)
  | 0 => fun _ _ _ _ => none
  | n + 1 => fX0_hasStopAtSide_L2_b (fX0_hasStopAtSide_L2 n)
def fX0_hasStopAtSide (u : gS) (x1 : Int32) (x2 : Int32) : Option (Int32) :=
  fX0_hasStopAtSide_L2 200 u x1 x2 (0 : Int32)
def fX0_mayGoOnFrom_L2_b (rc : gS → Int32 → Int32 → Option (Int32)) (u : gS) (y1 : Int32) (y2 : Int32) : Option (Int32) :=
    if (gf u 0) ≤ y2 then
      some (0 : Int32)
    else
      q_b (fX0_mayGoOn u y1 y2) fun r2 =>
      if r2 = 0 then
        q_let (y2 + (1 : Int32)) fun v6 =>
        rc u y1 v6
      else
        some (1 : Int32)
def fX0_mayGoOnFrom_L2 : Nat → gS → Int32 → Int32 → Option (Int32)
  | 0 => fun _ _ _ => none
  | n + 1 => fX0_mayGoOnFrom_L2_b (fX0_mayGoOnFrom_L2 n)
def fX0_mayGoOnFrom (u : gS) (x1 : Int32) : Option (Int32) :=
  fX0_mayGoOnFrom_L2 200 u x1 (0 : Int32)
def fX0_service (u : gS) (x1 : Int32) (x2 : Int32) : Option (Int32) :=
  q_b (fX0_isPiece u x1) fun r1 =>
  if r1 = 0 then
    some (0 : Int32)
  else
    if x2 = (0 : Int32) then
      q_b (fX0_hasStopAtSide u x1 x2) fun r6 =>
      if ¬ vp_nar .boolean r6 = r6 then none else
      some r6
    else
    if x2 = (1 : Int32) then
      q_b (fX0_hasStopAtSide u x1 x2) fun r10 =>
      if ¬ vp_nar .boolean r10 = r10 then none else
      some r10
    else
    if x2 = (2 : Int32) then
      q_b (fX0_hasGate u x1) fun r14 =>
      if ¬ vp_nar .boolean r14 = r14 then none else
      some r14
    else
    if x2 = (3 : Int32) then
      q_b (fX0_mayGoOnFrom u x1) fun r18 =>
      if ¬ vp_nar .boolean r18 = r18 then none else
      some r18
    else
    some (0 : Int32)
