def m_Text_isSite (a0 : Int32) : Option Int32 :=
  (if a0 < 0 then
    some (0 : Int32)
  else
    (if (3 : Int32) ≤ a0 then
      some (0 : Int32)
    else
      some (1 : Int32)))
def m_History_isFull (u : xS) : Option Int32 :=
  (if (xs_i u 0) < (40 : Int32) then
    some (0 : Int32)
  else
    some (1 : Int32))
def m_Text_bit (a0 : Int32) : Option Int64 :=
  some (xShl (1 : Int64) a0)
def m_Text_has (a0 : Int64) (a2 : Int32) : Option Int32 :=
  (if a2 < 0 then
    some (0 : Int32)
  else
    xb1 (m_Text_bit a2) fun r6 =>
    (if (a0 &&& r6) = (0 : Int64) then
      some (0 : Int32)
    else
      some (1 : Int32)))
def m_CharacterList_shownIn_s5 (k5 : Int64 → Int64 → Int32 → xS → Option Int64) (b1 : Int64) (b3 : Int64) (b5 : Int32) (u : xS) : Option Int64 :=
  (if (40 : Int32) ≤ b5 then
    some ((b1 &&& (xs_l u 1)) &&& (b3 ^^^ (-1 : Int64)))
  else
    xb1 (m_Text_has (b1 &&& (xs_l u 0)) b5) fun r20 =>
    (if r20 = 0 then
      k5 b1 b3 (b5 + (1 : Int32)) u
    else
      xg (xin b5 40) <|
      xb1 (m_Text_bit (xs_I u 9 b5.toNatClampNeg)) fun r34 =>
      k5 b1 (b3 ||| r34) (b5 + (1 : Int32)) u))
def m_CharacterList_shownIn_l5 : Nat → Int64 → Int64 → Int32 → xS → Option Int64
  | 0, _, _, _, _ => none
  | n + 1, b1, b3, b5, u => m_CharacterList_shownIn_s5 (m_CharacterList_shownIn_l5 n) b1 b3 b5 u
def m_CharacterList_shownIn (a1 : Int64) (u : xS) : Option Int64 :=
  m_CharacterList_shownIn_l5 xFU a1 (0 : Int64) (0 : Int32) u
def m_Long_bitCount (a0 : Int64) : Option Int32 :=
  some (((((((((((a0 - ((xUshr a0 (1 : Int32)) &&& (6148914691236517205 : Int64))) &&& (3689348814741910323 : Int64)) + ((xUshr (a0 - ((xUshr a0 (1 : Int32)) &&& (6148914691236517205 : Int64))) (2 : Int32)) &&& (3689348814741910323 : Int64))) + (xUshr (((a0 - ((xUshr a0 (1 : Int32)) &&& (6148914691236517205 : Int64))) &&& (3689348814741910323 : Int64)) + ((xUshr (a0 - ((xUshr a0 (1 : Int32)) &&& (6148914691236517205 : Int64))) (2 : Int32)) &&& (3689348814741910323 : Int64))) (4 : Int32))) &&& (1085102592571150095 : Int64)) + (xUshr (((((a0 - ((xUshr a0 (1 : Int32)) &&& (6148914691236517205 : Int64))) &&& (3689348814741910323 : Int64)) + ((xUshr (a0 - ((xUshr a0 (1 : Int32)) &&& (6148914691236517205 : Int64))) (2 : Int32)) &&& (3689348814741910323 : Int64))) + (xUshr (((a0 - ((xUshr a0 (1 : Int32)) &&& (6148914691236517205 : Int64))) &&& (3689348814741910323 : Int64)) + ((xUshr (a0 - ((xUshr a0 (1 : Int32)) &&& (6148914691236517205 : Int64))) (2 : Int32)) &&& (3689348814741910323 : Int64))) (4 : Int32))) &&& (1085102592571150095 : Int64)) (8 : Int32))) + (xUshr ((((((a0 - ((xUshr a0 (1 : Int32)) &&& (6148914691236517205 : Int64))) &&& (3689348814741910323 : Int64)) + ((xUshr (a0 - ((xUshr a0 (1 : Int32)) &&& (6148914691236517205 : Int64))) (2 : Int32)) &&& (3689348814741910323 : Int64))) + (xUshr (((a0 - ((xUshr a0 (1 : Int32)) &&& (6148914691236517205 : Int64))) &&& (3689348814741910323 : Int64)) + ((xUshr (a0 - ((xUshr a0 (1 : Int32)) &&& (6148914691236517205 : Int64))) (2 : Int32)) &&& (3689348814741910323 : Int64))) (4 : Int32))) &&& (1085102592571150095 : Int64)) + (xUshr (((((a0 - ((xUshr a0 (1 : Int32)) &&& (6148914691236517205 : Int64))) &&& (3689348814741910323 : Int64)) + ((xUshr (a0 - ((xUshr a0 (1 : Int32)) &&& (6148914691236517205 : Int64))) (2 : Int32)) &&& (3689348814741910323 : Int64))) + (xUshr (((a0 - ((xUshr a0 (1 : Int32)) &&& (6148914691236517205 : Int64))) &&& (3689348814741910323 : Int64)) + ((xUshr (a0 - ((xUshr a0 (1 : Int32)) &&& (6148914691236517205 : Int64))) (2 : Int32)) &&& (3689348814741910323 : Int64))) (4 : Int32))) &&& (1085102592571150095 : Int64)) (8 : Int32))) (16 : Int32))) + (xUshr (((((((a0 - ((xUshr a0 (1 : Int32)) &&& (6148914691236517205 : Int64))) &&& (3689348814741910323 : Int64)) + ((xUshr (a0 - ((xUshr a0 (1 : Int32)) &&& (6148914691236517205 : Int64))) (2 : Int32)) &&& (3689348814741910323 : Int64))) + (xUshr (((a0 - ((xUshr a0 (1 : Int32)) &&& (6148914691236517205 : Int64))) &&& (3689348814741910323 : Int64)) + ((xUshr (a0 - ((xUshr a0 (1 : Int32)) &&& (6148914691236517205 : Int64))) (2 : Int32)) &&& (3689348814741910323 : Int64))) (4 : Int32))) &&& (1085102592571150095 : Int64)) + (xUshr (((((a0 - ((xUshr a0 (1 : Int32)) &&& (6148914691236517205 : Int64))) &&& (3689348814741910323 : Int64)) + ((xUshr (a0 - ((xUshr a0 (1 : Int32)) &&& (6148914691236517205 : Int64))) (2 : Int32)) &&& (3689348814741910323 : Int64))) + (xUshr (((a0 - ((xUshr a0 (1 : Int32)) &&& (6148914691236517205 : Int64))) &&& (3689348814741910323 : Int64)) + ((xUshr (a0 - ((xUshr a0 (1 : Int32)) &&& (6148914691236517205 : Int64))) (2 : Int32)) &&& (3689348814741910323 : Int64))) (4 : Int32))) &&& (1085102592571150095 : Int64)) (8 : Int32))) + (xUshr ((((((a0 - ((xUshr a0 (1 : Int32)) &&& (6148914691236517205 : Int64))) &&& (3689348814741910323 : Int64)) + ((xUshr (a0 - ((xUshr a0 (1 : Int32)) &&& (6148914691236517205 : Int64))) (2 : Int32)) &&& (3689348814741910323 : Int64))) + (xUshr (((a0 - ((xUshr a0 (1 : Int32)) &&& (6148914691236517205 : Int64))) &&& (3689348814741910323 : Int64)) + ((xUshr (a0 - ((xUshr a0 (1 : Int32)) &&& (6148914691236517205 : Int64))) (2 : Int32)) &&& (3689348814741910323 : Int64))) (4 : Int32))) &&& (1085102592571150095 : Int64)) + (xUshr (((((a0 - ((xUshr a0 (1 : Int32)) &&& (6148914691236517205 : Int64))) &&& (3689348814741910323 : Int64)) + ((xUshr (a0 - ((xUshr a0 (1 : Int32)) &&& (6148914691236517205 : Int64))) (2 : Int32)) &&& (3689348814741910323 : Int64))) + (xUshr (((a0 - ((xUshr a0 (1 : Int32)) &&& (6148914691236517205 : Int64))) &&& (3689348814741910323 : Int64)) + ((xUshr (a0 - ((xUshr a0 (1 : Int32)) &&& (6148914691236517205 : Int64))) (2 : Int32)) &&& (3689348814741910323 : Int64))) (4 : Int32))) &&& (1085102592571150095 : Int64)) (8 : Int32))) (16 : Int32))) (32 : Int32)))).toInt32) &&& (127 : Int32))
def m_CharacterList_shownAt_s6 (k6 : Int64 → Int32 → Int32 → Int32 → xS → Option Int32) (b1 : Int64) (b3 : Int32) (b4 : Int32) (b5 : Int32) (u : xS) : Option Int32 :=
  (if (xs_i u 1) ≤ b5 then
    some (-1 : Int32)
  else
    xg (xin b5 40) <|
    xb1 (m_Text_has b1 (xs_I u 6 b5.toNatClampNeg)) fun r23 =>
    (if r23 = 0 then
      k6 b1 b3 b4 (b5 + (1 : Int32)) u
    else
      (if b4 = b3 then
        some (xs_I u 6 b5.toNatClampNeg)
      else
        k6 b1 b3 (b4 + (1 : Int32)) (b5 + (1 : Int32)) u)))
def m_CharacterList_shownAt_l6 : Nat → Int64 → Int32 → Int32 → Int32 → xS → Option Int32
  | 0, _, _, _, _, _ => none
  | n + 1, b1, b3, b4, b5, u => m_CharacterList_shownAt_s6 (m_CharacterList_shownAt_l6 n) b1 b3 b4 b5 u
def m_CharacterList_shownAt (a1 : Int64) (a3 : Int32) (u : xS) : Option Int32 :=
  m_CharacterList_shownAt_l6 xFU a1 a3 (0 : Int32) (0 : Int32) u
def m_History_parentsOfAll_s5 (k5 : Int64 → Int64 → Int32 → xS → Option Int64) (b1 : Int64) (b3 : Int64) (b5 : Int32) (u : xS) : Option Int64 :=
  (if (xs_i u 0) ≤ b5 then
    some b3
  else
    xb1 (m_Text_has b1 b5) fun r17 =>
    (if r17 = 0 then
      k5 b1 b3 (b5 + (1 : Int32)) u
    else
      xg (xin b5 40) <|
      k5 b1 (b3 ||| (xs_L u 0 b5.toNatClampNeg)) (b5 + (1 : Int32)) u))
def m_History_parentsOfAll_l5 : Nat → Int64 → Int64 → Int32 → xS → Option Int64
  | 0, _, _, _, _ => none
  | n + 1, b1, b3, b5, u => m_History_parentsOfAll_s5 (m_History_parentsOfAll_l5 n) b1 b3 b5 u
def m_History_parentsOfAll (a1 : Int64) (u : xS) : Option Int64 :=
  m_History_parentsOfAll_l5 xFU a1 (0 : Int64) (0 : Int32) u
def m_History_headsOf (a1 : Int64) (u : xS) : Option Int64 :=
  xb1 (m_History_parentsOfAll a1 u) fun r3 =>
  some (a1 &&& (r3 ^^^ (-1 : Int64)))
def m_History_record (a1 : Int32) (a2 : Int32) (a3 : Int32) (a4 : Int64) (u : xS) : Option (Int32 × xS) :=
  xg (xin (xs_i u 0) 40) <|
  xlt (xs_sI u 0 (xs_i u 0).toNatClampNeg a1) fun w13 =>
  xg (xin a1 3) <|
  xlt (xs_sI w13 1 (xs_i u 0).toNatClampNeg (xs_I w13 5 a1.toNatClampNeg)) fun w26 =>
  xlt (xs_sI w26 2 (xs_i u 0).toNatClampNeg a2) fun w34 =>
  xlt (xs_sI w34 3 (xs_i u 0).toNatClampNeg a3) fun w42 =>
  xb1 (m_History_headsOf a4 w42) fun r52 =>
  xlt (xs_sL w42 0 (xs_i u 0).toNatClampNeg r52) fun w55 =>
  xlt (xs_sL w55 1 (xs_i u 0).toNatClampNeg a4) fun w64 =>
  xg (xin ((a1 * (40 : Int32)) + (xs_I w64 5 a1.toNatClampNeg)) 120) <|
  xlt (xs_sI w64 4 ((a1 * (40 : Int32)) + (xs_I w64 5 a1.toNatClampNeg)).toNatClampNeg (xs_i u 0)) fun w82 =>
  xlt (xs_sI w82 5 a1.toNatClampNeg ((xs_I w82 5 a1.toNatClampNeg) + (1 : Int32))) fun w92 =>
  xlt (xs_si w92 0 ((xs_i w92 0) + (1 : Int32))) fun w100 =>
  some ((xs_i u 0), w100)
def m_CharacterList_childrenOf_s5 (k5 : Int32 → Int32 → Int64 → Int32 → xS → Option Int64) (b1 : Int32) (b2 : Int32) (b3 : Int64) (b5 : Int32) (u : xS) : Option Int64 :=
  (if (xs_i u 1) ≤ b5 then
    some b3
  else
    xg (xin b5 40) <|
    xg (xin (xs_I u 6 b5.toNatClampNeg) 40) <|
    (if (xs_I u 7 (xs_I u 6 b5.toNatClampNeg).toNatClampNeg) = b1 then
      (if (xs_I u 8 (xs_I u 6 b5.toNatClampNeg).toNatClampNeg) = b2 then
        xb1 (m_Text_bit (xs_I u 6 b5.toNatClampNeg)) fun r48 =>
        k5 b1 b2 (b3 ||| r48) (b5 + (1 : Int32)) u
      else
        k5 b1 b2 b3 (b5 + (1 : Int32)) u)
    else
      k5 b1 b2 b3 (b5 + (1 : Int32)) u))
def m_CharacterList_childrenOf_l5 : Nat → Int32 → Int32 → Int64 → Int32 → xS → Option Int64
  | 0, _, _, _, _, _ => none
  | n + 1, b1, b2, b3, b5, u => m_CharacterList_childrenOf_s5 (m_CharacterList_childrenOf_l5 n) b1 b2 b3 b5 u
def m_CharacterList_childrenOf (a1 : Int32) (a2 : Int32) (u : xS) : Option Int64 :=
  m_CharacterList_childrenOf_l5 xFU a1 a2 (0 : Int64) (0 : Int32) u
def m_CharacterList_nextBehind_b51 (k15 : Int32 → Int64 → Int32 → Int32 → xS → Option Int32) (b1 : Int32) (b2 : Int64) (b4 : Int32) (b5 : Int32) (u : xS) : Option Int32 :=
  (if b4 = 0 then
    xg (xin b5 40) <|
    (if (xs_I u 6 b5.toNatClampNeg) = b1 then
      k15 b1 b2 (1 : Int32) (b5 + (1 : Int32)) u
    else
      k15 b1 b2 (0 : Int32) (b5 + (1 : Int32)) u)
  else
    k15 b1 b2 (1 : Int32) (b5 + (1 : Int32)) u)
def m_CharacterList_nextBehind_s15 (k15 : Int32 → Int64 → Int32 → Int32 → xS → Option Int32) (b1 : Int32) (b2 : Int64) (b4 : Int32) (b5 : Int32) (u : xS) : Option Int32 :=
  (if (xs_i u 1) ≤ b5 then
    some (-1 : Int32)
  else
    (if b4 = 0 then
      m_CharacterList_nextBehind_b51 k15 b1 b2 b4 b5 u
    else
      xg (xin b5 40) <|
      xb1 (m_Text_has b2 (xs_I u 6 b5.toNatClampNeg)) fun r37 =>
      (if r37 = 0 then
        m_CharacterList_nextBehind_b51 k15 b1 b2 b4 b5 u
      else
        some (xs_I u 6 b5.toNatClampNeg))))
def m_CharacterList_nextBehind_l15 : Nat → Int32 → Int64 → Int32 → Int32 → xS → Option Int32
  | 0, _, _, _, _, _ => none
  | n + 1, b1, b2, b4, b5, u => m_CharacterList_nextBehind_s15 (m_CharacterList_nextBehind_l15 n) b1 b2 b4 b5 u
def m_CharacterList_nextBehind (a1 : Int32) (a2 : Int64) (u : xS) : Option Int32 :=
  (if a1 = (-1 : Int32) then
    m_CharacterList_nextBehind_l15 xFU a1 a2 (1 : Int32) (0 : Int32) u
  else
    m_CharacterList_nextBehind_l15 xFU a1 a2 (0 : Int32) (0 : Int32) u)
def m_History_comesBefore (a1 : Int32) (a2 : Int32) (u : xS) : Option Int32 :=
  xg (xin a1 40) <|
  xg (xin a2 40) <|
  (if (xs_I u 0 a1.toNatClampNeg) = (xs_I u 0 a2.toNatClampNeg) then
    (if (xs_I u 1 a2.toNatClampNeg) ≤ (xs_I u 1 a1.toNatClampNeg) then
      some (0 : Int32)
    else
      some (1 : Int32))
  else
    (if (xs_I u 0 a2.toNatClampNeg) ≤ (xs_I u 0 a1.toNatClampNeg) then
      some (0 : Int32)
    else
      some (1 : Int32)))
def m_CharacterList_nearerSiblings_s15 (k15 : Int32 → Int32 → Int64 → Int64 → Int32 → xS → Option Int64) (b2 : Int32) (b4 : Int32) (b5 : Int64) (b7 : Int64) (b9 : Int32) (u : xS) : Option Int64 :=
  (if (xs_i u 1) ≤ b9 then
    some b7
  else
    xg (xin b9 40) <|
    xb1 (m_Text_has b5 (xs_I u 6 b9.toNatClampNeg)) fun r37 =>
    (if r37 = 0 then
      k15 b2 b4 b5 b7 (b9 + (1 : Int32)) u
    else
      xb1 (m_History_comesBefore (xs_I u 6 b9.toNatClampNeg) b2 u) fun r47 =>
      (if r47 = b4 then
        xb1 (m_Text_bit (xs_I u 6 b9.toNatClampNeg)) fun r59 =>
        k15 b2 b4 b5 (b7 ||| r59) (b9 + (1 : Int32)) u
      else
        k15 b2 b4 b5 b7 (b9 + (1 : Int32)) u)))
def m_CharacterList_nearerSiblings_l15 : Nat → Int32 → Int32 → Int64 → Int64 → Int32 → xS → Option Int64
  | 0, _, _, _, _, _, _ => none
  | n + 1, b2, b4, b5, b7, b9, u => m_CharacterList_nearerSiblings_s15 (m_CharacterList_nearerSiblings_l15 n) b2 b4 b5 b7 b9 u
def m_CharacterList_nearerSiblings (a2 : Int32) (a3 : Int32) (a4 : Int32) (u : xS) : Option Int64 :=
  xb1 (m_CharacterList_childrenOf a3 a4 u) fun r4 =>
  m_CharacterList_nearerSiblings_l15 xFU a2 a4 r4 (0 : Int64) (0 : Int32) u
def m_CharacterList_rightPosition_s16 (k16 : Int32 → Int64 → Int32 → xS → Option Int32) (b3 : Int32) (b4 : Int64) (b6 : Int32) (u : xS) : Option Int32 :=
  (if b6 ≤ 0 then
    some b6
  else
    xg (xin (b6 - (1 : Int32)) 40) <|
    (if (xs_I u 6 (b6 - (1 : Int32)).toNatClampNeg) = b3 then
      some b6
    else
      xg (xin (xs_I u 6 (b6 - (1 : Int32)).toNatClampNeg) 40) <|
      (if ((xs_L u 2 (xs_I u 6 (b6 - (1 : Int32)).toNatClampNeg).toNatClampNeg) &&& b4) = (0 : Int64) then
        k16 b3 b4 (b6 + (-1 : Int32)) u
      else
        some b6)))
def m_CharacterList_rightPosition_l16 : Nat → Int32 → Int64 → Int32 → xS → Option Int32
  | 0, _, _, _, _ => none
  | n + 1, b3, b4, b6, u => m_CharacterList_rightPosition_s16 (m_CharacterList_rightPosition_l16 n) b3 b4 b6 u
def m_CharacterList_rightPosition (a2 : Int32) (a3 : Int32) (u : xS) : Option Int32 :=
  xb1 (m_CharacterList_nearerSiblings a2 a3 (1 : Int32) u) fun r5 =>
  m_CharacterList_rightPosition_l16 xFU a3 r5 (xs_i u 1) u
def m_CharacterList_leftPosition_s13 (k13 : Int32 → Int64 → Int32 → xS → Option Int32) (b3 : Int32) (b4 : Int64) (b6 : Int32) (u : xS) : Option Int32 :=
  (if (xs_i u 1) ≤ b6 then
    some b6
  else
    xg (xin b6 40) <|
    (if (xs_I u 6 b6.toNatClampNeg) = b3 then
      some b6
    else
      xg (xin (xs_I u 6 b6.toNatClampNeg) 40) <|
      (if ((xs_L u 2 (xs_I u 6 b6.toNatClampNeg).toNatClampNeg) &&& b4) = (0 : Int64) then
        k13 b3 b4 (b6 + (1 : Int32)) u
      else
        some b6)))
def m_CharacterList_leftPosition_l13 : Nat → Int32 → Int64 → Int32 → xS → Option Int32
  | 0, _, _, _, _ => none
  | n + 1, b3, b4, b6, u => m_CharacterList_leftPosition_s13 (m_CharacterList_leftPosition_l13 n) b3 b4 b6 u
def m_CharacterList_leftPosition (a2 : Int32) (a3 : Int32) (u : xS) : Option Int32 :=
  xb1 (m_CharacterList_nearerSiblings a2 a3 (0 : Int32) u) fun r5 =>
  m_CharacterList_leftPosition_l13 xFU a3 r5 (0 : Int32) u
def m_CharacterList_putBehind_s115 (k115 : Int32 → Int32 → Int32 → xS → Option xS) (b2 : Int32) (b8 : Int32) (b9 : Int32) (u : xS) : Option xS :=
  (if b9 ≤ b8 then
    xg (xin b8 40) <|
    xlt (xs_sI u 6 b8.toNatClampNeg b2) fun w151 =>
    xb1 (m_Text_bit b2) fun r158 =>
    xlt (xs_sl w151 1 ((xs_l w151 1) ||| r158)) fun w162 =>
    xlt (xs_si w162 1 ((xs_i w162 1) + (1 : Int32))) fun w172 =>
    some w172
  else
    xg (xin (b9 - (1 : Int32)) 40) <|
    xg (xin b9 40) <|
    xlt (xs_sI u 6 b9.toNatClampNeg (xs_I u 6 (b9 - (1 : Int32)).toNatClampNeg)) fun w137 =>
    k115 b2 b8 (b9 + (-1 : Int32)) w137)
def m_CharacterList_putBehind_l115 : Nat → Int32 → Int32 → Int32 → xS → Option xS
  | 0, _, _, _, _ => none
  | n + 1, b2, b8, b9, u => m_CharacterList_putBehind_s115 (m_CharacterList_putBehind_l115 n) b2 b8 b9 u
def m_CharacterList_putBehind_b81 (b2 : Int32) (b6 : Int32) (b7 : Int32) (t0 : Int64) (t1 : Int64) (t2 : Int32) (u : xS) : Option xS :=
  xg (xin t2 40) <|
  xlt (xs_sL u 2 t2.toNatClampNeg (t1 ||| t0)) fun w82 =>
  (if b6 = 0 then
    xb1 (m_CharacterList_leftPosition b2 b7 w82) fun r104 =>
    m_CharacterList_putBehind_l115 xFU b2 r104 (xs_i w82 1) w82
  else
    xb1 (m_CharacterList_rightPosition b2 b7 w82) fun r93 =>
    m_CharacterList_putBehind_l115 xFU b2 r93 (xs_i w82 1) w82)
def m_CharacterList_putBehind_b37 (b2 : Int32) (b6 : Int32) (t0 : Int32) (u : xS) : Option xS :=
  xg (xin b2 40) <|
  xlt (xs_sI u 7 b2.toNatClampNeg t0) fun w46 =>
  xlt (xs_sI w46 8 b2.toNatClampNeg (vp_nar .boolean b6)) fun w54 =>
  xb1 (m_Text_bit b2) fun r61 =>
  (if t0 = (-1 : Int32) then
    m_CharacterList_putBehind_b81 b2 b6 t0 (0 : Int64) r61 b2 w54
  else
    xg (xin t0 40) <|
    m_CharacterList_putBehind_b81 b2 b6 t0 (xs_L w54 2 t0.toNatClampNeg) r61 b2 w54)
def m_CharacterList_putBehind_b19 (b2 : Int32) (b3 : Int32) (b4 : Int64) (t0 : Int32) (u : xS) : Option xS :=
  (if t0 = 0 then
    xb1 (m_CharacterList_nextBehind b3 b4 u) fun r34 =>
    m_CharacterList_putBehind_b37 b2 t0 r34 u
  else
    m_CharacterList_putBehind_b37 b2 t0 b3 u)
def m_CharacterList_putBehind (a2 : Int32) (a3 : Int32) (a4 : Int64) (u : xS) : Option xS :=
  xb1 (m_CharacterList_childrenOf a3 (1 : Int32) u) fun r3 =>
  (if (r3 &&& a4) = (0 : Int64) then
    m_CharacterList_putBehind_b19 a2 a3 a4 (1 : Int32) u
  else
    m_CharacterList_putBehind_b19 a2 a3 a4 (0 : Int32) u)
def m_History_numberOf (a1 : Int32) (u : xS) : Option Int32 :=
  xg (xin a1 40) <|
  some (xs_I u 1 a1.toNatClampNeg)
def m_Text_insert_b92 (b1 : Int32) (b2 : Int32) (b3 : Int32) (b4 : Int64) (t0 : Int32) (u : xS) : Option (Int32 × xS) :=
  xb2 (m_History_record b1 b2 b3 b4 u) fun r103 u103 =>
  xb1 (m_CharacterList_putBehind r103 t0 b4 u103) fun u122 =>
  xg (xin b1 3) <|
  xb1 (m_Text_bit r103) fun r135 =>
  xlt (xs_sl u122 (2 + (b1.toNatClampNeg)) (b4 ||| r135)) fun w139 =>
  xb1 (m_History_numberOf r103 w139) fun r148 =>
  some (r148, w139)
def m_Text_insert (a1 : Int32) (a2 : Int32) (a3 : Int32) (u : xS) : Option (Int32 × xS) :=
  xb1 (m_Text_isSite a1) fun r1 =>
  (if r1 = 0 then
    some ((-1000 : Int32), u)
  else
    (if a3 < (32 : Int32) then
      some ((-1000 : Int32), u)
    else
      (if (126 : Int32) < a3 then
        some ((-1000 : Int32), u)
      else
        xb1 (m_History_isFull u) fun r23 =>
        (if r23 = 0 then
          xg (xin a1 3) <|
          xb1 (m_CharacterList_shownIn (xs_l u (2 + (a1.toNatClampNeg))) u) fun r50 =>
          (if a2 < 0 then
            some ((-1000 : Int32), u)
          else
            xb1 (m_Long_bitCount r50) fun r62 =>
            (if a2 ≤ r62 then
              (if a2 = 0 then
                m_Text_insert_b92 a1 a2 a3 (xs_l u (2 + (a1.toNatClampNeg))) (-1 : Int32) u
              else
                xb1 (m_CharacterList_shownAt r50 (a2 - (1 : Int32)) u) fun r89 =>
                m_Text_insert_b92 a1 a2 a3 (xs_l u (2 + (a1.toNatClampNeg))) r89 u)
            else
              some ((-1000 : Int32), u)))
        else
          some ((-1000 : Int32), u)))))
def m_CharacterList_hide (a1 : Int32) (a2 : Int32) (u : xS) : Option xS :=
  xg (xin a1 40) <|
  xlt (xs_sI u 9 a1.toNatClampNeg a2) fun w6 =>
  xb1 (m_Text_bit a1) fun r13 =>
  xlt (xs_sl w6 0 ((xs_l w6 0) ||| r13)) fun w17 =>
  some w17
def m_Text_delete (a1 : Int32) (a2 : Int32) (u : xS) : Option (Int32 × xS) :=
  xb1 (m_Text_isSite a1) fun r1 =>
  (if r1 = 0 then
    some ((-1000 : Int32), u)
  else
    xb1 (m_History_isFull u) fun r11 =>
    (if r11 = 0 then
      xg (xin a1 3) <|
      xb1 (m_CharacterList_shownIn (xs_l u (2 + (a1.toNatClampNeg))) u) fun r40 =>
      xb1 (m_CharacterList_shownAt r40 a2 u) fun r44 =>
      (if r44 = (-1 : Int32) then
        some ((-1000 : Int32), u)
      else
        xb2 (m_History_record a1 a2 (-1 : Int32) (xs_l u (2 + (a1.toNatClampNeg))) u) fun r67 u67 =>
        xb1 (m_CharacterList_hide r67 r44 u67) fun u80 =>
        xb1 (m_Text_bit r67) fun r92 =>
        xlt (xs_sl u80 (2 + (a1.toNatClampNeg)) ((xs_l u (2 + (a1.toNatClampNeg))) ||| r92)) fun w96 =>
        xb1 (m_History_numberOf r67 w96) fun r105 =>
        some (r105, w96))
    else
      some ((-1000 : Int32), u)))
def m_Text_length (a1 : Int32) (u : xS) : Option Int32 :=
  xb1 (m_Text_isSite a1) fun r1 =>
  (if r1 = 0 then
    some (-1000 : Int32)
  else
    xg (xin a1 3) <|
    xb1 (m_CharacterList_shownIn (xs_l u (2 + (a1.toNatClampNeg))) u) fun r20 =>
    xb1 (m_Long_bitCount r20) fun r23 =>
    some r23)
def m_History_characterOf (a1 : Int32) (u : xS) : Option Int32 :=
  xg (xin a1 40) <|
  some (xs_I u 3 a1.toNatClampNeg)
def m_Text_at (a1 : Int32) (a2 : Int32) (u : xS) : Option Int32 :=
  xb1 (m_Text_isSite a1) fun r1 =>
  (if r1 = 0 then
    some (-1000 : Int32)
  else
    xg (xin a1 3) <|
    xb1 (m_CharacterList_shownIn (xs_l u (2 + (a1.toNatClampNeg))) u) fun r28 =>
    xb1 (m_CharacterList_shownAt r28 a2 u) fun r32 =>
    (if r32 = (-1 : Int32) then
      some (-1000 : Int32)
    else
      xb1 (m_History_characterOf r32 u) fun r52 =>
      some r52))
def m_Text_areTwoSites (a0 : Int32) (a1 : Int32) : Option Int32 :=
  xb1 (m_Text_isSite a0) fun r1 =>
  (if r1 = 0 then
    some (0 : Int32)
  else
    xb1 (m_Text_isSite a1) fun r8 =>
    (if r8 = 0 then
      some (0 : Int32)
    else
      (if a0 = a1 then
        some (0 : Int32)
      else
        some (1 : Int32))))
def m_Text_freeNumber_s2 (k2 : Int32 → xS → Option Int32) (b1 : Int32) (u : xS) : Option Int32 :=
  (if (6 : Int32) ≤ b1 then
    some b1
  else
    xg (xin b1 6) <|
    (if (xs_i u (12 + (b1.toNatClampNeg))) = 0 then
      some b1
    else
      k2 (b1 + (1 : Int32)) u))
def m_Text_freeNumber_l2 : Nat → Int32 → xS → Option Int32
  | 0, _, _ => none
  | n + 1, b1, u => m_Text_freeNumber_s2 (m_Text_freeNumber_l2 n) b1 u
def m_Text_freeNumber (u : xS) : Option Int32 :=
  m_Text_freeNumber_l2 xFU (0 : Int32) u
def m_History_leastOf_s5 (k5 : Int64 → Int32 → Int32 → xS → Option Int32) (b1 : Int64) (b3 : Int32) (b4 : Int32) (u : xS) : Option Int32 :=
  (if (xs_i u 0) ≤ b4 then
    some b3
  else
    xb1 (m_Text_has b1 b4) fun r17 =>
    (if r17 = 0 then
      k5 b1 b3 (b4 + (1 : Int32)) u
    else
      (if b3 = (-1 : Int32) then
        k5 b1 b4 (b4 + (1 : Int32)) u
      else
        xb1 (m_History_comesBefore b4 b3 u) fun r32 =>
        (if r32 = 0 then
          k5 b1 b3 (b4 + (1 : Int32)) u
        else
          k5 b1 b4 (b4 + (1 : Int32)) u))))
def m_History_leastOf_l5 : Nat → Int64 → Int32 → Int32 → xS → Option Int32
  | 0, _, _, _, _ => none
  | n + 1, b1, b3, b4, u => m_History_leastOf_s5 (m_History_leastOf_l5 n) b1 b3 b4 u
def m_History_leastOf (a1 : Int64) (u : xS) : Option Int32 :=
  m_History_leastOf_l5 xFU a1 (-1 : Int32) (0 : Int32) u
def m_History_nextOf_b96 (t0 : Int64) (u : xS) : Option Int32 :=
  xb1 (m_History_leastOf t0 u) fun r96 =>
  some r96
def m_History_nextOf_s9 (k9 : Int64 → Int32 → Int64 → Int64 → Int32 → xS → Option Int32) (b1 : Int64) (b3 : Int32) (b4 : Int64) (b6 : Int64) (b8 : Int32) (u : xS) : Option Int32 :=
  (if (xs_i u 0) ≤ b8 then
    (if b6 = (0 : Int64) then
      m_History_nextOf_b96 b4 u
    else
      m_History_nextOf_b96 b6 u)
  else
    xb1 (m_Text_has b1 b8) fun r21 =>
    (if r21 = 0 then
      k9 b1 b3 b4 b6 (b8 + (1 : Int32)) u
    else
      xg (xin b8 40) <|
      (if ((xs_L u 0 b8.toNatClampNeg) &&& b1) = (0 : Int64) then
        xb1 (m_Text_bit b8) fun r45 =>
        xb1 (m_Text_has (xs_L u 0 b8.toNatClampNeg) b3) fun r59 =>
        (if r59 = 0 then
          k9 b1 b3 (b4 ||| r45) b6 (b8 + (1 : Int32)) u
        else
          xb1 (m_Text_bit b8) fun r69 =>
          k9 b1 b3 (b4 ||| r45) (b6 ||| r69) (b8 + (1 : Int32)) u)
      else
        k9 b1 b3 b4 b6 (b8 + (1 : Int32)) u)))
def m_History_nextOf_l9 : Nat → Int64 → Int32 → Int64 → Int64 → Int32 → xS → Option Int32
  | 0, _, _, _, _, _, _ => none
  | n + 1, b1, b3, b4, b6, b8, u => m_History_nextOf_s9 (m_History_nextOf_l9 n) b1 b3 b4 b6 b8 u
def m_History_nextOf (a1 : Int64) (a3 : Int32) (u : xS) : Option Int32 :=
  m_History_nextOf_l9 xFU a1 a3 (0 : Int64) (0 : Int64) (0 : Int32) u
def m_Line_arrange_s17 (k17 : Int64 → Int32 → xS → Option xS) (b4 : Int64) (b6 : Int32) (u : xS) : Option xS :=
  (if (40 : Int32) ≤ (xs_i u 2) then
    some u
  else
    (if b6 = (-1 : Int32) then
      some u
    else
      xg (xin (xs_i u 2) 40) <|
      xlt (xs_sI u 10 (xs_i u 2).toNatClampNeg b6) fun w42 =>
      xlt (xs_si w42 2 ((xs_i w42 2) + (1 : Int32))) fun w50 =>
      xb1 (m_Text_bit b6) fun r57 =>
      xb1 (m_History_nextOf (b4 &&& (r57 ^^^ (-1 : Int64))) b6 w50) fun r72 =>
      k17 (b4 &&& (r57 ^^^ (-1 : Int64))) r72 w50))
def m_Line_arrange_l17 : Nat → Int64 → Int32 → xS → Option xS
  | 0, _, _, _ => none
  | n + 1, b4, b6, u => m_Line_arrange_s17 (m_Line_arrange_l17 n) b4 b6 u
def m_Line_arrange (a2 : Int64) (u : xS) : Option xS :=
  xb1 (m_History_nextOf a2 (-1 : Int32) u) fun r7 =>
  xlt (xs_si u 2 (0 : Int32)) fun w14 =>
  m_Line_arrange_l17 xFU a2 r7 w14
def m_Message_start (j : Nat) (a1 : Int32) (a2 : Int32) (a3 : Int64) (u : xS) : Option xS :=
  xlt (xs_si u (12 + j) (1 : Int32)) fun w2 =>
  xlt (xs_si w2 (18 + j) a1) fun w7 =>
  xlt (xs_si w7 (24 + j) a2) fun w12 =>
  xlt (xs_sl w12 (5 + j) a3) fun w17 =>
  some w17
def m_OctetRow_clear (j : Nat) (u : xS) : Option xS :=
  xlt (xs_si u (30 + j) (0 : Int32)) fun w2 =>
  some w2
def m_Line_size (u : xS) : Option Int32 :=
  some (xs_i u 2)
def m_OctetRow_add (j : Nat) (a1 : Int32) (u : xS) : Option xS :=
  (if (442 : Int32) ≤ (xs_i u (30 + j)) then
    some u
  else
    xg (xin (xs_i u (30 + j)) 442) <|
    xlt (xs_sI u (14 + j) (xs_i u (30 + j)).toNatClampNeg a1) fun w19 =>
    xlt (xs_si w19 (30 + j) ((xs_i w19 (30 + j)) + (1 : Int32))) fun w27 =>
    some w27)
def m_OctetRow_put_b38 (j : Nat) (b2 : Int32) (u : xS) : Option xS :=
  xb1 (m_OctetRow_add j b2 u) fun u40 =>
  some u40
def m_OctetRow_put_s4 (k4 : Nat → Int32 → Int32 → xS → Option xS) (j : Nat) (b2 : Int32) (b3 : Int32) (u : xS) : Option xS :=
  (if (5 : Int32) ≤ b3 then
    m_OctetRow_put_b38 j b2 u
  else
    (if b2 ≤ (127 : Int32) then
      m_OctetRow_put_b38 j b2 u
    else
      xb1 (m_OctetRow_add j ((128 : Int32) + (b2 &&& (127 : Int32))) u) fun u24 =>
      k4 j (b2 >>> ((7 : Int32) &&& 31)) (b3 + (1 : Int32)) u24))
def m_OctetRow_put_l4 : Nat → Nat → Int32 → Int32 → xS → Option xS
  | 0, _, _, _, _ => none
  | n + 1, j, b2, b3, u => m_OctetRow_put_s4 (m_OctetRow_put_l4 n) j b2 b3 u
def m_OctetRow_put (j : Nat) (a1 : Int32) (u : xS) : Option xS :=
  m_OctetRow_put_l4 xFU j a1 (1 : Int32) u
def m_Line_get (a1 : Int32) (u : xS) : Option Int32 :=
  xg (xin a1 40) <|
  some (xs_I u 10 a1.toNatClampNeg)
def m_History_siteOf (a1 : Int32) (u : xS) : Option Int32 :=
  xg (xin a1 40) <|
  some (xs_I u 0 a1.toNatClampNeg)
def m_Message_writeSites_b49 (k5 : Nat → Int32 → Int32 → xS → Option xS) (j : Nat) (b3 : Int32) (b4 : Int32) (b5 : Int32) (u : xS) : Option xS :=
  xb1 (m_OctetRow_put j b5 u) fun u55 =>
  xb1 (m_Line_get b3 u55) fun r65 =>
  xb1 (m_History_numberOf r65 u55) fun r68 =>
  xb1 (m_OctetRow_put j r68 u55) fun u71 =>
  xb1 (m_OctetRow_put j (b4 - b3) u71) fun u82 =>
  k5 j b4 (b4 + (1 : Int32)) u82
def m_Message_writeSites_s5 (k5 : Nat → Int32 → Int32 → xS → Option xS) (j : Nat) (b3 : Int32) (b4 : Int32) (u : xS) : Option xS :=
  xb1 (m_Line_size u) fun r8 =>
  (if r8 < b4 then
    some u
  else
    xb1 (m_Line_get b3 u) fun r17 =>
    xb1 (m_History_siteOf r17 u) fun r20 =>
    xb1 (m_Line_size u) fun r28 =>
    (if b4 = r28 then
      m_Message_writeSites_b49 k5 j b3 b4 r20 u
    else
      xb1 (m_Line_get b4 u) fun r38 =>
      xb1 (m_History_siteOf r38 u) fun r41 =>
      (if r41 = r20 then
        k5 j b3 (b4 + (1 : Int32)) u
      else
        m_Message_writeSites_b49 k5 j b3 b4 r20 u)))
def m_Message_writeSites_l5 : Nat → Nat → Int32 → Int32 → xS → Option xS
  | 0, _, _, _, _ => none
  | n + 1, j, b3, b4, u => m_Message_writeSites_s5 (m_Message_writeSites_l5 n) j b3 b4 u
def m_Message_writeSites (j : Nat) (u : xS) : Option xS :=
  m_Message_writeSites_l5 xFU j (0 : Int32) (1 : Int32) u
def m_History_isInsert (a1 : Int32) (u : xS) : Option Int32 :=
  xg (xin a1 40) <|
  (if (xs_I u 3 a1.toNatClampNeg) = (-1 : Int32) then
    some (0 : Int32)
  else
    some (1 : Int32))
def m_Message_writeKinds_s8 (k8 : Nat → Int32 → Int32 → Int32 → xS → Option xS) (j : Nat) (b3 : Int32) (b4 : Int32) (b5 : Int32) (u : xS) : Option xS :=
  xb1 (m_Line_size u) fun r11 =>
  (if r11 ≤ b5 then
    xb1 (m_OctetRow_put j b4 u) fun u68 =>
    some u68
  else
    xb1 (m_Line_get b5 u) fun r21 =>
    xb1 (m_History_isInsert r21 u) fun r24 =>
    (if r24 = b3 then
      k8 j b3 (b4 + (1 : Int32)) (b5 + (1 : Int32)) u
    else
      xb1 (m_OctetRow_put j b4 u) fun u37 =>
      (if b3 = 0 then
        k8 j (1 : Int32) ((0 : Int32) + (1 : Int32)) (b5 + (1 : Int32)) u37
      else
        k8 j (0 : Int32) ((0 : Int32) + (1 : Int32)) (b5 + (1 : Int32)) u37)))
def m_Message_writeKinds_l8 : Nat → Nat → Int32 → Int32 → Int32 → xS → Option xS
  | 0, _, _, _, _, _ => none
  | n + 1, j, b3, b4, b5, u => m_Message_writeKinds_s8 (m_Message_writeKinds_l8 n) j b3 b4 b5 u
def m_Message_writeKinds (j : Nat) (u : xS) : Option xS :=
  m_Message_writeKinds_l8 xFU j (1 : Int32) (0 : Int32) (0 : Int32) u
def m_History_indexOf (a1 : Int32) (u : xS) : Option Int32 :=
  xg (xin a1 40) <|
  some (xs_I u 2 a1.toNatClampNeg)
def m_OctetRow_putSigned_b17 (j : Nat) (t0 : Int32) (u : xS) : Option xS :=
  xb1 (m_OctetRow_put j t0 u) fun u17 =>
  some u17
def m_OctetRow_putSigned (j : Nat) (a1 : Int32) (u : xS) : Option xS :=
  (if 0 ≤ a1 then
    m_OctetRow_putSigned_b17 j ((2 : Int32) * a1) u
  else
    m_OctetRow_putSigned_b17 j (((-2 : Int32) * a1) - (1 : Int32)) u)
def m_Message_writeIndices_s5 (k5 : Nat → Int32 → Int32 → xS → Option xS) (j : Nat) (b3 : Int32) (b4 : Int32) (u : xS) : Option xS :=
  xb1 (m_Line_size u) fun r8 =>
  (if r8 ≤ b4 then
    some u
  else
    xb1 (m_Line_get b4 u) fun r18 =>
    xb1 (m_History_indexOf r18 u) fun r21 =>
    xb1 (m_OctetRow_putSigned j (r21 - b3) u) fun u34 =>
    k5 j r21 (b4 + (1 : Int32)) u34)
def m_Message_writeIndices_l5 : Nat → Nat → Int32 → Int32 → xS → Option xS
  | 0, _, _, _, _ => none
  | n + 1, j, b3, b4, u => m_Message_writeIndices_s5 (m_Message_writeIndices_l5 n) j b3 b4 u
def m_Message_writeIndices (j : Nat) (u : xS) : Option xS :=
  m_Message_writeIndices_l5 xFU j (0 : Int32) (0 : Int32) u
def m_Message_writeCharacters_s5 (k5 : Nat → Int32 → Int32 → xS → Option xS) (j : Nat) (b3 : Int32) (b4 : Int32) (u : xS) : Option xS :=
  xb1 (m_Line_size u) fun r8 =>
  (if r8 ≤ b4 then
    some u
  else
    xb1 (m_Line_get b4 u) fun r18 =>
    xb1 (m_History_isInsert r18 u) fun r21 =>
    (if r21 = 0 then
      k5 j b3 (b4 + (1 : Int32)) u
    else
      xb1 (m_Line_get b4 u) fun r31 =>
      xb1 (m_History_characterOf r31 u) fun r34 =>
      xb1 (m_OctetRow_putSigned j (r34 - b3) u) fun u47 =>
      k5 j r34 (b4 + (1 : Int32)) u47))
def m_Message_writeCharacters_l5 : Nat → Nat → Int32 → Int32 → xS → Option xS
  | 0, _, _, _, _ => none
  | n + 1, j, b3, b4, u => m_Message_writeCharacters_s5 (m_Message_writeCharacters_l5 n) j b3 b4 u
def m_Message_writeCharacters (j : Nat) (u : xS) : Option xS :=
  m_Message_writeCharacters_l5 xFU j (0 : Int32) (0 : Int32) u
def m_History_parentsOf (a1 : Int32) (u : xS) : Option Int64 :=
  xg (xin a1 40) <|
  some (xs_L u 0 a1.toNatClampNeg)
def m_History_codeOf (a1 : Int32) (u : xS) : Option Int32 :=
  xg (xin a1 40) <|
  some ((xs_I u 0 a1.toNatClampNeg) + ((3 : Int32) * (xs_I u 1 a1.toNatClampNeg)))
def m_Message_writeParentList_s31 (k31 : Nat → Int32 → Int64 → Int32 → Int32 → xS → Option xS) (j : Nat) (b4 : Int32) (b5 : Int64) (b7 : Int32) (b8 : Int32) (u : xS) : Option xS :=
  (if b4 ≤ b8 then
    some u
  else
    (if b7 = (-1 : Int32) then
      some u
    else
      xb1 (m_History_codeOf b7 u) fun r51 =>
      xb1 (m_OctetRow_put j r51 u) fun u54 =>
      xb1 (m_Text_bit b7) fun r61 =>
      xb1 (m_History_leastOf (b5 &&& (r61 ^^^ (-1 : Int64))) u54) fun r74 =>
      k31 j b4 (b5 &&& (r61 ^^^ (-1 : Int64))) r74 (b8 + (1 : Int32)) u54))
def m_Message_writeParentList_l31 : Nat → Nat → Int32 → Int64 → Int32 → Int32 → xS → Option xS
  | 0, _, _, _, _, _, _ => none
  | n + 1, j, b4, b5, b7, b8, u => m_Message_writeParentList_s31 (m_Message_writeParentList_l31 n) j b4 b5 b7 b8 u
def m_Message_writeParentList (j : Nat) (a2 : Int64) (u : xS) : Option xS :=
  xb1 (m_Long_bitCount a2) fun r1 =>
  xb1 (m_History_leastOf a2 u) fun r12 =>
  xb1 (m_OctetRow_put j ((1 : Int32) + r1) u) fun u25 =>
  m_Message_writeParentList_l31 xFU j r1 a2 r12 (0 : Int32) u25
def m_Message_writeParents_b52 (k2 : Nat → Int32 → xS → Option xS) (j : Nat) (b3 : Int32) (b4 : Int64) (u : xS) : Option xS :=
  xb1 (m_Message_writeParentList j b4 u) fun u56 =>
  k2 j (b3 + (1 : Int32)) u56
def m_Message_writeParents_s2 (k2 : Nat → Int32 → xS → Option xS) (j : Nat) (b3 : Int32) (u : xS) : Option xS :=
  xb1 (m_Line_size u) fun r4 =>
  (if r4 ≤ b3 then
    some u
  else
    xb1 (m_Line_get b3 u) fun r13 =>
    xb1 (m_History_parentsOf r13 u) fun r16 =>
    (if b3 ≤ 0 then
      m_Message_writeParents_b52 k2 j b3 r16 u
    else
      xb1 (m_Line_get (b3 - (1 : Int32)) u) fun r31 =>
      xb1 (m_Text_bit r31) fun r34 =>
      (if r16 = r34 then
        xb1 (m_OctetRow_put j (0 : Int32) u) fun u46 =>
        k2 j (b3 + (1 : Int32)) u46
      else
        m_Message_writeParents_b52 k2 j b3 r16 u)))
def m_Message_writeParents_l2 : Nat → Nat → Int32 → xS → Option xS
  | 0, _, _, _ => none
  | n + 1, j, b3, u => m_Message_writeParents_s2 (m_Message_writeParents_l2 n) j b3 u
def m_Message_writeParents (j : Nat) (u : xS) : Option xS :=
  m_Message_writeParents_l2 xFU j (0 : Int32) u
def m_Message_write (j : Nat) (u : xS) : Option xS :=
  xb1 (m_OctetRow_clear j u) fun u4 =>
  xb1 (m_Line_size u4) fun r12 =>
  xb1 (m_OctetRow_put j r12 u4) fun u15 =>
  xb1 (m_Message_writeSites j u15) fun u21 =>
  xb1 (m_Message_writeKinds j u21) fun u27 =>
  xb1 (m_Message_writeIndices j u27) fun u33 =>
  xb1 (m_Message_writeCharacters j u33) fun u39 =>
  xb1 (m_Message_writeParents j u39) fun u45 =>
  some u45
def m_Text_send (a1 : Int32) (a2 : Int32) (u : xS) : Option (Int32 × xS) :=
  xb1 (m_Text_areTwoSites a1 a2) fun r2 =>
  (if r2 = 0 then
    some ((-1000 : Int32), u)
  else
    xg (xin a1 3) <|
    xg (xin a2 3) <|
    xb1 (m_Text_freeNumber u) fun r37 =>
    (if ((xs_l u (2 + (a1.toNatClampNeg))) &&& ((xs_L u (3 + (a1.toNatClampNeg)) a2.toNatClampNeg) ^^^ (-1 : Int64))) = (0 : Int64) then
      some ((-1000 : Int32), u)
    else
      (if r37 = (6 : Int32) then
        some ((-1000 : Int32), u)
      else
        xb1 (m_Line_arrange ((xs_l u (2 + (a1.toNatClampNeg))) &&& ((xs_L u (3 + (a1.toNatClampNeg)) a2.toNatClampNeg) ^^^ (-1 : Int64))) u) fun u70 =>
        xg (xin r37 6) <|
        xb1 (m_Message_start (r37.toNatClampNeg) a1 a2 ((xs_l u (2 + (a1.toNatClampNeg))) &&& ((xs_L u (3 + (a1.toNatClampNeg)) a2.toNatClampNeg) ^^^ (-1 : Int64))) u70) fun u84 =>
        xb1 (m_Message_write (r37.toNatClampNeg) u84) fun u102 =>
        xlt (xs_sL u102 (3 + (a1.toNatClampNeg)) a2.toNatClampNeg (xs_l u102 (2 + (a1.toNatClampNeg)))) fun w114 =>
        some (r37, w114))))
def m_Text_isUnderWay (a1 : Int32) (u : xS) : Option Int32 :=
  (if a1 < 0 then
    some (0 : Int32)
  else
    (if (6 : Int32) ≤ a1 then
      some (0 : Int32)
    else
      xg (xin a1 6) <|
      (if (xs_i u (12 + (a1.toNatClampNeg))) = 0 then
        some (0 : Int32)
      else
        some (1 : Int32))))
def m_History_withAncestors_s5 (k5 : Int64 → Int64 → Int32 → xS → Option Int64) (b1 : Int64) (b3 : Int64) (b5 : Int32) (u : xS) : Option Int64 :=
  (if (xs_i u 0) ≤ b5 then
    some b3
  else
    xb1 (m_Text_has b1 b5) fun r17 =>
    (if r17 = 0 then
      k5 b1 b3 (b5 + (1 : Int32)) u
    else
      xg (xin b5 40) <|
      k5 b1 (b3 ||| (xs_L u 1 b5.toNatClampNeg)) (b5 + (1 : Int32)) u))
def m_History_withAncestors_l5 : Nat → Int64 → Int64 → Int32 → xS → Option Int64
  | 0, _, _, _, _ => none
  | n + 1, b1, b3, b5, u => m_History_withAncestors_s5 (m_History_withAncestors_l5 n) b1 b3 b5 u
def m_History_withAncestors (a1 : Int64) (u : xS) : Option Int64 :=
  m_History_withAncestors_l5 xFU a1 a1 (0 : Int32) u
def m_History_upTo (a1 : Int32) (u : xS) : Option Int64 :=
  (if a1 = (-1 : Int32) then
    some (0 : Int64)
  else
    xg (xin a1 40) <|
    xb1 (m_Text_bit a1) fun r16 =>
    some ((xs_L u 1 a1.toNatClampNeg) ||| r16))
def m_History_descendantsOf_s8 (k8 : Int32 → Int64 → Int64 → Int32 → xS → Option Int64) (b1 : Int32) (b2 : Int64) (b4 : Int64) (b6 : Int32) (u : xS) : Option Int64 :=
  (if (xs_i u 0) ≤ b6 then
    some b4
  else
    xb1 (m_Text_has b2 b6) fun r20 =>
    (if r20 = 0 then
      k8 b1 b2 b4 (b6 + (1 : Int32)) u
    else
      xg (xin b6 40) <|
      xb1 (m_Text_has (xs_L u 1 b6.toNatClampNeg) b1) fun r34 =>
      (if r34 = 0 then
        k8 b1 b2 b4 (b6 + (1 : Int32)) u
      else
        xb1 (m_Text_bit b6) fun r44 =>
        k8 b1 b2 (b4 ||| r44) (b6 + (1 : Int32)) u)))
def m_History_descendantsOf_l8 : Nat → Int32 → Int64 → Int64 → Int32 → xS → Option Int64
  | 0, _, _, _, _, _ => none
  | n + 1, b1, b2, b4, b6, u => m_History_descendantsOf_s8 (m_History_descendantsOf_l8 n) b1 b2 b4 b6 u
def m_History_descendantsOf (a1 : Int32) (a2 : Int64) (u : xS) : Option Int64 :=
  m_History_descendantsOf_l8 xFU a1 a2 (0 : Int64) (a1 + (1 : Int32)) u
def m_History_isCritical (a1 : Int32) (a2 : Int64) (u : xS) : Option Int32 :=
  xb1 (m_History_upTo a1 u) fun r3 =>
  xb1 (m_History_descendantsOf a1 a2 u) fun r9 =>
  (if (a2 &&& ((r3 ||| r9) ^^^ (-1 : Int64))) = (0 : Int64) then
    some (1 : Int32)
  else
    some (0 : Int32))
def m_History_lastCritical_s8 (k8 : Int64 → Int64 → Int32 → xS → Option Int32) (b1 : Int64) (b3 : Int64) (b5 : Int32) (u : xS) : Option Int32 :=
  (if b5 < 0 then
    some (-1 : Int32)
  else
    xb1 (m_Text_has b3 b5) fun r16 =>
    (if r16 = 0 then
      k8 b1 b3 (b5 + (-1 : Int32)) u
    else
      xb1 (m_History_isCritical b5 b1 u) fun r26 =>
      (if r26 = 0 then
        k8 b1 b3 (b5 + (-1 : Int32)) u
      else
        some b5)))
def m_History_lastCritical_l8 : Nat → Int64 → Int64 → Int32 → xS → Option Int32
  | 0, _, _, _, _ => none
  | n + 1, b1, b3, b5, u => m_History_lastCritical_s8 (m_History_lastCritical_l8 n) b1 b3 b5 u
def m_History_lastCritical (a1 : Int64) (a3 : Int64) (u : xS) : Option Int32 :=
  m_History_lastCritical_l8 xFU a1 a3 ((xs_i u 0) - (1 : Int32)) u
def m_History_ancestorsOf (a1 : Int32) (u : xS) : Option Int64 :=
  xg (xin a1 40) <|
  some (xs_L u 1 a1.toNatClampNeg)
def m_Merge_passThrough_s6 (k6 : Nat → Int64 → Int32 → xS → Option (Int64 × xS)) (j : Nat) (b5 : Int64) (b7 : Int32) (u : xS) : Option (Int64 × xS) :=
  xb1 (m_Line_size u) fun r9 =>
  (if r9 ≤ b7 then
    some (b5, u)
  else
    xb1 (m_Line_get b7 u) fun r18 =>
    xb1 (m_History_ancestorsOf r18 u) fun r33 =>
    xb1 (m_Long_bitCount (b5 ^^^ r33)) fun r37 =>
    xlt (xs_si u (9 + j) ((xs_i u (9 + j)) + r37)) fun w41 =>
    xb1 (m_History_upTo r18 w41) fun r47 =>
    k6 j r47 (b7 + (1 : Int32)) w41)
def m_Merge_passThrough_l6 : Nat → Nat → Int64 → Int32 → xS → Option (Int64 × xS)
  | 0, _, _, _, _ => none
  | n + 1, j, b5, b7, u => m_Merge_passThrough_s6 (m_Merge_passThrough_l6 n) j b5 b7 u
def m_Merge_passThrough (j : Nat) (a3 : Int64) (u : xS) : Option (Int64 × xS) :=
  m_Merge_passThrough_l6 xFU j a3 (0 : Int32) u
def m_CharacterList_indexIn_s6 (k6 : Int64 → Int32 → Int32 → Int32 → xS → Option Int32) (b1 : Int64) (b3 : Int32) (b4 : Int32) (b5 : Int32) (u : xS) : Option Int32 :=
  (if (xs_i u 1) ≤ b5 then
    some b4
  else
    xg (xin b5 40) <|
    (if (xs_I u 6 b5.toNatClampNeg) = b3 then
      some b4
    else
      xb1 (m_Text_has b1 (xs_I u 6 b5.toNatClampNeg)) fun r34 =>
      (if r34 = 0 then
        k6 b1 b3 b4 (b5 + (1 : Int32)) u
      else
        k6 b1 b3 (b4 + (1 : Int32)) (b5 + (1 : Int32)) u)))
def m_CharacterList_indexIn_l6 : Nat → Int64 → Int32 → Int32 → Int32 → xS → Option Int32
  | 0, _, _, _, _, _ => none
  | n + 1, b1, b3, b4, b5, u => m_CharacterList_indexIn_s6 (m_CharacterList_indexIn_l6 n) b1 b3 b4 b5 u
def m_CharacterList_indexIn (a1 : Int64) (a3 : Int32) (u : xS) : Option Int32 :=
  m_CharacterList_indexIn_l6 xFU a1 a3 (0 : Int32) (0 : Int32) u
def m_CharacterList_takenBy (a1 : Int32) (u : xS) : Option Int32 :=
  xg (xin a1 40) <|
  some (xs_I u 9 a1.toNatClampNeg)
def m_Merge_removal (a1 : Int64) (a3 : Int32) (u : xS) : Option Int32 :=
  xb1 (m_CharacterList_shownIn a1 u) fun r2 =>
  xb1 (m_Text_has r2 a3) fun r10 =>
  (if r10 = 0 then
    some (1000 : Int32)
  else
    xb1 (m_CharacterList_indexIn r2 a3 u) fun r21 =>
    some ((-1 : Int32) - r21))
def m_Merge_applyAll_b74 (k15 : Nat → Int64 → Int32 → xS → Option xS) (j : Nat) (b6 : Int64) (b8 : Int32) (b9 : Int32) (t0 : Int32) (t1 : Int32) (u : xS) : Option xS :=
  xg (xin t1 40) <|
  xlt (xs_sI u (11 + j) t1.toNatClampNeg t0) fun w74 =>
  xb1 (m_Text_bit b9) fun r79 =>
  k15 j (b6 ||| r79) (b8 + (1 : Int32)) w74
def m_Merge_applyAll_s15 (k15 : Nat → Int64 → Int32 → xS → Option xS) (j : Nat) (b6 : Int64) (b8 : Int32) (u : xS) : Option xS :=
  (if (xs_i u (3 + j)) ≤ b8 then
    some u
  else
    xb1 (m_Line_get b8 u) fun r27 =>
    xb1 (m_History_isInsert r27 u) fun r41 =>
    (if r41 = 0 then
      xb1 (m_CharacterList_takenBy r27 u) fun r68 =>
      xb1 (m_Merge_removal b6 r68 u) fun r71 =>
      m_Merge_applyAll_b74 k15 j b6 b8 r27 r71 b8 u
    else
      xb1 (m_CharacterList_shownIn b6 u) fun r51 =>
      xb1 (m_CharacterList_indexIn r51 r27 u) fun r56 =>
      m_Merge_applyAll_b74 k15 j b6 b8 r27 r56 b8 u))
def m_Merge_applyAll_l15 : Nat → Nat → Int64 → Int32 → xS → Option xS
  | 0, _, _, _, _ => none
  | n + 1, j, b6, b8, u => m_Merge_applyAll_s15 (m_Merge_applyAll_l15 n) j b6 b8 u
def m_Merge_applyAll (j : Nat) (a4 : Int64) (u : xS) : Option xS :=
  xb1 (m_Line_size u) fun r6 =>
  xlt (xs_si u (3 + j) r6) fun w9 =>
  m_Merge_applyAll_l15 xFU j a4 (0 : Int32) w9
def m_Merge_perform (j : Nat) (a4 : Int64) (a6 : Int64) (u : xS) : Option xS :=
  xb1 (m_History_lastCritical (a4 ||| a6) a4 u) fun r9 =>
  xb1 (m_History_upTo r9 u) fun r12 =>
  xlt (xs_si u (9 + j) (0 : Int32)) fun w30 =>
  xb1 (m_Long_bitCount (a4 &&& (r12 ^^^ (-1 : Int64)))) fun r36 =>
  xlt (xs_si w30 (6 + j) r36) fun w39 =>
  xb1 (m_Line_arrange (a4 &&& (r12 ^^^ (-1 : Int64))) w39) fun u46 =>
  xb2 (m_Merge_passThrough j r12 u46) fun r54 u54 =>
  xb1 (m_Line_arrange a6 u54) fun u63 =>
  xb2 (m_Merge_passThrough j r54 u63) fun r71 u71 =>
  xb1 (m_Merge_applyAll j a4 u71) fun u81 =>
  some u81
def m_Text_deliver_b138 (b8 : Int64) (u : xS) : Option (Int32 × xS) :=
  xb1 (m_Long_bitCount b8) fun r140 =>
  some (r140, u)
def m_Text_deliver (a1 : Int32) (u : xS) : Option (Int32 × xS) :=
  xb1 (m_Text_isUnderWay a1 u) fun r2 =>
  (if r2 = 0 then
    some ((-1000 : Int32), u)
  else
    xg (xin a1 6) <|
    xg (xin (xs_i u (24 + (a1.toNatClampNeg))) 3) <|
    xb1 (m_History_parentsOfAll (xs_l u (5 + (a1.toNatClampNeg))) u) fun r47 =>
    (if (r47 &&& (((xs_l u (5 + (a1.toNatClampNeg))) ||| (xs_l u (2 + ((xs_i u (24 + (a1.toNatClampNeg))).toNatClampNeg)))) ^^^ (-1 : Int64))) = (0 : Int64) then
      xg (xin (xs_i u (18 + (a1.toNatClampNeg))) 3) <|
      xb1 (m_History_withAncestors (xs_l u (5 + (a1.toNatClampNeg))) u) fun r82 =>
      xlt (xs_sL u (3 + ((xs_i u (24 + (a1.toNatClampNeg))).toNatClampNeg)) (xs_i u (18 + (a1.toNatClampNeg))).toNatClampNeg ((xs_L u (3 + ((xs_i u (24 + (a1.toNatClampNeg))).toNatClampNeg)) (xs_i u (18 + (a1.toNatClampNeg))).toNatClampNeg) ||| r82)) fun w86 =>
      (if ((xs_l u (5 + (a1.toNatClampNeg))) &&& ((xs_l u (2 + ((xs_i u (24 + (a1.toNatClampNeg))).toNatClampNeg))) ^^^ (-1 : Int64))) = (0 : Int64) then
        m_Text_deliver_b138 ((xs_l u (5 + (a1.toNatClampNeg))) &&& ((xs_l u (2 + ((xs_i u (24 + (a1.toNatClampNeg))).toNatClampNeg))) ^^^ (-1 : Int64))) w86
      else
        xb1 (m_Merge_perform ((xs_i u (24 + (a1.toNatClampNeg))).toNatClampNeg) (xs_l u (2 + ((xs_i u (24 + (a1.toNatClampNeg))).toNatClampNeg))) ((xs_l u (5 + (a1.toNatClampNeg))) &&& ((xs_l u (2 + ((xs_i u (24 + (a1.toNatClampNeg))).toNatClampNeg))) ^^^ (-1 : Int64))) w86) fun u125 =>
        xlt (xs_sl u125 (2 + ((xs_i u (24 + (a1.toNatClampNeg))).toNatClampNeg)) ((xs_l u (2 + ((xs_i u (24 + (a1.toNatClampNeg))).toNatClampNeg))) ||| ((xs_l u (5 + (a1.toNatClampNeg))) &&& ((xs_l u (2 + ((xs_i u (24 + (a1.toNatClampNeg))).toNatClampNeg))) ^^^ (-1 : Int64))))) fun w135 =>
        m_Text_deliver_b138 ((xs_l u (5 + (a1.toNatClampNeg))) &&& ((xs_l u (2 + ((xs_i u (24 + (a1.toNatClampNeg))).toNatClampNeg))) ^^^ (-1 : Int64))) w135)
    else
      some ((-1 : Int32), u)))
def m_Text_discard (a1 : Int32) (u : xS) : Option (Int32 × xS) :=
  xb1 (m_Text_isUnderWay a1 u) fun r2 =>
  (if r2 = 0 then
    some ((0 : Int32), u)
  else
    xg (xin a1 6) <|
    xlt (xs_si u (12 + (a1.toNatClampNeg)) (0 : Int32)) fun w17 =>
    some ((1 : Int32), w17))
def m_Text_hear (a1 : Int32) (a2 : Int32) (u : xS) : Option (Int32 × xS) :=
  xb1 (m_Text_areTwoSites a1 a2) fun r2 =>
  (if r2 = 0 then
    some ((-1000 : Int32), u)
  else
    xg (xin a1 3) <|
    xg (xin a2 3) <|
    xb1 (m_History_headsOf (xs_l u (2 + (a2.toNatClampNeg))) u) fun r32 =>
    xb1 (m_History_withAncestors (r32 &&& (xs_l u (2 + (a1.toNatClampNeg)))) u) fun r53 =>
    xlt (xs_sL u (3 + (a1.toNatClampNeg)) a2.toNatClampNeg r53) fun w56 =>
    xb1 (m_Long_bitCount (xs_L w56 (3 + (a1.toNatClampNeg)) a2.toNatClampNeg)) fun r63 =>
    some (r63, w56))
def m_Text_believed (a1 : Int32) (a2 : Int32) (u : xS) : Option Int32 :=
  xb1 (m_Text_areTwoSites a1 a2) fun r2 =>
  (if r2 = 0 then
    some (-1000 : Int32)
  else
    xg (xin a1 3) <|
    xg (xin a2 3) <|
    xb1 (m_Long_bitCount (xs_L u (3 + (a1.toNatClampNeg)) a2.toNatClampNeg)) fun r19 =>
    some r19)
def m_OctetRow_size (j : Nat) (u : xS) : Option Int32 :=
  some (xs_i u (30 + j))
def m_Text_octets (a1 : Int32) (u : xS) : Option Int32 :=
  xb1 (m_Text_isUnderWay a1 u) fun r2 =>
  (if r2 = 0 then
    some (-1000 : Int32)
  else
    xg (xin a1 6) <|
    xb1 (m_OctetRow_size (a1.toNatClampNeg) u) fun r17 =>
    some r17)
def m_OctetRow_get (j : Nat) (a1 : Int32) (u : xS) : Option Int32 :=
  (if a1 < 0 then
    some (-1000 : Int32)
  else
    (if (xs_i u (30 + j)) ≤ a1 then
      some (-1000 : Int32)
    else
      xg (xin a1 442) <|
      some (xs_I u (14 + j) a1.toNatClampNeg)))
def m_Text_octet (a1 : Int32) (a2 : Int32) (u : xS) : Option Int32 :=
  xb1 (m_Text_isUnderWay a1 u) fun r2 =>
  (if r2 = 0 then
    some (-1000 : Int32)
  else
    xg (xin a1 6) <|
    xb1 (m_OctetRow_get (a1.toNatClampNeg) a2 u) fun r18 =>
    some r18)
def m_Text_events (a1 : Int32) (u : xS) : Option Int32 :=
  xb1 (m_Text_isSite a1) fun r1 =>
  (if r1 = 0 then
    some (-1000 : Int32)
  else
    xg (xin a1 3) <|
    xb1 (m_Long_bitCount (xs_l u (2 + (a1.toNatClampNeg)))) fun r16 =>
    some r16)
def m_Text_heads (a1 : Int32) (u : xS) : Option Int32 :=
  xb1 (m_Text_isSite a1) fun r1 =>
  (if r1 = 0 then
    some (-1000 : Int32)
  else
    xg (xin a1 3) <|
    xb1 (m_History_headsOf (xs_l u (2 + (a1.toNatClampNeg))) u) fun r20 =>
    xb1 (m_Long_bitCount r20) fun r23 =>
    some r23)
def m_Text_head_b85 (b5 : Int32) (u : xS) : Option Int32 :=
  (if b5 = (-1 : Int32) then
    some (-1000 : Int32)
  else
    xb1 (m_History_codeOf b5 u) fun r103 =>
    some r103)
def m_Text_head_s45 (k45 : Int32 → Int64 → Int32 → Int32 → xS → Option Int32) (b2 : Int32) (b3 : Int64) (b5 : Int32) (b6 : Int32) (u : xS) : Option Int32 :=
  (if b2 ≤ b6 then
    m_Text_head_b85 b5 u
  else
    (if b5 = (-1 : Int32) then
      m_Text_head_b85 b5 u
    else
      xb1 (m_Text_bit b5) fun r60 =>
      xb1 (m_History_leastOf (b3 &&& (r60 ^^^ (-1 : Int64))) u) fun r74 =>
      k45 b2 (b3 &&& (r60 ^^^ (-1 : Int64))) r74 (b6 + (1 : Int32)) u))
def m_Text_head_l45 : Nat → Int32 → Int64 → Int32 → Int32 → xS → Option Int32
  | 0, _, _, _, _, _ => none
  | n + 1, b2, b3, b5, b6, u => m_Text_head_s45 (m_Text_head_l45 n) b2 b3 b5 b6 u
def m_Text_head (a1 : Int32) (a2 : Int32) (u : xS) : Option Int32 :=
  xb1 (m_Text_isSite a1) fun r1 =>
  (if r1 = 0 then
    some (-1000 : Int32)
  else
    (if 0 ≤ a2 then
      xg (xin a1 3) <|
      xb1 (m_History_headsOf (xs_l u (2 + (a1.toNatClampNeg))) u) fun r28 =>
      xb1 (m_History_leastOf r28 u) fun r37 =>
      m_Text_head_l45 xFU a2 r28 r37 (0 : Int32) u
    else
      some (-1000 : Int32)))
def m_History_wasMade (a1 : Int32) (a2 : Int32) (u : xS) : Option Int32 :=
  xb1 (m_Text_isSite a1) fun r1 =>
  (if r1 = 0 then
    some (0 : Int32)
  else
    (if a2 < 0 then
      some (0 : Int32)
    else
      xg (xin a1 3) <|
      (if (xs_I u 5 a1.toNatClampNeg) ≤ a2 then
        some (0 : Int32)
      else
        some (1 : Int32))))
def m_History_slotOf (a1 : Int32) (a2 : Int32) (u : xS) : Option Int32 :=
  xg (xin ((a1 * (40 : Int32)) + a2) 120) <|
  some (xs_I u 4 ((a1 * (40 : Int32)) + a2).toNatClampNeg)
def m_Text_ancestor (a1 : Int32) (a2 : Int32) (a3 : Int32) (a4 : Int32) (u : xS) : Option Int32 :=
  xb1 (m_History_wasMade a1 a2 u) fun r6 =>
  (if r6 = 0 then
    some (-1000 : Int32)
  else
    xb1 (m_History_wasMade a3 a4 u) fun r19 =>
    (if r19 = 0 then
      some (-1000 : Int32)
    else
      xb1 (m_History_slotOf a3 a4 u) fun r40 =>
      xb1 (m_History_ancestorsOf r40 u) fun r43 =>
      xb1 (m_History_slotOf a1 a2 u) fun r52 =>
      xb1 (m_Text_has r43 r52) fun r55 =>
      (if r55 = 0 then
        some (0 : Int32)
      else
        some (1 : Int32))))
def m_Text_critical (a1 : Int32) (u : xS) : Option Int32 :=
  xb1 (m_Text_isSite a1) fun r1 =>
  (if r1 = 0 then
    some (-1000 : Int32)
  else
    xg (xin a1 3) <|
    xb1 (m_History_lastCritical (xs_l u (2 + (a1.toNatClampNeg))) (xs_l u (2 + (a1.toNatClampNeg))) u) fun r31 =>
    xb1 (m_History_upTo r31 u) fun r34 =>
    xb1 (m_Long_bitCount r34) fun r37 =>
    some r37)
def m_Text_replayed (a1 : Int32) (u : xS) : Option Int32 :=
  xb1 (m_Text_isSite a1) fun r1 =>
  (if r1 = 0 then
    some (-1000 : Int32)
  else
    xg (xin a1 3) <|
    some (xs_i u (6 + (a1.toNatClampNeg))))
def m_Text_moves (a1 : Int32) (u : xS) : Option Int32 :=
  xb1 (m_Text_isSite a1) fun r1 =>
  (if r1 = 0 then
    some (-1000 : Int32)
  else
    xg (xin a1 3) <|
    some (xs_i u (9 + (a1.toNatClampNeg))))
def m_Text_operation (a1 : Int32) (a2 : Int32) (u : xS) : Option Int32 :=
  xb1 (m_Text_isSite a1) fun r1 =>
  (if r1 = 0 then
    some (-1000 : Int32)
  else
    (if a2 < 0 then
      some (-1000 : Int32)
    else
      xg (xin a1 3) <|
      (if a2 < (xs_i u (3 + (a1.toNatClampNeg))) then
        xg (xin a2 40) <|
        some (xs_I u (11 + (a1.toNatClampNeg)) a2.toNatClampNeg)
      else
        some (-1000 : Int32))))
def m_Model_in (a0 : Int64) (a2 : Int32) : Option Int32 :=
  (if ((xUshr a0 a2) &&& (1 : Int64)) = (0 : Int64) then
    some (0 : Int32)
  else
    some (1 : Int32))
def m_Model_one (a0 : Int32) : Option Int64 :=
  some (xShl (1 : Int64) a0)
def m_Model_many_s4 (k4 : Int64 → Int32 → Int32 → Option Int32) (b0 : Int64) (b2 : Int32) (b3 : Int32) : Option Int32 :=
  (if (40 : Int32) ≤ b3 then
    some b2
  else
    xb1 (m_Model_in b0 b3) fun r13 =>
    (if r13 = 0 then
      k4 b0 (b2 + (0 : Int32)) (b3 + (1 : Int32))
    else
      k4 b0 (b2 + (1 : Int32)) (b3 + (1 : Int32))))
def m_Model_many_l4 : Nat → Int64 → Int32 → Int32 → Option Int32
  | 0, _, _, _ => none
  | n + 1, b0, b2, b3 => m_Model_many_s4 (m_Model_many_l4 n) b0 b2 b3
def m_Model_many (a0 : Int64) : Option Int32 :=
  m_Model_many_l4 xFU a0 (0 : Int32) (0 : Int32)
def m_Model_wrong (a0 : Int32) : Option Int32 :=
  (if a0 < 0 then
    some (1 : Int32)
  else
    (if a0 ≤ (2 : Int32) then
      some (0 : Int32)
    else
      some (1 : Int32)))
def m_Model_wrongPair (a0 : Int32) (a1 : Int32) : Option Int32 :=
  xb1 (m_Model_wrong a0) fun r1 =>
  (if r1 = 0 then
    xb1 (m_Model_wrong a1) fun r8 =>
    (if r8 = 0 then
      (if a0 = a1 then
        some (1 : Int32)
      else
        some (0 : Int32))
    else
      some (1 : Int32))
  else
    some (1 : Int32))
def m_Model_hidden_s5 (k5 : Int64 → Int64 → Int32 → xS → Option Int64) (b1 : Int64) (b3 : Int64) (b5 : Int32) (u : xS) : Option Int64 :=
  (if (xs_i u 0) ≤ b5 then
    some b3
  else
    xb1 (m_Model_in b1 b5) fun r17 =>
    (if r17 = 0 then
      k5 b1 b3 (b5 + (1 : Int32)) u
    else
      xg (xin b5 40) <|
      (if (xs_I u 2 b5.toNatClampNeg) = 0 then
        xg (xin b5 41) <|
        xb1 (m_Model_one (xs_I u 5 b5.toNatClampNeg)) fun r41 =>
        k5 b1 (b3 ||| r41) (b5 + (1 : Int32)) u
      else
        k5 b1 b3 (b5 + (1 : Int32)) u)))
def m_Model_hidden_l5 : Nat → Int64 → Int64 → Int32 → xS → Option Int64
  | 0, _, _, _, _ => none
  | n + 1, b1, b3, b5, u => m_Model_hidden_s5 (m_Model_hidden_l5 n) b1 b3 b5 u
def m_Model_hidden (a1 : Int64) (u : xS) : Option Int64 :=
  m_Model_hidden_l5 xFU a1 (0 : Int64) (0 : Int32) u
def m_Model_shownAt_s13 (k13 : Int64 → Int32 → Int64 → Int32 → Int32 → xS → Option Int32) (b1 : Int64) (b3 : Int32) (b4 : Int64) (b6 : Int32) (b7 : Int32) (u : xS) : Option Int32 :=
  (if (xs_i u 1) ≤ b7 then
    some (-1 : Int32)
  else
    xg (xin b7 40) <|
    xb1 (m_Model_in b1 (xs_I u 8 b7.toNatClampNeg)) fun r34 =>
    (if r34 = 0 then
      k13 b1 b3 b4 b6 (b7 + (1 : Int32)) u
    else
      xb1 (m_Model_in b4 (xs_I u 8 b7.toNatClampNeg)) fun r44 =>
      (if r44 = 0 then
        (if b6 = b3 then
          some (xs_I u 8 b7.toNatClampNeg)
        else
          k13 b1 b3 b4 (b6 + (1 : Int32)) (b7 + (1 : Int32)) u)
      else
        k13 b1 b3 b4 b6 (b7 + (1 : Int32)) u)))
def m_Model_shownAt_l13 : Nat → Int64 → Int32 → Int64 → Int32 → Int32 → xS → Option Int32
  | 0, _, _, _, _, _, _ => none
  | n + 1, b1, b3, b4, b6, b7, u => m_Model_shownAt_s13 (m_Model_shownAt_l13 n) b1 b3 b4 b6 b7 u
def m_Model_shownAt (a1 : Int64) (a3 : Int32) (u : xS) : Option Int32 :=
  xb1 (m_Model_hidden a1 u) fun r2 =>
  m_Model_shownAt_l13 xFU a1 a3 r2 (0 : Int32) (0 : Int32) u
def m_Model_shownBefore_s13 (k13 : Int64 → Int32 → Int64 → Int32 → Int32 → xS → Option Int32) (b1 : Int64) (b3 : Int32) (b4 : Int64) (b6 : Int32) (b7 : Int32) (u : xS) : Option Int32 :=
  (if (xs_i u 1) ≤ b7 then
    some b6
  else
    xg (xin b7 40) <|
    (if (xs_I u 8 b7.toNatClampNeg) = b3 then
      some b6
    else
      xb1 (m_Model_in b1 (xs_I u 8 b7.toNatClampNeg)) fun r47 =>
      (if r47 = 0 then
        k13 b1 b3 b4 (b6 + (0 : Int32)) (b7 + (1 : Int32)) u
      else
        xb1 (m_Model_in b4 (xs_I u 8 b7.toNatClampNeg)) fun r57 =>
        (if r57 = 0 then
          k13 b1 b3 b4 (b6 + (1 : Int32)) (b7 + (1 : Int32)) u
        else
          k13 b1 b3 b4 (b6 + (0 : Int32)) (b7 + (1 : Int32)) u))))
def m_Model_shownBefore_l13 : Nat → Int64 → Int32 → Int64 → Int32 → Int32 → xS → Option Int32
  | 0, _, _, _, _, _, _ => none
  | n + 1, b1, b3, b4, b6, b7, u => m_Model_shownBefore_s13 (m_Model_shownBefore_l13 n) b1 b3 b4 b6 b7 u
def m_Model_shownBefore (a1 : Int64) (a3 : Int32) (u : xS) : Option Int32 :=
  xb1 (m_Model_hidden a1 u) fun r2 =>
  m_Model_shownBefore_l13 xFU a1 a3 r2 (0 : Int32) (0 : Int32) u
def m_Model_behind_b52 (k16 : Int64 → Int32 → Int32 → Int32 → xS → Option Int32) (b1 : Int64) (b3 : Int32) (b4 : Int32) (b5 : Int32) (u : xS) : Option Int32 :=
  (if b4 = 0 then
    xg (xin b5 40) <|
    (if (xs_I u 8 b5.toNatClampNeg) = b3 then
      k16 b1 b3 (1 : Int32) (b5 + (1 : Int32)) u
    else
      k16 b1 b3 (0 : Int32) (b5 + (1 : Int32)) u)
  else
    k16 b1 b3 (1 : Int32) (b5 + (1 : Int32)) u)
def m_Model_behind_s16 (k16 : Int64 → Int32 → Int32 → Int32 → xS → Option Int32) (b1 : Int64) (b3 : Int32) (b4 : Int32) (b5 : Int32) (u : xS) : Option Int32 :=
  (if (xs_i u 1) ≤ b5 then
    some (40 : Int32)
  else
    (if b4 = 0 then
      m_Model_behind_b52 k16 b1 b3 b4 b5 u
    else
      xg (xin b5 40) <|
      xb1 (m_Model_in b1 (xs_I u 8 b5.toNatClampNeg)) fun r38 =>
      (if r38 = 0 then
        m_Model_behind_b52 k16 b1 b3 b4 b5 u
      else
        some (xs_I u 8 b5.toNatClampNeg))))
def m_Model_behind_l16 : Nat → Int64 → Int32 → Int32 → Int32 → xS → Option Int32
  | 0, _, _, _, _, _ => none
  | n + 1, b1, b3, b4, b5, u => m_Model_behind_s16 (m_Model_behind_l16 n) b1 b3 b4 b5 u
def m_Model_behind (a1 : Int64) (a3 : Int32) (u : xS) : Option Int32 :=
  (if a3 = (40 : Int32) then
    m_Model_behind_l16 xFU a1 a3 (1 : Int32) (0 : Int32) u
  else
    m_Model_behind_l16 xFU a1 a3 (0 : Int32) (0 : Int32) u)
def m_Model_lower (a1 : Int32) (a2 : Int32) (u : xS) : Option Int32 :=
  xg (xin a1 40) <|
  xg (xin a2 40) <|
  (if (xs_I u 0 a1.toNatClampNeg) = (xs_I u 0 a2.toNatClampNeg) then
    (if (xs_I u 1 a2.toNatClampNeg) ≤ (xs_I u 1 a1.toNatClampNeg) then
      some (0 : Int32)
    else
      some (1 : Int32))
  else
    (if (xs_I u 0 a2.toNatClampNeg) ≤ (xs_I u 0 a1.toNatClampNeg) then
      some (0 : Int32)
    else
      some (1 : Int32)))
def m_Model_stands_b75 (b5 : Int32) (b6 : Int32) (u : xS) : Option Int32 :=
  (if 0 ≤ b5 then
    (if 0 ≤ b6 then
      xg (xin b5 41) <|
      xg (xin b6 41) <|
      (if (xs_I u 6 b5.toNatClampNeg) = (xs_I u 6 b6.toNatClampNeg) then
        xb1 (m_Model_lower b5 b6 u) fun r141 =>
        xg (r141 = 0 ∨ r141 = 1) <|
        some r141
      else
        xg ((xs_I u 6 b6.toNatClampNeg) = 0 ∨ (xs_I u 6 b6.toNatClampNeg) = 1) <|
        some (xs_I u 6 b6.toNatClampNeg))
    else
      xg (xin b5 41) <|
      (if (xs_I u 6 b5.toNatClampNeg) = 0 then
        some (1 : Int32)
      else
        some (0 : Int32)))
  else
    xg (xin b6 41) <|
    xg ((xs_I u 6 b6.toNatClampNeg) = 0 ∨ (xs_I u 6 b6.toNatClampNeg) = 1) <|
    some (xs_I u 6 b6.toNatClampNeg))
def m_Model_stands_s14 (k14 : Int32 → Int32 → Int32 → Int32 → Int32 → xS → Option Int32) (b3 : Int32) (b4 : Int32) (b5 : Int32) (b6 : Int32) (b7 : Int32) (u : xS) : Option Int32 :=
  (if (90 : Int32) ≤ b7 then
    m_Model_stands_b75 b5 b6 u
  else
    (if b3 = b4 then
      m_Model_stands_b75 b5 b6 u
    else
      xg (xin b3 41) <|
      xg (xin b4 41) <|
      (if (xs_I u 7 b3.toNatClampNeg) < (xs_I u 7 b4.toNatClampNeg) then
        k14 b3 (xs_I u 5 b4.toNatClampNeg) b5 b4 (b7 + (1 : Int32)) u
      else
        k14 (xs_I u 5 b3.toNatClampNeg) b4 b3 b6 (b7 + (1 : Int32)) u)))
def m_Model_stands_l14 : Nat → Int32 → Int32 → Int32 → Int32 → Int32 → xS → Option Int32
  | 0, _, _, _, _, _, _ => none
  | n + 1, b3, b4, b5, b6, b7, u => m_Model_stands_s14 (m_Model_stands_l14 n) b3 b4 b5 b6 b7 u
def m_Model_stands (a1 : Int32) (a2 : Int32) (u : xS) : Option Int32 :=
  m_Model_stands_l14 xFU a1 a2 (-1 : Int32) (-1 : Int32) (0 : Int32) u
def m_Model_intoRow_s35 (k35 : Int32 → Int32 → Int32 → xS → Option xS) (b1 : Int32) (b2 : Int32) (b3 : Int32) (u : xS) : Option xS :=
  (if b3 ≤ b2 then
    xg (xin b2 40) <|
    xlt (xs_sI u 8 b2.toNatClampNeg b1) fun w66 =>
    xlt (xs_si w66 1 ((xs_i w66 1) + (1 : Int32))) fun w74 =>
    some w74
  else
    xg (xin (b3 - (1 : Int32)) 40) <|
    xg (xin b3 40) <|
    xlt (xs_sI u 8 b3.toNatClampNeg (xs_I u 8 (b3 - (1 : Int32)).toNatClampNeg)) fun w53 =>
    k35 b1 b2 (b3 + (-1 : Int32)) w53)
def m_Model_intoRow_l35 : Nat → Int32 → Int32 → Int32 → xS → Option xS
  | 0, _, _, _, _ => none
  | n + 1, b1, b2, b3, u => m_Model_intoRow_s35 (m_Model_intoRow_l35 n) b1 b2 b3 u
def m_Model_intoRow_s2 (k2 : Int32 → Int32 → xS → Option xS) (b1 : Int32) (b2 : Int32) (u : xS) : Option xS :=
  (if (xs_i u 1) ≤ b2 then
    m_Model_intoRow_l35 xFU b1 b2 (xs_i u 1) u
  else
    xg (xin b2 40) <|
    xb1 (m_Model_stands (xs_I u 8 b2.toNatClampNeg) b1 u) fun r18 =>
    (if r18 = 0 then
      m_Model_intoRow_l35 xFU b1 b2 (xs_i u 1) u
    else
      k2 b1 (b2 + (1 : Int32)) u))
def m_Model_intoRow_l2 : Nat → Int32 → Int32 → xS → Option xS
  | 0, _, _, _ => none
  | n + 1, b1, b2, u => m_Model_intoRow_s2 (m_Model_intoRow_l2 n) b1 b2 u
def m_Model_intoRow (a1 : Int32) (u : xS) : Option xS :=
  m_Model_intoRow_l2 xFU a1 (0 : Int32) u
def m_Model_tips_s5 (k5 : Int64 → Int64 → Int32 → xS → Option Int64) (b1 : Int64) (b3 : Int64) (b5 : Int32) (u : xS) : Option Int64 :=
  (if (xs_i u 0) ≤ b5 then
    some (b1 &&& (b3 ^^^ (-1 : Int64)))
  else
    xb1 (m_Model_in b1 b5) fun r18 =>
    (if r18 = 0 then
      k5 b1 (b3 ||| (0 : Int64)) (b5 + (1 : Int32)) u
    else
      xg (xin b5 40) <|
      k5 b1 (b3 ||| (xs_L u 0 b5.toNatClampNeg)) (b5 + (1 : Int32)) u))
def m_Model_tips_l5 : Nat → Int64 → Int64 → Int32 → xS → Option Int64
  | 0, _, _, _, _ => none
  | n + 1, b1, b3, b5, u => m_Model_tips_s5 (m_Model_tips_l5 n) b1 b3 b5 u
def m_Model_tips (a1 : Int64) (u : xS) : Option Int64 :=
  m_Model_tips_l5 xFU a1 (0 : Int64) (0 : Int32) u
def m_Model_event_s12 (k12 : Int32 → Int32 → Int32 → Int32 → Int32 → Int32 → xS → Option (Int32 × xS)) (b1 : Int32) (b2 : Int32) (b3 : Int32) (b4 : Int32) (b5 : Int32) (b6 : Int32) (u : xS) : Option (Int32 × xS) :=
  (if (xs_i u 0) ≤ b6 then
    xg (xin b4 40) <|
    xlt (xs_sI u 0 b4.toNatClampNeg b1) fun w55 =>
    xlt (xs_sI w55 1 b4.toNatClampNeg b5) fun w64 =>
    xlt (xs_sI w64 2 b4.toNatClampNeg (vp_nar .boolean b2)) fun w72 =>
    xlt (xs_sI w72 3 b4.toNatClampNeg b3) fun w80 =>
    xg (xin b1 3) <|
    xlt (xs_sL w80 0 b4.toNatClampNeg (xs_L w80 2 b1.toNatClampNeg)) fun w93 =>
    xb1 (m_Model_tips (xs_L w93 2 b1.toNatClampNeg) w93) fun r107 =>
    xlt (xs_sL w93 1 b4.toNatClampNeg r107) fun w110 =>
    xb1 (m_Model_one b4) fun r120 =>
    xlt (xs_sL w110 2 b1.toNatClampNeg ((xs_L w110 2 b1.toNatClampNeg) ||| r120)) fun w124 =>
    xlt (xs_si w124 0 ((xs_i w124 0) + (1 : Int32))) fun w132 =>
    some (b4, w132)
  else
    xg (xin b6 40) <|
    (if (xs_I u 0 b6.toNatClampNeg) = b1 then
      k12 b1 b2 b3 b4 (b5 + (1 : Int32)) (b6 + (1 : Int32)) u
    else
      k12 b1 b2 b3 b4 (b5 + (0 : Int32)) (b6 + (1 : Int32)) u))
def m_Model_event_l12 : Nat → Int32 → Int32 → Int32 → Int32 → Int32 → Int32 → xS → Option (Int32 × xS)
  | 0, _, _, _, _, _, _, _ => none
  | n + 1, b1, b2, b3, b4, b5, b6, u => m_Model_event_s12 (m_Model_event_l12 n) b1 b2 b3 b4 b5 b6 u
def m_Model_event (a1 : Int32) (a2 : Int32) (a3 : Int32) (u : xS) : Option (Int32 × xS) :=
  m_Model_event_l12 xFU a1 a2 a3 (xs_i u 0) (0 : Int32) (0 : Int32) u
def m_Model_length (a1 : Int32) (u : xS) : Option Int32 :=
  xb1 (m_Model_wrong a1) fun r1 =>
  (if r1 = 0 then
    xg (xin a1 3) <|
    xb1 (m_Model_shownBefore (xs_L u 2 a1.toNatClampNeg) (-1 : Int32) u) fun r21 =>
    some r21
  else
    some (-1000 : Int32))
def m_Model_insert_b157 (b1 : Int32) (b2 : Int32) (b3 : Int32) (b7 : Int32) (t0 : Int32) (u : xS) : Option (Int32 × xS) :=
  xb2 (m_Model_event b1 (1 : Int32) b2 u) fun r163 u163 =>
  xg (xin r163 40) <|
  xlt (xs_sI u163 4 r163.toNatClampNeg b3) fun w175 =>
  xg (xin r163 41) <|
  xlt (xs_sI w175 5 r163.toNatClampNeg t0) fun w184 =>
  xlt (xs_sI w184 6 r163.toNatClampNeg (vp_nar .boolean b7)) fun w193 =>
  xg (xin t0 41) <|
  xlt (xs_sI w193 7 r163.toNatClampNeg ((xs_I w193 7 t0.toNatClampNeg) + (1 : Int32))) fun w209 =>
  xb1 (m_Model_intoRow r163 w209) fun u213 =>
  some ((xs_I u213 1 r163.toNatClampNeg), u213)
def m_Model_insert_s79 (k79 : Int32 → Int32 → Int32 → Int64 → Int32 → Int32 → Int32 → xS → Option (Int32 × xS)) (b1 : Int32) (b2 : Int32) (b3 : Int32) (b4 : Int64) (b6 : Int32) (b7 : Int32) (b8 : Int32) (u : xS) : Option (Int32 × xS) :=
  (if (xs_i u 0) ≤ b8 then
    (if b7 = 0 then
      xb1 (m_Model_behind b4 b6 u) fun r154 =>
      m_Model_insert_b157 b1 b2 b3 b7 r154 u
    else
      m_Model_insert_b157 b1 b2 b3 b7 b6 u)
  else
    xb1 (m_Model_in b4 b8) fun r92 =>
    (if r92 = 0 then
      k79 b1 b2 b3 b4 b6 b7 (b8 + (1 : Int32)) u
    else
      xg (xin b8 40) <|
      (if (xs_I u 2 b8.toNatClampNeg) = 0 then
        k79 b1 b2 b3 b4 b6 b7 (b8 + (1 : Int32)) u
      else
        xg (xin b8 41) <|
        (if (xs_I u 6 b8.toNatClampNeg) = 0 then
          k79 b1 b2 b3 b4 b6 b7 (b8 + (1 : Int32)) u
        else
          (if (xs_I u 5 b8.toNatClampNeg) = b6 then
            k79 b1 b2 b3 b4 b6 (0 : Int32) (b8 + (1 : Int32)) u
          else
            k79 b1 b2 b3 b4 b6 b7 (b8 + (1 : Int32)) u)))))
def m_Model_insert_l79 : Nat → Int32 → Int32 → Int32 → Int64 → Int32 → Int32 → Int32 → xS → Option (Int32 × xS)
  | 0, _, _, _, _, _, _, _, _ => none
  | n + 1, b1, b2, b3, b4, b6, b7, b8, u => m_Model_insert_s79 (m_Model_insert_l79 n) b1 b2 b3 b4 b6 b7 b8 u
def m_Model_insert (a1 : Int32) (a2 : Int32) (a3 : Int32) (u : xS) : Option (Int32 × xS) :=
  xb1 (m_Model_wrong a1) fun r1 =>
  (if r1 = 0 then
    (if a3 < (32 : Int32) then
      some ((-1000 : Int32), u)
    else
      (if (126 : Int32) < a3 then
        some ((-1000 : Int32), u)
      else
        (if (40 : Int32) ≤ (xs_i u 0) then
          some ((-1000 : Int32), u)
        else
          (if a2 < 0 then
            some ((-1000 : Int32), u)
          else
            xb1 (m_Model_length a1 u) fun r35 =>
            (if a2 ≤ r35 then
              xg (xin a1 3) <|
              (if a2 = 0 then
                m_Model_insert_l79 xFU a1 a2 a3 (xs_L u 2 a1.toNatClampNeg) (40 : Int32) (1 : Int32) (0 : Int32) u
              else
                xb1 (m_Model_shownAt (xs_L u 2 a1.toNatClampNeg) (a2 - (1 : Int32)) u) fun r68 =>
                m_Model_insert_l79 xFU a1 a2 a3 (xs_L u 2 a1.toNatClampNeg) r68 (1 : Int32) (0 : Int32) u)
            else
              some ((-1000 : Int32), u))))))
  else
    some ((-1000 : Int32), u))
def m_Model_delete (a1 : Int32) (a2 : Int32) (u : xS) : Option (Int32 × xS) :=
  xb1 (m_Model_wrong a1) fun r1 =>
  (if r1 = 0 then
    (if (40 : Int32) ≤ (xs_i u 0) then
      some ((-1000 : Int32), u)
    else
      (if a2 < 0 then
        some ((-1000 : Int32), u)
      else
        xb1 (m_Model_length a1 u) fun r23 =>
        (if a2 < r23 then
          xg (xin a1 3) <|
          xb1 (m_Model_shownAt (xs_L u 2 a1.toNatClampNeg) a2 u) fun r41 =>
          xb2 (m_Model_event a1 (0 : Int32) a2 u) fun r49 u49 =>
          xg (xin r49 41) <|
          xlt (xs_sI u49 5 r49.toNatClampNeg r41) fun w61 =>
          xg (xin r49 40) <|
          some ((xs_I w61 1 r49.toNatClampNeg), w61)
        else
          some ((-1000 : Int32), u))))
  else
    some ((-1000 : Int32), u))
def m_Model_at (a1 : Int32) (a2 : Int32) (u : xS) : Option Int32 :=
  xb1 (m_Model_wrong a1) fun r1 =>
  (if r1 = 0 then
    (if a2 < 0 then
      some (-1000 : Int32)
    else
      xb1 (m_Model_length a1 u) fun r14 =>
      (if a2 < r14 then
        xg (xin a1 3) <|
        xb1 (m_Model_shownAt (xs_L u 2 a1.toNatClampNeg) a2 u) fun r32 =>
        xg (xin r32 40) <|
        some (xs_I u 4 r32.toNatClampNeg)
      else
        some (-1000 : Int32)))
  else
    some (-1000 : Int32))
def m_Model_can (a1 : Int64) (a3 : Int64) (a5 : Int32) (u : xS) : Option Int32 :=
  xb1 (m_Model_in a1 a5) fun r3 =>
  (if r3 = 0 then
    some (0 : Int32)
  else
    xb1 (m_Model_in a3 a5) fun r12 =>
    (if r12 = 0 then
      xg (xin a5 40) <|
      (if (((xs_L u 1 a5.toNatClampNeg) &&& a1) &&& (a3 ^^^ (-1 : Int64))) = (0 : Int64) then
        some (1 : Int32)
      else
        some (0 : Int32))
    else
      some (0 : Int32)))
def m_Model_nextOf_b70 (k6 : Int64 → Int64 → Int32 → Int32 → Int32 → xS → Option Int32) (k15 : Int64 → Int64 → Int32 → Int32 → Int32 → Int32 → xS → Option Int32) (b1 : Int64) (b3 : Int64) (b5 : Int32) (b6 : Int32) (b7 : Int32) (b8 : Int32) (u : xS) : Option Int32 :=
  (if 0 ≤ b6 then
    k15 b1 b3 b5 b6 b7 (b8 + (1 : Int32)) u
  else
    k15 b1 b3 b5 b8 b7 (b8 + (1 : Int32)) u)
def m_Model_nextOf_s15 (k6 : Int64 → Int64 → Int32 → Int32 → Int32 → xS → Option Int32) (k15 : Int64 → Int64 → Int32 → Int32 → Int32 → Int32 → xS → Option Int32) (b1 : Int64) (b3 : Int64) (b5 : Int32) (b6 : Int32) (b7 : Int32) (b8 : Int32) (u : xS) : Option Int32 :=
  (if (xs_i u 0) ≤ b8 then
    k6 b1 b3 b5 b6 (b7 + (1 : Int32)) u
  else
    xg (xin b8 40) <|
    (if (xs_I u 0 b8.toNatClampNeg) = b7 then
      xb1 (m_Model_can b1 b3 b8 u) fun r41 =>
      (if r41 = 0 then
        k15 b1 b3 b5 b6 b7 (b8 + (1 : Int32)) u
      else
        (if b5 < 0 then
          m_Model_nextOf_b70 k6 k15 b1 b3 b5 b6 b7 b8 u
        else
          xb1 (m_Model_in (xs_L u 1 b8.toNatClampNeg) b5) fun r61 =>
          (if r61 = 0 then
            m_Model_nextOf_b70 k6 k15 b1 b3 b5 b6 b7 b8 u
          else
            some b8)))
    else
      k15 b1 b3 b5 b6 b7 (b8 + (1 : Int32)) u))
def m_Model_nextOf_l15 (k6 : Int64 → Int64 → Int32 → Int32 → Int32 → xS → Option Int32) : Nat → Int64 → Int64 → Int32 → Int32 → Int32 → Int32 → xS → Option Int32
  | 0, _, _, _, _, _, _, _ => none
  | n + 1, b1, b3, b5, b6, b7, b8, u => m_Model_nextOf_s15 k6 (m_Model_nextOf_l15 k6 n) b1 b3 b5 b6 b7 b8 u
def m_Model_nextOf_s6 (k6 : Int64 → Int64 → Int32 → Int32 → Int32 → xS → Option Int32) (b1 : Int64) (b3 : Int64) (b5 : Int32) (b6 : Int32) (b7 : Int32) (u : xS) : Option Int32 :=
  (if (3 : Int32) ≤ b7 then
    some b6
  else
    m_Model_nextOf_l15 k6 xFU b1 b3 b5 b6 b7 (0 : Int32) u)
def m_Model_nextOf_l6 : Nat → Int64 → Int64 → Int32 → Int32 → Int32 → xS → Option Int32
  | 0, _, _, _, _, _, _ => none
  | n + 1, b1, b3, b5, b6, b7, u => m_Model_nextOf_s6 (m_Model_nextOf_l6 n) b1 b3 b5 b6 b7 u
def m_Model_nextOf (a1 : Int64) (a3 : Int64) (a5 : Int32) (u : xS) : Option Int32 :=
  m_Model_nextOf_l6 xFU a1 a3 a5 (-1 : Int32) (0 : Int32) u
def m_Model_order_s13 (k13 : Int64 → Int64 → Int32 → Int32 → xS → Option xS) (b1 : Int64) (b3 : Int64) (b5 : Int32) (b6 : Int32) (u : xS) : Option xS :=
  (if (40 : Int32) ≤ b6 then
    some u
  else
    (if b3 = b1 then
      some u
    else
      xb1 (m_Model_nextOf b1 b3 b5 u) fun r31 =>
      xb1 (m_Model_one r31) fun r39 =>
      xg (xin (xs_i u 2) 40) <|
      xlt (xs_sI u 15 (xs_i u 2).toNatClampNeg r31) fun w54 =>
      xlt (xs_si w54 2 ((xs_i w54 2) + (1 : Int32))) fun w62 =>
      k13 b1 (b3 ||| r39) r31 (b6 + (1 : Int32)) w62))
def m_Model_order_l13 : Nat → Int64 → Int64 → Int32 → Int32 → xS → Option xS
  | 0, _, _, _, _, _ => none
  | n + 1, b1, b3, b5, b6, u => m_Model_order_s13 (m_Model_order_l13 n) b1 b3 b5 b6 u
def m_Model_order (a1 : Int64) (u : xS) : Option xS :=
  xlt (xs_si u 2 (0 : Int32)) fun w2 =>
  m_Model_order_l13 xFU a1 (0 : Int64) (-1 : Int32) (0 : Int32) w2
def m_Model_send_b62 (b1 : Int32) (b2 : Int32) (b3 : Int64) (b5 : Int32) (u : xS) : Option (Int32 × xS) :=
  (if b5 = (6 : Int32) then
    some ((-1000 : Int32), u)
  else
    (if b3 = (0 : Int64) then
      some ((-1000 : Int32), u)
    else
      xg (xin b5 6) <|
      xlt (xs_sL u 4 b5.toNatClampNeg b3) fun w86 =>
      xlt (xs_sI w86 9 b5.toNatClampNeg b1) fun w94 =>
      xlt (xs_sI w94 10 b5.toNatClampNeg b2) fun w102 =>
      xg (xin (((3 : Int32) * b1) + b2) 9) <|
      xg (xin b1 3) <|
      xlt (xs_sL w102 3 (((3 : Int32) * b1) + b2).toNatClampNeg ((xs_L w102 3 (((3 : Int32) * b1) + b2).toNatClampNeg) ||| (xs_L w102 2 b1.toNatClampNeg))) fun w121 =>
      some (b5, w121)))
def m_Model_send_s37 (k37 : Int32 → Int32 → Int64 → Int32 → xS → Option (Int32 × xS)) (b1 : Int32) (b2 : Int32) (b3 : Int64) (b5 : Int32) (u : xS) : Option (Int32 × xS) :=
  (if (6 : Int32) ≤ b5 then
    m_Model_send_b62 b1 b2 b3 b5 u
  else
    xg (xin b5 6) <|
    (if (xs_L u 4 b5.toNatClampNeg) = (0 : Int64) then
      m_Model_send_b62 b1 b2 b3 b5 u
    else
      k37 b1 b2 b3 (b5 + (1 : Int32)) u))
def m_Model_send_l37 : Nat → Int32 → Int32 → Int64 → Int32 → xS → Option (Int32 × xS)
  | 0, _, _, _, _, _ => none
  | n + 1, b1, b2, b3, b5, u => m_Model_send_s37 (m_Model_send_l37 n) b1 b2 b3 b5 u
def m_Model_send (a1 : Int32) (a2 : Int32) (u : xS) : Option (Int32 × xS) :=
  xb1 (m_Model_wrongPair a1 a2) fun r2 =>
  (if r2 = 0 then
    xg (xin a1 3) <|
    xg (xin (((3 : Int32) * a1) + a2) 9) <|
    m_Model_send_l37 xFU a1 a2 ((xs_L u 2 a1.toNatClampNeg) &&& ((xs_L u 3 (((3 : Int32) * a1) + a2).toNatClampNeg) ^^^ (-1 : Int64))) (0 : Int32) u
  else
    some ((-1000 : Int32), u))
def m_Model_none (a1 : Int32) (u : xS) : Option Int32 :=
  (if a1 < 0 then
    some (1 : Int32)
  else
    (if (5 : Int32) < a1 then
      some (1 : Int32)
    else
      xg (xin a1 6) <|
      (if (xs_L u 4 a1.toNatClampNeg) = (0 : Int64) then
        some (1 : Int32)
      else
        some (0 : Int32))))
def m_Model_discard (a1 : Int32) (u : xS) : Option (Int32 × xS) :=
  xb1 (m_Model_none a1 u) fun r2 =>
  (if r2 = 0 then
    xg (xin a1 6) <|
    xlt (xs_sL u 4 a1.toNatClampNeg (0 : Int64)) fun w16 =>
    some ((1 : Int32), w16)
  else
    some ((0 : Int32), u))
def m_Model_whole_s5 (k5 : Int64 → Int64 → Int32 → xS → Option Int64) (b1 : Int64) (b3 : Int64) (b5 : Int32) (u : xS) : Option Int64 :=
  (if (xs_i u 0) ≤ b5 then
    some b3
  else
    xb1 (m_Model_in b1 b5) fun r18 =>
    (if r18 = 0 then
      k5 b1 (b3 ||| (0 : Int64)) (b5 + (1 : Int32)) u
    else
      xg (xin b5 40) <|
      k5 b1 (b3 ||| (xs_L u 0 b5.toNatClampNeg)) (b5 + (1 : Int32)) u))
def m_Model_whole_l5 : Nat → Int64 → Int64 → Int32 → xS → Option Int64
  | 0, _, _, _, _ => none
  | n + 1, b1, b3, b5, u => m_Model_whole_s5 (m_Model_whole_l5 n) b1 b3 b5 u
def m_Model_whole (a1 : Int64) (u : xS) : Option Int64 :=
  m_Model_whole_l5 xFU a1 a1 (0 : Int32) u
def m_Model_believed (a1 : Int32) (a2 : Int32) (u : xS) : Option Int32 :=
  xb1 (m_Model_wrongPair a1 a2) fun r2 =>
  (if r2 = 0 then
    xg (xin (((3 : Int32) * a1) + a2) 9) <|
    xb1 (m_Model_many (xs_L u 3 (((3 : Int32) * a1) + a2).toNatClampNeg)) fun r24 =>
    some r24
  else
    some (-1000 : Int32))
def m_Model_hear (a1 : Int32) (a2 : Int32) (u : xS) : Option (Int32 × xS) :=
  xb1 (m_Model_wrongPair a1 a2) fun r2 =>
  (if r2 = 0 then
    xg (xin a2 3) <|
    xb1 (m_Model_tips (xs_L u 2 a2.toNatClampNeg) u) fun r19 =>
    xg (xin a1 3) <|
    xb1 (m_Model_whole (r19 &&& (xs_L u 2 a1.toNatClampNeg)) u) fun r41 =>
    xg (xin (((3 : Int32) * a1) + a2) 9) <|
    xlt (xs_sL u 3 (((3 : Int32) * a1) + a2).toNatClampNeg r41) fun w44 =>
    xb1 (m_Model_believed a1 a2 w44) fun r48 =>
    some (r48, w44)
  else
    some ((-1000 : Int32), u))
def m_Model_isCritical_s3 (k3 : Int64 → Int32 → Int32 → xS → Option Int32) (b1 : Int64) (b3 : Int32) (b4 : Int32) (u : xS) : Option Int32 :=
  (if (xs_i u 0) ≤ b4 then
    some (1 : Int32)
  else
    xb1 (m_Model_in b1 b4) fun r15 =>
    (if r15 = 0 then
      k3 b1 b3 (b4 + (1 : Int32)) u
    else
      (if b4 = b3 then
        k3 b1 b3 (b4 + (1 : Int32)) u
      else
        xg (xin b3 40) <|
        xb1 (m_Model_in (xs_L u 0 b3.toNatClampNeg) b4) fun r35 =>
        (if r35 = 0 then
          xg (xin b4 40) <|
          xb1 (m_Model_in (xs_L u 0 b4.toNatClampNeg) b3) fun r49 =>
          (if r49 = 0 then
            some (0 : Int32)
          else
            k3 b1 b3 (b4 + (1 : Int32)) u)
        else
          k3 b1 b3 (b4 + (1 : Int32)) u))))
def m_Model_isCritical_l3 : Nat → Int64 → Int32 → Int32 → xS → Option Int32
  | 0, _, _, _, _ => none
  | n + 1, b1, b3, b4, u => m_Model_isCritical_s3 (m_Model_isCritical_l3 n) b1 b3 b4 u
def m_Model_isCritical (a1 : Int64) (a3 : Int32) (u : xS) : Option Int32 :=
  m_Model_isCritical_l3 xFU a1 a3 (0 : Int32) u
def m_Model_top_s6 (k6 : Int64 → Int64 → Int32 → Int32 → xS → Option Int32) (b1 : Int64) (b3 : Int64) (b5 : Int32) (b6 : Int32) (u : xS) : Option Int32 :=
  (if (xs_i u 0) ≤ b6 then
    some b5
  else
    xb1 (m_Model_in b3 b6) fun r18 =>
    (if r18 = 0 then
      k6 b1 b3 b5 (b6 + (1 : Int32)) u
    else
      xb1 (m_Model_isCritical b1 b6 u) fun r28 =>
      (if r28 = 0 then
        k6 b1 b3 b5 (b6 + (1 : Int32)) u
      else
        (if b5 < 0 then
          k6 b1 b3 b6 (b6 + (1 : Int32)) u
        else
          xg (xin b6 40) <|
          xb1 (m_Model_many (xs_L u 0 b6.toNatClampNeg)) fun r46 =>
          xg (xin b5 40) <|
          xb1 (m_Model_many (xs_L u 0 b5.toNatClampNeg)) fun r56 =>
          (if r46 ≤ r56 then
            k6 b1 b3 b5 (b6 + (1 : Int32)) u
          else
            k6 b1 b3 b6 (b6 + (1 : Int32)) u)))))
def m_Model_top_l6 : Nat → Int64 → Int64 → Int32 → Int32 → xS → Option Int32
  | 0, _, _, _, _, _ => none
  | n + 1, b1, b3, b5, b6, u => m_Model_top_s6 (m_Model_top_l6 n) b1 b3 b5 b6 u
def m_Model_top (a1 : Int64) (a3 : Int64) (u : xS) : Option Int32 :=
  m_Model_top_l6 xFU a1 a3 (-1 : Int32) (0 : Int32) u
def m_Model_effect (a1 : Int64) (a3 : Int32) (u : xS) : Option Int32 :=
  xg (xin a3 40) <|
  (if (xs_I u 2 a3.toNatClampNeg) = 0 then
    xg (xin a3 41) <|
    xb1 (m_Model_hidden a1 u) fun r26 =>
    xb1 (m_Model_in r26 (xs_I u 5 a3.toNatClampNeg)) fun r35 =>
    (if r35 = 0 then
      xb1 (m_Model_shownBefore a1 (xs_I u 5 a3.toNatClampNeg) u) fun r52 =>
      some ((-1 : Int32) - r52)
    else
      some (1000 : Int32))
  else
    xb1 (m_Model_shownBefore a1 a3 u) fun r12 =>
    some r12)
def m_Model_merge_s146 (k146 : Int32 → Int32 → Int64 → Int64 → Int32 → xS → Option xS) (b1 : Int32) (b9 : Int32) (b10 : Int64) (b12 : Int64) (b14 : Int32) (u : xS) : Option xS :=
  (if (xs_i u 2) ≤ b14 then
    xg (xin b1 3) <|
    xlt (xs_sI u 12 b1.toNatClampNeg b9) fun w240 =>
    xlt (xs_sI w240 13 b1.toNatClampNeg (xs_i w240 2)) fun w250 =>
    xlt (xs_sL w250 2 b1.toNatClampNeg b12) fun w258 =>
    some w258
  else
    xg (xin b14 40) <|
    xg (xin (xs_I u 15 b14.toNatClampNeg) 40) <|
    xb1 (m_Model_many (b10 ^^^ (xs_L u 0 (xs_I u 15 b14.toNatClampNeg).toNatClampNeg))) fun r176 =>
    xb1 (m_Model_one (xs_I u 15 b14.toNatClampNeg)) fun r191 =>
    xb1 (m_Model_effect b12 (xs_I u 15 b14.toNatClampNeg) u) fun r213 =>
    xg (xin (((40 : Int32) * b1) + b14) 120) <|
    xlt (xs_sI u 14 (((40 : Int32) * b1) + b14).toNatClampNeg r213) fun w216 =>
    xb1 (m_Model_one (xs_I u 15 b14.toNatClampNeg)) fun r221 =>
    k146 b1 (b9 + r176) ((xs_L u 0 (xs_I u 15 b14.toNatClampNeg).toNatClampNeg) ||| r191) (b12 ||| r221) (b14 + (1 : Int32)) w216)
def m_Model_merge_l146 : Nat → Int32 → Int32 → Int64 → Int64 → Int32 → xS → Option xS
  | 0, _, _, _, _, _, _ => none
  | n + 1, b1, b9, b10, b12, b14, u => m_Model_merge_s146 (m_Model_merge_l146 n) b1 b9 b10 b12 b14 u
def m_Model_merge_s77 (k77 : Int32 → Int64 → Int64 → Int32 → Int64 → Int32 → xS → Option xS) (b1 : Int32) (b2 : Int64) (b4 : Int64) (b9 : Int32) (b10 : Int64) (b12 : Int32) (u : xS) : Option xS :=
  (if (xs_i u 2) ≤ b12 then
    xb1 (m_Model_order b2 u) fun u136 =>
    m_Model_merge_l146 xFU b1 b9 b10 b4 (0 : Int32) u136
  else
    xg (xin b12 40) <|
    xg (xin (xs_I u 15 b12.toNatClampNeg) 40) <|
    xb1 (m_Model_many (b10 ^^^ (xs_L u 0 (xs_I u 15 b12.toNatClampNeg).toNatClampNeg))) fun r107 =>
    xb1 (m_Model_one (xs_I u 15 b12.toNatClampNeg)) fun r122 =>
    k77 b1 b2 b4 (b9 + r107) ((xs_L u 0 (xs_I u 15 b12.toNatClampNeg).toNatClampNeg) ||| r122) (b12 + (1 : Int32)) u)
def m_Model_merge_l77 : Nat → Int32 → Int64 → Int64 → Int32 → Int64 → Int32 → xS → Option xS
  | 0, _, _, _, _, _, _, _ => none
  | n + 1, b1, b2, b4, b9, b10, b12, u => m_Model_merge_s77 (m_Model_merge_l77 n) b1 b2 b4 b9 b10 b12 u
def m_Model_merge_b42 (b1 : Int32) (b2 : Int64) (b4 : Int64) (t0 : Int64) (u : xS) : Option xS :=
  xb1 (m_Model_order (b4 &&& (t0 ^^^ (-1 : Int64))) u) fun u54 =>
  xg (xin b1 3) <|
  xlt (xs_sI u54 11 b1.toNatClampNeg (xs_i u54 2)) fun w66 =>
  m_Model_merge_l77 xFU b1 b2 b4 (0 : Int32) t0 (0 : Int32) w66
def m_Model_merge (a1 : Int32) (a2 : Int64) (u : xS) : Option xS :=
  xg (xin a1 3) <|
  xb1 (m_Model_top ((xs_L u 2 a1.toNatClampNeg) ||| a2) (xs_L u 2 a1.toNatClampNeg) u) fun r15 =>
  (if 0 ≤ r15 then
    xg (xin r15 40) <|
    xb1 (m_Model_one r15) fun r38 =>
    m_Model_merge_b42 a1 a2 (xs_L u 2 a1.toNatClampNeg) ((xs_L u 0 r15.toNatClampNeg) ||| r38) u
  else
    m_Model_merge_b42 a1 a2 (xs_L u 2 a1.toNatClampNeg) (0 : Int64) u)
def m_Model_deliver_b131 (b5 : Int64) (u : xS) : Option (Int32 × xS) :=
  xb1 (m_Model_many b5) fun r133 =>
  some (r133, u)
def m_Model_deliver_s29 (k29 : Int32 → Int32 → Int64 → Int32 → xS → Option (Int32 × xS)) (b1 : Int32) (b2 : Int32) (b3 : Int64) (b5 : Int32) (u : xS) : Option (Int32 × xS) :=
  (if (xs_i u 0) ≤ b5 then
    xg (xin b1 6) <|
    xg (xin (((3 : Int32) * b2) + (xs_I u 9 b1.toNatClampNeg)) 9) <|
    xb1 (m_Model_whole b3 u) fun r98 =>
    xlt (xs_sL u 3 (((3 : Int32) * b2) + (xs_I u 9 b1.toNatClampNeg)).toNatClampNeg ((xs_L u 3 (((3 : Int32) * b2) + (xs_I u 9 b1.toNatClampNeg)).toNatClampNeg) ||| r98)) fun w102 =>
    xg (xin b2 3) <|
    (if (b3 &&& ((xs_L w102 2 b2.toNatClampNeg) ^^^ (-1 : Int64))) = (0 : Int64) then
      m_Model_deliver_b131 (b3 &&& ((xs_L w102 2 b2.toNatClampNeg) ^^^ (-1 : Int64))) w102
    else
      xb1 (m_Model_merge b2 (b3 &&& ((xs_L w102 2 b2.toNatClampNeg) ^^^ (-1 : Int64))) w102) fun u128 =>
      m_Model_deliver_b131 (b3 &&& ((xs_L w102 2 b2.toNatClampNeg) ^^^ (-1 : Int64))) u128)
  else
    xb1 (m_Model_in b3 b5) fun r41 =>
    (if r41 = 0 then
      k29 b1 b2 b3 (b5 + (1 : Int32)) u
    else
      xg (xin b5 40) <|
      xg (xin b2 3) <|
      (if ((xs_L u 1 b5.toNatClampNeg) &&& ((b3 ||| (xs_L u 2 b2.toNatClampNeg)) ^^^ (-1 : Int64))) = (0 : Int64) then
        k29 b1 b2 b3 (b5 + (1 : Int32)) u
      else
        some ((-1 : Int32), u))))
def m_Model_deliver_l29 : Nat → Int32 → Int32 → Int64 → Int32 → xS → Option (Int32 × xS)
  | 0, _, _, _, _, _ => none
  | n + 1, b1, b2, b3, b5, u => m_Model_deliver_s29 (m_Model_deliver_l29 n) b1 b2 b3 b5 u
def m_Model_deliver (a1 : Int32) (u : xS) : Option (Int32 × xS) :=
  xb1 (m_Model_none a1 u) fun r2 =>
  (if r2 = 0 then
    xg (xin a1 6) <|
    m_Model_deliver_l29 xFU a1 (xs_I u 10 a1.toNatClampNeg) (xs_L u 4 a1.toNatClampNeg) (0 : Int32) u
  else
    some ((-1000 : Int32), u))
def m_Model_put_b55 (b2 : Int32) (u : xS) : Option xS :=
  xg (xin (xs_i u 3) 460) <|
  xlt (xs_sI u 16 (xs_i u 3).toNatClampNeg b2) fun w64 =>
  xlt (xs_si w64 3 ((xs_i w64 3) + (1 : Int32))) fun w72 =>
  some w72
def m_Model_put_s4 (k4 : Int32 → Int32 → xS → Option xS) (b2 : Int32) (b3 : Int32) (u : xS) : Option xS :=
  (if (5 : Int32) ≤ b3 then
    m_Model_put_b55 b2 u
  else
    (if b2 ≤ (127 : Int32) then
      m_Model_put_b55 b2 u
    else
      xg (xin (xs_i u 3) 460) <|
      xlt (xs_sI u 16 (xs_i u 3).toNatClampNeg ((b2 - b2 / (128 : Int32) * (128 : Int32)) + (128 : Int32))) fun w32 =>
      xlt (xs_si w32 3 ((xs_i w32 3) + (1 : Int32))) fun w40 =>
      k4 (b2 / (128 : Int32)) (b3 + (1 : Int32)) w40))
def m_Model_put_l4 : Nat → Int32 → Int32 → xS → Option xS
  | 0, _, _, _ => none
  | n + 1, b2, b3, u => m_Model_put_s4 (m_Model_put_l4 n) b2 b3 u
def m_Model_put (a1 : Int32) (u : xS) : Option xS :=
  m_Model_put_l4 xFU a1 (0 : Int32) u
def m_Model_putSigned_b17 (t0 : Int32) (u : xS) : Option xS :=
  xb1 (m_Model_put t0 u) fun u17 =>
  some u17
def m_Model_putSigned (a1 : Int32) (u : xS) : Option xS :=
  (if 0 ≤ a1 then
    m_Model_putSigned_b17 ((2 : Int32) * a1) u
  else
    m_Model_putSigned_b17 (((-2 : Int32) * a1) - (1 : Int32)) u)
def m_Model_putRuns_b139 (k93 : Int32 → Int32 → xS → Option xS) (b2 : Int32) (b3 : Int32) (b4 : Int32) (u : xS) : Option xS :=
  xb1 (m_Model_put b4 u) fun u142 =>
  (if b2 = 0 then
    k93 (1 : Int32) (b3 + b4) u142
  else
    k93 (0 : Int32) (b3 + b4) u142)
def m_Model_putRuns_s104 (k93 : Int32 → Int32 → xS → Option xS) (k104 : Int32 → Int32 → Int32 → xS → Option xS) (b2 : Int32) (b3 : Int32) (b4 : Int32) (u : xS) : Option xS :=
  (if (xs_i u 2) ≤ (b3 + b4) then
    m_Model_putRuns_b139 k93 b2 b3 b4 u
  else
    xg (xin (b3 + b4) 40) <|
    xg (xin (xs_I u 15 (b3 + b4).toNatClampNeg) 40) <|
    (if (xs_I u 2 (xs_I u 15 (b3 + b4).toNatClampNeg).toNatClampNeg) = b2 then
      k104 b2 b3 (b4 + (1 : Int32)) u
    else
      m_Model_putRuns_b139 k93 b2 b3 b4 u))
def m_Model_putRuns_l104 (k93 : Int32 → Int32 → xS → Option xS) : Nat → Int32 → Int32 → Int32 → xS → Option xS
  | 0, _, _, _, _ => none
  | n + 1, b2, b3, b4, u => m_Model_putRuns_s104 k93 (m_Model_putRuns_l104 k93 n) b2 b3 b4 u
def m_Model_putRuns_s93 (k93 : Int32 → Int32 → xS → Option xS) (b2 : Int32) (b3 : Int32) (u : xS) : Option xS :=
  (if (xs_i u 2) ≤ b3 then
    some u
  else
    m_Model_putRuns_l104 k93 xFU b2 b3 (0 : Int32) u)
def m_Model_putRuns_l93 : Nat → Int32 → Int32 → xS → Option xS
  | 0, _, _, _ => none
  | n + 1, b2, b3, u => m_Model_putRuns_s93 (m_Model_putRuns_l93 n) b2 b3 u
def m_Model_putRuns_b57 (k2 : Int32 → xS → Option xS) (b1 : Int32) (b2 : Int32) (b3 : Int32) (u : xS) : Option xS :=
  xg (xin b2 40) <|
  xb1 (m_Model_put (xs_I u 0 b2.toNatClampNeg) u) fun u64 =>
  xb1 (m_Model_put (xs_I u64 1 b2.toNatClampNeg) u64) fun u74 =>
  xb1 (m_Model_put b3 u74) fun u79 =>
  k2 (b1 + b3) u79
def m_Model_putRuns_s19 (k2 : Int32 → xS → Option xS) (k19 : Int32 → Int32 → Int32 → xS → Option xS) (b1 : Int32) (b2 : Int32) (b3 : Int32) (u : xS) : Option xS :=
  (if (xs_i u 2) ≤ (b1 + b3) then
    m_Model_putRuns_b57 k2 b1 b2 b3 u
  else
    xg (xin (b1 + b3) 40) <|
    xg (xin (xs_I u 15 (b1 + b3).toNatClampNeg) 40) <|
    xg (xin b2 40) <|
    (if (xs_I u 0 (xs_I u 15 (b1 + b3).toNatClampNeg).toNatClampNeg) = (xs_I u 0 b2.toNatClampNeg) then
      k19 b1 b2 (b3 + (1 : Int32)) u
    else
      m_Model_putRuns_b57 k2 b1 b2 b3 u))
def m_Model_putRuns_l19 (k2 : Int32 → xS → Option xS) : Nat → Int32 → Int32 → Int32 → xS → Option xS
  | 0, _, _, _, _ => none
  | n + 1, b1, b2, b3, u => m_Model_putRuns_s19 k2 (m_Model_putRuns_l19 k2 n) b1 b2 b3 u
def m_Model_putRuns_s2 (k2 : Int32 → xS → Option xS) (b1 : Int32) (u : xS) : Option xS :=
  (if (xs_i u 2) ≤ b1 then
    m_Model_putRuns_l93 xFU (1 : Int32) (0 : Int32) u
  else
    xg (xin b1 40) <|
    m_Model_putRuns_l19 k2 xFU b1 (xs_I u 15 b1.toNatClampNeg) (1 : Int32) u)
def m_Model_putRuns_l2 : Nat → Int32 → xS → Option xS
  | 0, _, _ => none
  | n + 1, b1, u => m_Model_putRuns_s2 (m_Model_putRuns_l2 n) b1 u
def m_Model_putRuns (u : xS) : Option xS :=
  m_Model_putRuns_l2 xFU (0 : Int32) u
def m_Model_putParents_s63 (k55 : Int32 → Int32 → xS → Option xS) (k63 : Int32 → Int32 → Int32 → xS → Option xS) (b2 : Int32) (b3 : Int32) (b4 : Int32) (u : xS) : Option xS :=
  (if (xs_i u 0) ≤ b4 then
    k55 b2 (b3 + (1 : Int32)) u
  else
    xg (xin b4 40) <|
    (if (xs_I u 0 b4.toNatClampNeg) = b3 then
      xg (xin b2 40) <|
      xb1 (m_Model_in (xs_L u 1 b2.toNatClampNeg) b4) fun r91 =>
      (if r91 = 0 then
        k63 b2 b3 (b4 + (1 : Int32)) u
      else
        xb1 (m_Model_put (b3 + ((3 : Int32) * (xs_I u 1 b4.toNatClampNeg))) u) fun u109 =>
        k63 b2 b3 (b4 + (1 : Int32)) u109)
    else
      k63 b2 b3 (b4 + (1 : Int32)) u))
def m_Model_putParents_l63 (k55 : Int32 → Int32 → xS → Option xS) : Nat → Int32 → Int32 → Int32 → xS → Option xS
  | 0, _, _, _, _ => none
  | n + 1, b2, b3, b4, u => m_Model_putParents_s63 k55 (m_Model_putParents_l63 k55 n) b2 b3 b4 u
def m_Model_putParents_s55 (k55 : Int32 → Int32 → xS → Option xS) (b2 : Int32) (b3 : Int32) (u : xS) : Option xS :=
  (if (3 : Int32) ≤ b3 then
    some u
  else
    m_Model_putParents_l63 k55 xFU b2 b3 (0 : Int32) u)
def m_Model_putParents_l55 : Nat → Int32 → Int32 → xS → Option xS
  | 0, _, _, _ => none
  | n + 1, b2, b3, u => m_Model_putParents_s55 (m_Model_putParents_l55 n) b2 b3 u
def m_Model_putParents_b38 (b2 : Int32) (u : xS) : Option xS :=
  xg (xin b2 40) <|
  xb1 (m_Model_many (xs_L u 1 b2.toNatClampNeg)) fun r46 =>
  xb1 (m_Model_put ((1 : Int32) + r46) u) fun u50 =>
  m_Model_putParents_l55 xFU b2 (0 : Int32) u50
def m_Model_putParents (a1 : Int32) (u : xS) : Option xS :=
  xg (xin a1 40) <|
  (if a1 ≤ 0 then
    m_Model_putParents_b38 (xs_I u 15 a1.toNatClampNeg) u
  else
    xg (xin (xs_I u 15 a1.toNatClampNeg) 40) <|
    xg (xin (a1 - (1 : Int32)) 40) <|
    xb1 (m_Model_one (xs_I u 15 (a1 - (1 : Int32)).toNatClampNeg)) fun r25 =>
    (if (xs_L u 1 (xs_I u 15 a1.toNatClampNeg).toNatClampNeg) = r25 then
      xb1 (m_Model_put (0 : Int32) u) fun u34 =>
      some u34
    else
      m_Model_putParents_b38 (xs_I u 15 a1.toNatClampNeg) u))
def m_Model_write_s137 (k137 : Int32 → xS → Option xS) (b3 : Int32) (u : xS) : Option xS :=
  (if (xs_i u 2) ≤ b3 then
    some u
  else
    xb1 (m_Model_putParents b3 u) fun u147 =>
    k137 (b3 + (1 : Int32)) u147)
def m_Model_write_l137 : Nat → Int32 → xS → Option xS
  | 0, _, _ => none
  | n + 1, b3, u => m_Model_write_s137 (m_Model_write_l137 n) b3 u
def m_Model_write_s78 (k78 : Int32 → Int32 → xS → Option xS) (b2 : Int32) (b3 : Int32) (u : xS) : Option xS :=
  (if (xs_i u 2) ≤ b3 then
    m_Model_write_l137 xFU (0 : Int32) u
  else
    xg (xin b3 40) <|
    xg (xin (xs_I u 15 b3.toNatClampNeg) 40) <|
    (if (xs_I u 2 (xs_I u 15 b3.toNatClampNeg).toNatClampNeg) = 0 then
      k78 b2 (b3 + (1 : Int32)) u
    else
      xb1 (m_Model_putSigned ((xs_I u 4 (xs_I u 15 b3.toNatClampNeg).toNatClampNeg) - b2) u) fun u114 =>
      xg (xin (xs_I u114 15 b3.toNatClampNeg) 40) <|
      k78 (xs_I u114 4 (xs_I u114 15 b3.toNatClampNeg).toNatClampNeg) (b3 + (1 : Int32)) u114))
def m_Model_write_l78 : Nat → Int32 → Int32 → xS → Option xS
  | 0, _, _, _ => none
  | n + 1, b2, b3, u => m_Model_write_s78 (m_Model_write_l78 n) b2 b3 u
def m_Model_write_s31 (k31 : Int32 → Int32 → xS → Option xS) (b2 : Int32) (b3 : Int32) (u : xS) : Option xS :=
  (if (xs_i u 2) ≤ b3 then
    m_Model_write_l78 xFU (0 : Int32) (0 : Int32) u
  else
    xg (xin b3 40) <|
    xg (xin (xs_I u 15 b3.toNatClampNeg) 40) <|
    xb1 (m_Model_putSigned ((xs_I u 3 (xs_I u 15 b3.toNatClampNeg).toNatClampNeg) - b2) u) fun u53 =>
    xg (xin (xs_I u53 15 b3.toNatClampNeg) 40) <|
    k31 (xs_I u53 3 (xs_I u53 15 b3.toNatClampNeg).toNatClampNeg) (b3 + (1 : Int32)) u53)
def m_Model_write_l31 : Nat → Int32 → Int32 → xS → Option xS
  | 0, _, _, _ => none
  | n + 1, b2, b3, u => m_Model_write_s31 (m_Model_write_l31 n) b2 b3 u
def m_Model_write (a1 : Int32) (u : xS) : Option xS :=
  xg (xin a1 6) <|
  xb1 (m_Model_order (xs_L u 4 a1.toNatClampNeg) u) fun u7 =>
  xlt (xs_si u7 3 (0 : Int32)) fun w12 =>
  xb1 (m_Model_put (xs_i w12 2) w12) fun u20 =>
  xb1 (m_Model_putRuns u20) fun u24 =>
  m_Model_write_l31 xFU (0 : Int32) (0 : Int32) u24
def m_Model_octets (a1 : Int32) (u : xS) : Option (Int32 × xS) :=
  xb1 (m_Model_none a1 u) fun r2 =>
  (if r2 = 0 then
    xb1 (m_Model_write a1 u) fun u14 =>
    some ((xs_i u14 3), u14)
  else
    some ((-1000 : Int32), u))
def m_Model_octet (a1 : Int32) (a2 : Int32) (u : xS) : Option (Int32 × xS) :=
  xb1 (m_Model_none a1 u) fun r2 =>
  (if r2 = 0 then
    xb1 (m_Model_write a1 u) fun u14 =>
    (if a2 < 0 then
      some ((-1000 : Int32), u14)
    else
      (if a2 < (xs_i u14 3) then
        xg (xin a2 460) <|
        some ((xs_I u14 16 a2.toNatClampNeg), u14)
      else
        some ((-1000 : Int32), u14)))
  else
    some ((-1000 : Int32), u))
def m_Model_events (a1 : Int32) (u : xS) : Option Int32 :=
  xb1 (m_Model_wrong a1) fun r1 =>
  (if r1 = 0 then
    xg (xin a1 3) <|
    xb1 (m_Model_many (xs_L u 2 a1.toNatClampNeg)) fun r19 =>
    some r19
  else
    some (-1000 : Int32))
def m_Model_heads (a1 : Int32) (u : xS) : Option Int32 :=
  xb1 (m_Model_wrong a1) fun r1 =>
  (if r1 = 0 then
    xg (xin a1 3) <|
    xb1 (m_Model_tips (xs_L u 2 a1.toNatClampNeg) u) fun r20 =>
    xb1 (m_Model_many r20) fun r23 =>
    some r23
  else
    some (-1000 : Int32))
def m_Model_head_s41 (k32 : Int32 → Int64 → Int32 → Int32 → xS → Option Int32) (k41 : Int32 → Int64 → Int32 → Int32 → Int32 → xS → Option Int32) (b2 : Int32) (b3 : Int64) (b5 : Int32) (b6 : Int32) (b7 : Int32) (u : xS) : Option Int32 :=
  (if (xs_i u 0) ≤ b7 then
    k32 b2 b3 b5 (b6 + (1 : Int32)) u
  else
    xg (xin b7 40) <|
    (if (xs_I u 0 b7.toNatClampNeg) = b6 then
      xb1 (m_Model_in b3 b7) fun r65 =>
      (if r65 = 0 then
        k41 b2 b3 b5 b6 (b7 + (1 : Int32)) u
      else
        (if b5 = b2 then
          some (b6 + ((3 : Int32) * (xs_I u 1 b7.toNatClampNeg)))
        else
          k41 b2 b3 (b5 + (1 : Int32)) b6 (b7 + (1 : Int32)) u))
    else
      k41 b2 b3 b5 b6 (b7 + (1 : Int32)) u))
def m_Model_head_l41 (k32 : Int32 → Int64 → Int32 → Int32 → xS → Option Int32) : Nat → Int32 → Int64 → Int32 → Int32 → Int32 → xS → Option Int32
  | 0, _, _, _, _, _, _ => none
  | n + 1, b2, b3, b5, b6, b7, u => m_Model_head_s41 k32 (m_Model_head_l41 k32 n) b2 b3 b5 b6 b7 u
def m_Model_head_s32 (k32 : Int32 → Int64 → Int32 → Int32 → xS → Option Int32) (b2 : Int32) (b3 : Int64) (b5 : Int32) (b6 : Int32) (u : xS) : Option Int32 :=
  (if (3 : Int32) ≤ b6 then
    some (-1000 : Int32)
  else
    m_Model_head_l41 k32 xFU b2 b3 b5 b6 (0 : Int32) u)
def m_Model_head_l32 : Nat → Int32 → Int64 → Int32 → Int32 → xS → Option Int32
  | 0, _, _, _, _, _ => none
  | n + 1, b2, b3, b5, b6, u => m_Model_head_s32 (m_Model_head_l32 n) b2 b3 b5 b6 u
def m_Model_head (a1 : Int32) (a2 : Int32) (u : xS) : Option Int32 :=
  xb1 (m_Model_wrong a1) fun r1 =>
  (if r1 = 0 then
    (if 0 ≤ a2 then
      xg (xin a1 3) <|
      xb1 (m_Model_tips (xs_L u 2 a1.toNatClampNeg) u) fun r22 =>
      m_Model_head_l32 xFU a2 r22 (0 : Int32) (0 : Int32) u
    else
      some (-1000 : Int32))
  else
    some (-1000 : Int32))
def m_Model_find_s2 (k2 : Int32 → Int32 → Int32 → xS → Option Int32) (b1 : Int32) (b2 : Int32) (b3 : Int32) (u : xS) : Option Int32 :=
  (if (xs_i u 0) ≤ b3 then
    some (-1 : Int32)
  else
    xg (xin b3 40) <|
    (if (xs_I u 0 b3.toNatClampNeg) = b1 then
      (if (xs_I u 1 b3.toNatClampNeg) = b2 then
        some b3
      else
        k2 b1 b2 (b3 + (1 : Int32)) u)
    else
      k2 b1 b2 (b3 + (1 : Int32)) u))
def m_Model_find_l2 : Nat → Int32 → Int32 → Int32 → xS → Option Int32
  | 0, _, _, _, _ => none
  | n + 1, b1, b2, b3, u => m_Model_find_s2 (m_Model_find_l2 n) b1 b2 b3 u
def m_Model_find (a1 : Int32) (a2 : Int32) (u : xS) : Option Int32 :=
  m_Model_find_l2 xFU a1 a2 (0 : Int32) u
def m_Model_ancestor (a1 : Int32) (a2 : Int32) (a3 : Int32) (a4 : Int32) (u : xS) : Option Int32 :=
  xb1 (m_Model_find a1 a2 u) fun r3 =>
  xb1 (m_Model_find a3 a4 u) fun r12 =>
  (if r3 < 0 then
    some (-1000 : Int32)
  else
    (if 0 ≤ r12 then
      xg (xin r12 40) <|
      xb1 (m_Model_in (xs_L u 0 r12.toNatClampNeg) r3) fun r40 =>
      (if r40 = 0 then
        some (0 : Int32)
      else
        some (1 : Int32))
    else
      some (-1000 : Int32)))
def m_Model_critical (a1 : Int32) (u : xS) : Option Int32 :=
  xb1 (m_Model_wrong a1) fun r1 =>
  (if r1 = 0 then
    xg (xin a1 3) <|
    xb1 (m_Model_top (xs_L u 2 a1.toNatClampNeg) (xs_L u 2 a1.toNatClampNeg) u) fun r24 =>
    (if 0 ≤ r24 then
      xg (xin r24 40) <|
      xb1 (m_Model_many (xs_L u 0 r24.toNatClampNeg)) fun r43 =>
      some ((1 : Int32) + r43)
    else
      some (0 : Int32))
  else
    some (-1000 : Int32))
def m_Model_replayed (a1 : Int32) (u : xS) : Option Int32 :=
  xb1 (m_Model_wrong a1) fun r1 =>
  (if r1 = 0 then
    xg (xin a1 3) <|
    some (xs_I u 11 a1.toNatClampNeg)
  else
    some (-1000 : Int32))
def m_Model_moves (a1 : Int32) (u : xS) : Option Int32 :=
  xb1 (m_Model_wrong a1) fun r1 =>
  (if r1 = 0 then
    xg (xin a1 3) <|
    some (xs_I u 12 a1.toNatClampNeg)
  else
    some (-1000 : Int32))
def m_Model_operation (a1 : Int32) (a2 : Int32) (u : xS) : Option Int32 :=
  xb1 (m_Model_wrong a1) fun r1 =>
  (if r1 = 0 then
    (if a2 < 0 then
      some (-1000 : Int32)
    else
      xg (xin a1 3) <|
      (if a2 < (xs_I u 13 a1.toNatClampNeg) then
        xg (xin (((40 : Int32) * a1) + a2) 120) <|
        some (xs_I u 14 (((40 : Int32) * a1) + a2).toNatClampNeg)
      else
        some (-1000 : Int32)))
  else
    some (-1000 : Int32))
