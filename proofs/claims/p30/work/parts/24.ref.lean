/-! the plain functions of the reference, as they were printed for the first claim: words of the mathematics alone, no machine runs them here -/
def fX4_in (a0 : Int64) (a2 : Int64) (a4 : Int64) : Option (Int32) :=
  if (lg_cmp a0 a2) < 0 then
    some 0
  else
    if 0 < (lg_cmp a0 a4) then
      some 0
    else
      some 1
def fX4_isBlock (a0 : Int32) : Option (Int32) :=
  ob (fX4_in a0.toInt64 0 (255)) fun r1 =>
  if ¬ (r1 &&& 1 = r1) then none else some r1
def fX4_whyNotSpan (a0 : Int32) (a1 : Int32) : Option (Int32) :=
  ob (fX4_isBlock a0) fun r1 =>
  if r1 = 0 then
    some 1
  else
    ob (fX4_in a1.toInt64 1 (99)) fun r3 =>
    if r3 = 0 then
      some 2
    else
      if (a0 + a1) ≤ 256 then
        some 0
      else
        some 3
def fX4_least (a0 : Int32) (a1 : Int32) : Option (Int32) :=
  if a1 ≤ a0 then
    some a1
  else
    some a0
def fX4_greatest (a0 : Int32) : Option (Int32) :=
  if a0 = 0 then
    some 4
  else
    if a0 = 1 then
      some 20
    else
      if a0 = 2 then
        some 40
      else
        if a0 = 3 then
          some 50
        else
          if a0 = 4 then
            some 9
          else
            some 2
def fX4_isSetting (a0 : Int32) (a1 : Int32) : Option (Int32) :=
  ob (fX4_in a0.toInt64 0 (5)) fun r1 =>
  if r1 = 0 then
    some 0
  else
    ob (fX4_greatest a0) fun r3 =>
    ob (fX4_in a1.toInt64 0 r3.toInt64) fun r4 =>
    if r4 = 0 then
      some 0
    else
      some 1
def fX4_copyState_3 (na : Nat) (nb : Nat) (ra : Nat → Int32) : Nat → Int32 → Int32 → Int32 → (Nat → Int32) → Option ((Nat → Int32))
  | 0, _, _, _, _ => none
  | n + 1, v1, v3, v4, rb =>
    if 785 ≤ v4 then
        some rb
      else
        if (v1 + v4) < 0 ∨ na ≤ (v1 + v4).toNatClampNeg then none else
        if (v3 + v4) < 0 ∨ nb ≤ (v3 + v4).toNatClampNeg then none else
        fX4_copyState_3 na nb ra n v1 v3 (v4 + 1) (upd rb (v3 + v4).toNatClampNeg (ra (v1 + v4).toNatClampNeg))
def fX4_copyState (na : Nat) (nb : Nat) (ra : Nat → Int32) (rb : Nat → Int32) (a1 : Int32) (a3 : Int32) : Option ((Nat → Int32)) :=
  fX4_copyState_3 na nb ra 1000 a1 a3 0 rb
def fX4_begin_2  : Nat → Int32 → (Nat → Int32) → Option ((Nat → Int32))
  | 0, _, _ => none
  | n + 1, v1, ro =>
    if 785 ≤ v1 then
        some (upd (upd (upd (upd (upd ro 773 2) 774 2) 775 8) 776 3) 777 2)
      else
        if v1 < 512 then
          if v1 < 0 ∨ 785 ≤ v1.toNatClampNeg then none else
          fX4_begin_2 n (v1 + 1) (upd ro v1.toNatClampNeg 0)
        else
          if 768 ≤ v1 then
            if v1 < 0 ∨ 785 ≤ v1.toNatClampNeg then none else
            fX4_begin_2 n (v1 + 1) (upd ro v1.toNatClampNeg 0)
          else
            if v1 < 0 ∨ 785 ≤ v1.toNatClampNeg then none else
            fX4_begin_2 n (v1 + 1) (upd ro v1.toNatClampNeg (-1))
def fX4_begin (ro : Nat → Int32) : Option ((Nat → Int32)) :=
  fX4_begin_2 1000 0 ro
def fX4_isQueued (ro : Nat → Int32) (a1 : Int32) : Option (Int32) :=
  ob (fX4_isBlock a1) fun r1 =>
  if r1 = 0 then
    some 0
  else
    if (512 + a1) < 0 ∨ 785 ≤ (512 + a1).toNatClampNeg then none else
    if (ro (512 + a1).toNatClampNeg) = (-1) then
      some 0
    else
      some 1
def fX4_isPinned_2 (ro : Nat → Int32) : Nat → Int32 → Int32 → Option (Int32)
  | 0, _, _ => none
  | n + 1, v1, v2 =>
    if 3 ≤ v2 then
        some 0
      else
        if (779 + v2) < 0 ∨ 785 ≤ (779 + v2).toNatClampNeg then none else
        if v1 < (ro (779 + v2).toNatClampNeg) then
          fX4_isPinned_2 ro n v1 (v2 + 1)
        else
          if (779 + v2) < 0 ∨ 785 ≤ (779 + v2).toNatClampNeg then none else
          if (782 + v2) < 0 ∨ 785 ≤ (782 + v2).toNatClampNeg then none else
          if ((ro (779 + v2).toNatClampNeg) + (ro (782 + v2).toNatClampNeg)) ≤ v1 then
            fX4_isPinned_2 ro n v1 (v2 + 1)
          else
            some 1
def fX4_isPinned (ro : Nat → Int32) (a1 : Int32) : Option (Int32) :=
  fX4_isPinned_2 ro 1000 a1 0
def fX4_allPinned_4 (ro : Nat → Int32) : Nat → Int32 → Int32 → Option (Int32)
  | 0, _, _ => none
  | n + 1, v1, v2 =>
    if 256 ≤ v2 then
        some v1
      else
        ob (fX4_isPinned ro v2) fun r2 =>
        if r2 = 0 then
          fX4_allPinned_4 ro n (v1 + 0) (v2 + 1)
        else
          fX4_allPinned_4 ro n (v1 + 1) (v2 + 1)
def fX4_allPinned (ro : Nat → Int32) : Option (Int32) :=
  fX4_allPinned_4 ro 1000 0 0
def fX4_begins (ro : Nat → Int32) (a1 : Int32) : Option (Int32) :=
  ob (fX4_isQueued ro a1) fun r1 =>
  if r1 = 0 then
    some 0
  else
    ob (fX4_isQueued ro (a1 - 1)) fun r3 =>
    if r3 = 0 then
      some 1
    else
      some 0
def fX4_ranges_4 (ro : Nat → Int32) : Nat → Int32 → Int32 → Option (Int32)
  | 0, _, _ => none
  | n + 1, v1, v2 =>
    if 256 ≤ v2 then
        some v1
      else
        ob (fX4_begins ro v2) fun r2 =>
        if r2 = 0 then
          fX4_ranges_4 ro n (v1 + 0) (v2 + 1)
        else
          fX4_ranges_4 ro n (v1 + 1) (v2 + 1)
def fX4_ranges (ro : Nat → Int32) : Option (Int32) :=
  fX4_ranges_4 ro 1000 0 0
def fX4_queuedBlocks_4 (ro : Nat → Int32) : Nat → Int32 → Int32 → Option (Int32)
  | 0, _, _ => none
  | n + 1, v1, v2 =>
    if 256 ≤ v2 then
        some v1
      else
        ob (fX4_isQueued ro v2) fun r2 =>
        if r2 = 0 then
          fX4_queuedBlocks_4 ro n (v1 + 0) (v2 + 1)
        else
          fX4_queuedBlocks_4 ro n (v1 + 1) (v2 + 1)
def fX4_queuedBlocks (ro : Nat → Int32) : Option (Int32) :=
  fX4_queuedBlocks_4 ro 1000 0 0
def fX4_endOf_2 (ro : Nat → Int32) : Nat → Int32 → Option (Int32)
  | 0, _ => none
  | n + 1, v2 =>
    ob (fX4_isQueued ro v2) fun r1 =>
      if r1 = 0 then
        some v2
      else
        fX4_endOf_2 ro n (v2 + 1)
def fX4_endOf (ro : Nat → Int32) (a1 : Int32) : Option (Int32) :=
  fX4_endOf_2 ro 1000 a1
def fX4_startOf_2 (ro : Nat → Int32) : Nat → Int32 → Option (Int32)
  | 0, _ => none
  | n + 1, v2 =>
    ob (fX4_isQueued ro (v2 - 1)) fun r1 =>
      if r1 = 0 then
        some v2
      else
        fX4_startOf_2 ro n (v2 + (-1))
def fX4_startOf (ro : Nat → Int32) (a1 : Int32) : Option (Int32) :=
  fX4_startOf_2 ro 1000 a1
def fX4_limit_66  : Nat → Int32 → Int32 → (Nat → Int32) → Option ((Nat → Int32))
  | 0, _, _, _ => none
  | n + 1, v2, v3, ro =>
    if v2 ≤ v3 then
        some ro
      else
        if (512 + v3) < 0 ∨ 785 ≤ (512 + v3).toNatClampNeg then none else
        fX4_limit_66 n v2 (v3 + 1) (upd ro (512 + v3).toNatClampNeg (-1))
def fX4_limit_13  : Nat → Int32 → Int32 → (Nat → Int32) → Option (Int32)
  | 0, _, _, _ => none
  | n + 1, v1, v2, ro =>
    if 256 ≤ v2 then
        some v1
      else
        ob (fX4_begins ro v2) fun r4 =>
        if r4 = 0 then
          fX4_limit_13 n v1 (v2 + 1) ro
        else
          if v1 = (-1) then
            fX4_limit_13 n v2 (v2 + 1) ro
          else
            ob (fX4_endOf ro v2) fun r7 =>
            ob (fX4_endOf ro v1) fun r8 =>
            if (r8 - v1) ≤ (r7 - v2) then
              fX4_limit_13 n v1 (v2 + 1) ro
            else
              fX4_limit_13 n v2 (v2 + 1) ro
def fX4_limit_0  : Nat → (Nat → Int32) → Option ((Nat → Int32))
  | 0, _ => none
  | n + 1, ro =>
    ob (fX4_ranges ro) fun r10 =>
      if r10 ≤ 16 then
        some ro
      else
        ob (fX4_limit_13 1000 (-1) 0 ro) fun v1_12 =>
        ob (fX4_endOf ro v1_12) fun r13 =>
        ob (fX4_limit_66 1000 r13 v1_12 ro) fun ro14 =>
        fX4_limit_0 n (upd ro14 772 ((ro14 772) + 1))
def fX4_limit (ro : Nat → Int32) : Option ((Nat → Int32)) :=
  ob (fX4_ranges ro) fun r15 =>
  if r15 ≤ 16 then
    some ro
  else
    ob (fX4_limit_13 1000 (-1) 0 ro) fun v1_17 =>
    ob (fX4_endOf ro v1_17) fun r18 =>
    ob (fX4_limit_66 1000 r18 v1_17 ro) fun ro19 =>
    fX4_limit_0 1000 (upd ro19 772 ((ro19 772) + 1))
def fX4_writeOn_5  : Nat → Int32 → Int32 → Int32 → Int32 → (Nat → Int32) → Option (Int32 × (Nat → Int32))
  | 0, _, _, _, _, _ => none
  | n + 1, v1, v2, v3, v4, ro =>
    if (v1 + v2) ≤ v4 then
        ob (fX4_limit (upd ro 769 0)) fun ro2 =>
        some (v3, ro2)
      else
        ob (fX4_isQueued ro v4) fun r3 =>
        if r3 = 0 then
          if (0 + v4) < 0 ∨ 785 ≤ (0 + v4).toNatClampNeg then none else
          if (256 + v4) < 0 ∨ 785 ≤ (256 + v4).toNatClampNeg then none else
          if (512 + v4) < 0 ∨ 785 ≤ (512 + v4).toNatClampNeg then none else
          fX4_writeOn_5 n v1 v2 (v3 + 0) (v4 + 1) (upd (upd (upd ro (0 + v4).toNatClampNeg 1) (256 + v4).toNatClampNeg 1) (512 + v4).toNatClampNeg (-1))
        else
          if (0 + v4) < 0 ∨ 785 ≤ (0 + v4).toNatClampNeg then none else
          if (256 + v4) < 0 ∨ 785 ≤ (256 + v4).toNatClampNeg then none else
          if (512 + v4) < 0 ∨ 785 ≤ (512 + v4).toNatClampNeg then none else
          fX4_writeOn_5 n v1 v2 (v3 + 1) (v4 + 1) (upd (upd (upd ro (0 + v4).toNatClampNeg 1) (256 + v4).toNatClampNeg 1) (512 + v4).toNatClampNeg (-1))
def fX4_writeOn (ro : Nat → Int32) (a1 : Int32) (a2 : Int32) : Option (Int32 × (Nat → Int32)) :=
  fX4_writeOn_5 1000 a1 a2 0 a1 ro
def fX4_freeOn_103  : Nat → Int32 → Int32 → Int32 → Int32 → Int32 → Int32 → (Nat → Int32) → Option ((Nat → Int32))
  | 0, _, _, _, _, _, _, _ => none
  | n + 1, v1, v2, v3, v4, v6, v7, ro =>
    if v6 ≤ v7 then
        some ro
      else
        if (512 + v7) < 0 ∨ 785 ≤ (512 + v7).toNatClampNeg then none else
        fX4_freeOn_103 n v1 v2 v3 v4 v6 (v7 + 1) (upd ro (512 + v7).toNatClampNeg (ro 768))
def fX4_freeOn_57  : Nat → Int32 → Int32 → Int32 → Int32 → (Nat → Int32) → Option (Int32 × (Nat → Int32))
  | 0, _, _, _, _, _ => none
  | n + 1, v1, v2, v3, v4, ro =>
    if (v1 + v2) ≤ v4 then
        ob (fX4_limit (upd ro 769 0)) fun ro4 =>
        some (v3, ro4)
      else
        if (512 + v4) < 0 ∨ 785 ≤ (512 + v4).toNatClampNeg then none else
        if (ro (512 + v4).toNatClampNeg) = ((ro 768) + 1) then
          ob (fX4_startOf ro v4) fun r7 =>
          ob (fX4_endOf ro v4) fun r8 =>
          ob (fX4_freeOn_103 1000 v1 v2 v3 v4 r8 r7 ro) fun ro9 =>
          fX4_freeOn_57 n v1 v2 v3 (v4 + 1) ro9
        else
          fX4_freeOn_57 n v1 v2 v3 (v4 + 1) ro
def fX4_freeOn_5  : Nat → Int32 → Int32 → Int32 → Int32 → (Nat → Int32) → Option (Int32 × (Nat → Int32))
  | 0, _, _, _, _, _ => none
  | n + 1, v1, v2, v3, v4, ro =>
    if (v1 + v2) ≤ v4 then
        fX4_freeOn_57 1000 v1 v2 v3 v1 ro
      else
        if (0 + v4) < 0 ∨ 785 ≤ (0 + v4).toNatClampNeg then none else
        if (ro (0 + v4).toNatClampNeg) = 1 then
          if (0 + v4) < 0 ∨ 785 ≤ (0 + v4).toNatClampNeg then none else
          if (512 + v4) < 0 ∨ 785 ≤ (512 + v4).toNatClampNeg then none else
          fX4_freeOn_5 n v1 v2 (v3 + 1) (v4 + 1) (upd (upd ro (0 + v4).toNatClampNeg 0) (512 + v4).toNatClampNeg (((upd ro (0 + v4).toNatClampNeg 0) 768) + 1))
        else
          fX4_freeOn_5 n v1 v2 v3 (v4 + 1) ro
def fX4_freeOn (ro : Nat → Int32) (a1 : Int32) (a2 : Int32) : Option (Int32 × (Nat → Int32)) :=
  fX4_freeOn_5 1000 a1 a2 0 a1 ro
def fX4_pinOn (ro : Nat → Int32) (a1 : Int32) (a2 : Int32) (a3 : Int32) : Option (Int32 × (Nat → Int32)) :=
  if (779 + a1) < 0 ∨ 785 ≤ (779 + a1).toNatClampNeg then none else
  if (782 + a1) < 0 ∨ 785 ≤ (782 + a1).toNatClampNeg then none else
  ob (fX4_allPinned (upd (upd ro (779 + a1).toNatClampNeg a2) (782 + a1).toNatClampNeg a3)) fun r3 =>
  some (r3, (upd (upd ro (779 + a1).toNatClampNeg a2) (782 + a1).toNatClampNeg a3))
def fX4_granule (ro : Nat → Int32) : Option (Int32) :=
  some (1 <<< ((ro 773) &&& 31))
def fX4_isGood_30 (ro : Nat → Int32) : Nat → Int32 → Int32 → Int32 → Option (Int32)
  | 0, _, _, _ => none
  | n + 1, v1, v2, v3 =>
    if (v1 + v2) ≤ v3 then
        some 1
      else
        ob (fX4_isQueued ro v3) fun r2 =>
        if r2 = 0 then
          some 0
        else
          ob (fX4_isPinned ro v3) fun r4 =>
          if r4 = 0 then
            fX4_isGood_30 ro n v1 v2 (v3 + 1)
          else
            some 0
def fX4_isGood (ro : Nat → Int32) (a1 : Int32) : Option (Int32) :=
  ob (fX4_granule ro) fun r6 =>
  ob (fX4_in a1.toInt64 0 ((256 - r6).toInt64)) fun r7 =>
  if r7 = 0 then
    some 0
  else
    if r6 = 0 then none else
    if (irem a1 r6) ≤ 0 then
      fX4_isGood_30 ro 1000 a1 r6 a1
    else
      some 0
def fX4_piece_27 (ro : Nat → Int32) : Nat → Int32 → Int32 → Int32 → Option (Int32)
  | 0, _, _, _ => none
  | n + 1, v1, v2, v3 =>
    ob (fX4_isGood ro (v1 + (v3 * v2))) fun r1 =>
      if r1 = 0 then
        some v3
      else
        fX4_piece_27 ro n v1 v2 (v3 + 1)
def fX4_piece (ro : Nat → Int32) (a1 : Int32) : Option (Int32) :=
  ob (fX4_granule ro) fun r3 =>
  ob (fX4_isGood ro a1) fun r4 =>
  if r4 = 0 then
    some 0
  else
    ob (fX4_isGood ro (a1 - r3)) fun r6 =>
    if r6 = 0 then
      fX4_piece_27 ro 1000 a1 r3 0
    else
      some 0
def fX4_isDue (ro : Nat → Int32) (a1 : Int32) : Option (Int32) :=
  if (512 + a1) < 0 ∨ 785 ≤ (512 + a1).toNatClampNeg then none else
  if ((ro 768) - (ro (512 + a1).toNatClampNeg)) < (ro 776) then
    some 0
  else
    some 1
def fX4_chosen_5 (ro : Nat → Int32) : Nat → Int32 → Int32 → Int32 → Int32 → Option (Int32)
  | 0, _, _, _, _ => none
  | n + 1, v1, v2, v3, v4 =>
    if 256 ≤ v4 then
        some v3
      else
        ob (fX4_piece ro v4) fun r2 =>
        if r2 ≤ 0 then
          fX4_chosen_5 ro n v1 v2 v3 (v4 + 1)
        else
          if v2 = 0 then
            if v3 = (-1) then
              fX4_chosen_5 ro n v1 v2 v4 (v4 + 1)
            else
              if v1 = 0 then
                if (512 + v4) < 0 ∨ 785 ≤ (512 + v4).toNatClampNeg then none else
                if (512 + v3) < 0 ∨ 785 ≤ (512 + v3).toNatClampNeg then none else
                if (ro (512 + v4).toNatClampNeg) < (ro (512 + v3).toNatClampNeg) then
                  fX4_chosen_5 ro n v1 v2 v4 (v4 + 1)
                else
                  if v1 = 1 then
                    ob (fX4_piece ro v4) fun r21 =>
                    ob (fX4_piece ro v3) fun r22 =>
                    if r21 ≤ r22 then
                      fX4_chosen_5 ro n v1 v2 v3 (v4 + 1)
                    else
                      fX4_chosen_5 ro n v1 v2 v4 (v4 + 1)
                  else
                    fX4_chosen_5 ro n v1 v2 v3 (v4 + 1)
              else
                if v1 = 1 then
                  ob (fX4_piece ro v4) fun r10 =>
                  ob (fX4_piece ro v3) fun r11 =>
                  if r10 ≤ r11 then
                    fX4_chosen_5 ro n v1 v2 v3 (v4 + 1)
                  else
                    fX4_chosen_5 ro n v1 v2 v4 (v4 + 1)
                else
                  fX4_chosen_5 ro n v1 v2 v3 (v4 + 1)
          else
            ob (fX4_isDue ro v4) fun r26 =>
            if r26 = 0 then
              fX4_chosen_5 ro n v1 v2 v3 (v4 + 1)
            else
              if v3 = (-1) then
                fX4_chosen_5 ro n v1 v2 v4 (v4 + 1)
              else
                if v1 = 0 then
                  if (512 + v4) < 0 ∨ 785 ≤ (512 + v4).toNatClampNeg then none else
                  if (512 + v3) < 0 ∨ 785 ≤ (512 + v3).toNatClampNeg then none else
                  if (ro (512 + v4).toNatClampNeg) < (ro (512 + v3).toNatClampNeg) then
                    fX4_chosen_5 ro n v1 v2 v4 (v4 + 1)
                  else
                    if v1 = 1 then
                      ob (fX4_piece ro v4) fun r44 =>
                      ob (fX4_piece ro v3) fun r45 =>
                      if r44 ≤ r45 then
                        fX4_chosen_5 ro n v1 v2 v3 (v4 + 1)
                      else
                        fX4_chosen_5 ro n v1 v2 v4 (v4 + 1)
                    else
                      fX4_chosen_5 ro n v1 v2 v3 (v4 + 1)
                else
                  if v1 = 1 then
                    ob (fX4_piece ro v4) fun r33 =>
                    ob (fX4_piece ro v3) fun r34 =>
                    if r33 ≤ r34 then
                      fX4_chosen_5 ro n v1 v2 v3 (v4 + 1)
                    else
                      fX4_chosen_5 ro n v1 v2 v4 (v4 + 1)
                  else
                    fX4_chosen_5 ro n v1 v2 v3 (v4 + 1)
def fX4_chosen (ro : Nat → Int32) (a1 : Int32) (a2 : Int32) : Option (Int32) :=
  fX4_chosen_5 ro 1000 a1 a2 (-1) 0
def fX4_lay (ro : Nat → Int32) (a1 : Int32) (a2 : Int32) : Option (Int32 × (Nat → Int32)) :=
  if (773 + a1) < 0 ∨ 785 ≤ (773 + a1).toNatClampNeg then none else
  if (773 + a1) < 0 ∨ 785 ≤ (773 + a1).toNatClampNeg then none else
  some ((ro (773 + a1).toNatClampNeg), (upd ro (773 + a1).toNatClampNeg a2))
def fX4_sum_4 (ro : Nat → Int32) : Nat → Int32 → Int32 → Int32 → Option (Int32)
  | 0, _, _, _ => none
  | n + 1, v1, v2, v3 =>
    if 256 ≤ v3 then
        some v2
      else
        if (v1 + v3) < 0 ∨ 785 ≤ (v1 + v3).toNatClampNeg then none else
        fX4_sum_4 ro n v1 (v2 + (ro (v1 + v3).toNatClampNeg)) (v3 + 1)
def fX4_sum (ro : Nat → Int32) (a1 : Int32) : Option (Int32) :=
  fX4_sum_4 ro 1000 a1 0 0
def fX4_lost_4 (ro : Nat → Int32) : Nat → Int32 → Int32 → Option (Int32)
  | 0, _, _ => none
  | n + 1, v1, v2 =>
    if 256 ≤ v2 then
        some v1
      else
        if (256 + v2) < 0 ∨ 785 ≤ (256 + v2).toNatClampNeg then none else
        if (ro (256 + v2).toNatClampNeg) = 1 then
          if (0 + v2) < 0 ∨ 785 ≤ (0 + v2).toNatClampNeg then none else
          if (ro (0 + v2).toNatClampNeg) = 0 then
            ob (fX4_isQueued ro v2) fun r6 =>
            if r6 = 0 then
              fX4_lost_4 ro n (v1 + 1) (v2 + 1)
            else
              fX4_lost_4 ro n (v1 + 0) (v2 + 1)
          else
            fX4_lost_4 ro n (v1 + 0) (v2 + 1)
        else
          fX4_lost_4 ro n (v1 + 0) (v2 + 1)
def fX4_lost (ro : Nat → Int32) : Option (Int32) :=
  fX4_lost_4 ro 1000 0 0
def fX4_rangeAt_4 (ro : Nat → Int32) : Nat → Int32 → Int32 → Option (Int32)
  | 0, _, _ => none
  | n + 1, v2, v3 =>
    if 256 ≤ v3 then
        some (-1)
      else
        ob (fX4_begins ro v3) fun r2 =>
        if r2 = 0 then
          fX4_rangeAt_4 ro n v2 (v3 + 1)
        else
          if v2 = 0 then
            some v3
          else
            fX4_rangeAt_4 ro n (v2 + (-1)) (v3 + 1)
def fX4_rangeAt (ro : Nat → Int32) (a1 : Int32) : Option (Int32) :=
  fX4_rangeAt_4 ro 1000 a1 0
def fX4_refused (a1 : Int32) : Option (Int32 × (Int32)) :=
  if a1 ≤ 0 then
    some (0, a1)
  else
    some (1, a1)
def fX4_thrown (rf : Int32) : Option (Int32) :=
  some rf
def fX4_clearText (sz : Int32) : Option (Int32 × (Int32) × (Int32)) :=
  some (sz, 0, 0)
def fX4_append (sz : Int32) (tx : Nat → Int32) (a1 : Int32) : Option (Int32 × (Int32) × (Int32) × (Nat → Int32)) :=
  ob (fX4_in a1.toInt64 0 (255)) fun r1 =>
  if r1 = 0 then
    ob2 (fX4_refused 1) fun r10 rf10 =>
    if r10 = 0 then
      if sz < 0 ∨ 120 ≤ sz.toNatClampNeg then none else
      some ((sz + 1), rf10, (sz + 1), (upd tx sz.toNatClampNeg a1))
    else
      some (0, rf10, sz, tx)
  else
    if sz = 120 then
      ob2 (fX4_refused 2) fun r7 rf7 =>
      if r7 = 0 then
        if sz < 0 ∨ 120 ≤ sz.toNatClampNeg then none else
        some ((sz + 1), rf7, (sz + 1), (upd tx sz.toNatClampNeg a1))
      else
        some (0, rf7, sz, tx)
    else
      ob2 (fX4_refused 0) fun r4 rf4 =>
      if r4 = 0 then
        if sz < 0 ∨ 120 ≤ sz.toNatClampNeg then none else
        some ((sz + 1), rf4, (sz + 1), (upd tx sz.toNatClampNeg a1))
      else
        some (0, rf4, sz, tx)
def fX4_figures_26 (sz : Int32) (tx : Nat → Int32) : Nat → Int32 → Int32 → Int32 → Int32 → Int32 → (Int32) → Option (Int32 × (Int32))
  | 0, _, _, _, _, _, _ => none
  | n + 1, v1, v3, v4, v5, v6, sp =>
    if v6 ≤ 0 then
        if v1 = (-1) then
          some ((-1), sp)
        else
          some (v5, sp)
      else
        if v1 = (-1) then
          if v1 = (-1) then
            some ((-1), sp)
          else
            some (v5, sp)
        else
          if sz ≤ sp then
            ob (fX4_in (-1) 0 (9)) fun r6 =>
            if r6 = 0 then
              some ((-1), sp)
            else
              if v4 < (v5 + ((-1) * v6)) then
                some ((-1), sp)
              else
                if v3 ≤ (((v5 + ((-1) * v6)) + v6) - 1) then
                  fX4_figures_26 sz tx n v1 v3 v4 (v5 + ((-1) * v6)) (v6 / 10) (sp + 1)
                else
                  some ((-1), sp)
          else
            if sp < 0 ∨ 120 ≤ sp.toNatClampNeg then none else
            ob (fX4_in (((tx sp.toNatClampNeg) - 48).toInt64) 0 (9)) fun r11 =>
            if r11 = 0 then
              some ((-1), sp)
            else
              if v4 < (v5 + (((tx sp.toNatClampNeg) - 48) * v6)) then
                some ((-1), sp)
              else
                if v3 ≤ (((v5 + (((tx sp.toNatClampNeg) - 48) * v6)) + v6) - 1) then
                  fX4_figures_26 sz tx n v1 v3 v4 (v5 + (((tx sp.toNatClampNeg) - 48) * v6)) (v6 / 10) (sp + 1)
                else
                  some ((-1), sp)
def fX4_figures (sz : Int32) (sp : Int32) (tx : Nat → Int32) (a1 : Int32) (a2 : Int32) (a3 : Int32) (a4 : Int32) : Option (Int32 × (Int32)) :=
  if a2 = 3 then
    fX4_figures_26 sz tx 1000 a1 a3 a4 0 100 sp
  else
    if a2 = 2 then
      fX4_figures_26 sz tx 1000 a1 a3 a4 0 10 sp
    else
      fX4_figures_26 sz tx 1000 a1 a3 a4 0 1 sp
def fX4_done (ou : Int32) (a1 : Int32) : Option (Int32 × (Int32)) :=
  if a1 = 0 then
    some (1, (ou + 1))
  else
    some (1, (ou + 0))
def fX4_send_11  : Nat → Int32 → Int32 → Int32 → (Int32) → (Int32) → (Nat → Int32) → Option ((Int32) × (Int32) × (Nat → Int32))
  | 0, _, _, _, _, _, _ => none
  | n + 1, v2, v4, v5, sF, sB, ro =>
    if (v2 + v4) ≤ v5 then
        ob (fX4_limit (upd (upd ro 770 ((ro 770) + 1)) 771 (((upd ro 770 ((ro 770) + 1)) 771) + v4))) fun ro2 =>
        some (v2, v4, ro2)
      else
        if (256 + v5) < 0 ∨ 785 ≤ (256 + v5).toNatClampNeg then none else
        if (512 + v5) < 0 ∨ 785 ≤ (512 + v5).toNatClampNeg then none else
        fX4_send_11 n v2 v4 (v5 + 1) sF sB (upd (upd ro (256 + v5).toNatClampNeg 0) (512 + v5).toNatClampNeg (-1))
def fX4_send (sF : Int32) (sB : Int32) (ro : Nat → Int32) (a2 : Int32) (a3 : Int32) : Option ((Int32) × (Int32) × (Nat → Int32)) :=
  ob (fX4_granule ro) fun r5 =>
  fX4_send_11 1000 a2 (a3 * r5) a2 sF sB ro
def fX4_tick_50  : Nat → Int32 → Int32 → Int32 → (Int32) → (Int32) → (Nat → Int32) → Option ((Int32) × (Int32) × (Nat → Int32))
  | 0, _, _, _, _, _, _ => none
  | n + 1, v2, v3, v4, sF, sB, ro =>
    if v4 = (-1) then
        some (sF, sB, (upd (upd ro 769 ((ro 769) + 1)) 768 (((upd ro 769 ((ro 769) + 1)) 768) + 1)))
      else
        ob (fX4_piece ro v4) fun r2 =>
        ob (fX4_least r2 (v2 - v3)) fun r3 =>
        ob (fX4_least 16 r3) fun r4 =>
        ob3 (fX4_send sF sB ro v4 r4) fun sF5 sB5 ro5 =>
        if (v2 - (v3 + r4)) ≤ v3 then
          fX4_tick_50 n (v2 - (v3 + r4)) v3 (-1) sF5 sB5 ro5
        else
          ob (fX4_chosen ro5 (ro5 778) 1) fun r7 =>
          fX4_tick_50 n (v2 - (v3 + r4)) v3 r7 sF5 sB5 ro5
def fX4_tick (sF : Int32) (sB : Int32) (ro : Nat → Int32) : Option ((Int32) × (Int32) × (Nat → Int32)) :=
  if (ro 769) < (ro 774) then
    if 0 ≤ (ro 777) then
      fX4_tick_50 1000 0 (ro 777) (-1) sF sB ro
    else
      ob (fX4_chosen ro (ro 778) 1) fun r10 =>
      fX4_tick_50 1000 0 (ro 777) r10 sF sB ro
  else
    if (ro 775) ≤ (ro 777) then
      fX4_tick_50 1000 (ro 775) (ro 777) (-1) sF sB ro
    else
      ob (fX4_chosen ro (ro 778) 1) fun r12 =>
      fX4_tick_50 1000 (ro 775) (ro 777) r12 sF sB ro
def fX4_runOn_9  : Nat → Int32 → Int32 → Int32 → (Int32) → (Int32) → (Nat → Int32) → Option (Int32 × (Int32) × (Int32) × (Nat → Int32))
  | 0, _, _, _, _, _, _ => none
  | n + 1, v2, v3, v4, sF, sB, ro =>
    if v2 ≤ v4 then
        some (((ro 771) - v3), sF, sB, ro)
      else
        ob3 (fX4_tick sF sB ro) fun sF2 sB2 ro2 =>
        fX4_runOn_9 n v2 v3 (v4 + 1) sF2 sB2 ro2
def fX4_runOn (sF : Int32) (sB : Int32) (ro : Nat → Int32) (a2 : Int32) : Option (Int32 × (Int32) × (Int32) × (Nat → Int32)) :=
  fX4_runOn_9 1000 a2 (ro 771) 0 sF sB ro
def fX4_flushOn_13  : Nat → Int32 → Int32 → (Int32) → (Int32) → (Nat → Int32) → Option (Int32 × (Int32) × (Int32) × (Nat → Int32))
  | 0, _, _, _, _, _ => none
  | n + 1, v2, v3, sF, sB, ro =>
    if v3 = (-1) then
        some (((ro 770) - v2), sF, sB, ro)
      else
        ob (fX4_piece ro v3) fun r2 =>
        ob (fX4_least 16 r2) fun r3 =>
        ob3 (fX4_send sF sB ro v3 r3) fun sF4 sB4 ro4 =>
        ob (fX4_chosen ro4 2 0) fun r5 =>
        fX4_flushOn_13 n v2 r5 sF4 sB4 ro4
def fX4_flushOn (sF : Int32) (sB : Int32) (ro : Nat → Int32) : Option (Int32 × (Int32) × (Int32) × (Nat → Int32)) :=
  ob (fX4_chosen ro 2 0) fun r6 =>
  fX4_flushOn_13 1000 (ro 770) r6 sF sB ro
def fX4_readCommand (sz : Int32) (sF : Int32) (sB : Int32) (sp : Int32) (ou : Int32) (tx : Nat → Int32) (ro : Nat → Int32) : Option (Int32 × (Int32) × (Int32) × (Int32) × (Int32) × (Nat → Int32)) :=
  if sp < 0 ∨ 120 ≤ sp.toNatClampNeg then none else
  if (tx sp.toNatClampNeg) = 102 then
    ob2 (fX4_figures sz (sp + 1) tx 0 3 0 255) fun r3 sp3 =>
    ob2 (fX4_figures sz sp3 tx r3 2 1 99) fun r4 sp4 =>
    if r4 = (-1) then
      some (0, sF, sB, sp4, ou, ro)
    else
      ob (fX4_whyNotSpan r3 r4) fun r6 =>
      if r6 = 0 then
        if (tx sp.toNatClampNeg) = 119 then
          ob2 (fX4_writeOn ro r3 r4) fun r17 ro17 =>
          if r17 < 0 then
            ob2 (fX4_done ou 0) fun r19 ou19 =>
            if r19 = 0 then
              some (0, sF, sB, sp4, ou19, ro17)
            else
              some (1, sF, sB, sp4, ou19, ro17)
          else
            ob2 (fX4_done ou 1) fun r21 ou21 =>
            if r21 = 0 then
              some (0, sF, sB, sp4, ou21, ro17)
            else
              some (1, sF, sB, sp4, ou21, ro17)
        else
          ob2 (fX4_freeOn ro r3 r4) fun r11 ro11 =>
          if r11 < 0 then
            ob2 (fX4_done ou 0) fun r13 ou13 =>
            if r13 = 0 then
              some (0, sF, sB, sp4, ou13, ro11)
            else
              some (1, sF, sB, sp4, ou13, ro11)
          else
            ob2 (fX4_done ou 1) fun r15 ou15 =>
            if r15 = 0 then
              some (0, sF, sB, sp4, ou15, ro11)
            else
              some (1, sF, sB, sp4, ou15, ro11)
      else
        ob2 (fX4_done ou 0) fun r8 ou8 =>
        if r8 = 0 then
          some (0, sF, sB, sp4, ou8, ro)
        else
          some (1, sF, sB, sp4, ou8, ro)
  else if (tx sp.toNatClampNeg) = 105 then
    ob2 (fX4_figures sz (sp + 1) tx 0 2 1 60) fun r24 sp24 =>
    if r24 = (-1) then
      some (0, sF, sB, sp24, ou, ro)
    else
      ob4 (fX4_runOn sF sB ro r24) fun r26 sF26 sB26 ro26 =>
      if r26 < 0 then
        ob2 (fX4_done ou 0) fun r28 ou28 =>
        if r28 = 0 then
          some (0, sF26, sB26, sp24, ou28, ro26)
        else
          some (1, sF26, sB26, sp24, ou28, ro26)
      else
        ob2 (fX4_done ou 1) fun r30 ou30 =>
        if r30 = 0 then
          some (0, sF26, sB26, sp24, ou30, ro26)
        else
          some (1, sF26, sB26, sp24, ou30, ro26)
  else if (tx sp.toNatClampNeg) = 112 then
    ob2 (fX4_figures sz (sp + 1) tx 0 1 0 2) fun r33 sp33 =>
    ob2 (fX4_figures sz sp33 tx r33 3 0 255) fun r34 sp34 =>
    ob2 (fX4_figures sz sp34 tx r34 2 1 99) fun r35 sp35 =>
    if r35 = (-1) then
      some (0, sF, sB, sp35, ou, ro)
    else
      ob (fX4_whyNotSpan r34 r35) fun r37 =>
      if r37 = 0 then
        ob2 (fX4_pinOn ro r33 r34 r35) fun r41 ro41 =>
        if r41 < 0 then
          ob2 (fX4_done ou 0) fun r43 ou43 =>
          if r43 = 0 then
            some (0, sF, sB, sp35, ou43, ro41)
          else
            some (1, sF, sB, sp35, ou43, ro41)
        else
          ob2 (fX4_done ou 1) fun r45 ou45 =>
          if r45 = 0 then
            some (0, sF, sB, sp35, ou45, ro41)
          else
            some (1, sF, sB, sp35, ou45, ro41)
      else
        ob2 (fX4_done ou 0) fun r39 ou39 =>
        if r39 = 0 then
          some (0, sF, sB, sp35, ou39, ro)
        else
          some (1, sF, sB, sp35, ou39, ro)
  else if (tx sp.toNatClampNeg) = 115 then
    ob2 (fX4_figures sz (sp + 1) tx 0 1 0 5) fun r48 sp48 =>
    ob2 (fX4_figures sz sp48 tx r48 2 0 99) fun r49 sp49 =>
    if r49 = (-1) then
      some (0, sF, sB, sp49, ou, ro)
    else
      ob (fX4_isSetting r48 r49) fun r51 =>
      if r51 = 0 then
        ob2 (fX4_done ou 0) fun r53 ou53 =>
        if r53 = 0 then
          some (0, sF, sB, sp49, ou53, ro)
        else
          some (1, sF, sB, sp49, ou53, ro)
      else
        ob2 (fX4_lay ro r48 r49) fun r55 ro55 =>
        if r55 < 0 then
          ob2 (fX4_done ou 0) fun r57 ou57 =>
          if r57 = 0 then
            some (0, sF, sB, sp49, ou57, ro55)
          else
            some (1, sF, sB, sp49, ou57, ro55)
        else
          ob2 (fX4_done ou 1) fun r59 ou59 =>
          if r59 = 0 then
            some (0, sF, sB, sp49, ou59, ro55)
          else
            some (1, sF, sB, sp49, ou59, ro55)
  else if (tx sp.toNatClampNeg) = 119 then
    ob2 (fX4_figures sz (sp + 1) tx 0 3 0 255) fun r62 sp62 =>
    ob2 (fX4_figures sz sp62 tx r62 2 1 99) fun r63 sp63 =>
    if r63 = (-1) then
      some (0, sF, sB, sp63, ou, ro)
    else
      ob (fX4_whyNotSpan r62 r63) fun r65 =>
      if r65 = 0 then
        if (tx sp.toNatClampNeg) = 119 then
          ob2 (fX4_writeOn ro r62 r63) fun r76 ro76 =>
          if r76 < 0 then
            ob2 (fX4_done ou 0) fun r78 ou78 =>
            if r78 = 0 then
              some (0, sF, sB, sp63, ou78, ro76)
            else
              some (1, sF, sB, sp63, ou78, ro76)
          else
            ob2 (fX4_done ou 1) fun r80 ou80 =>
            if r80 = 0 then
              some (0, sF, sB, sp63, ou80, ro76)
            else
              some (1, sF, sB, sp63, ou80, ro76)
        else
          ob2 (fX4_freeOn ro r62 r63) fun r70 ro70 =>
          if r70 < 0 then
            ob2 (fX4_done ou 0) fun r72 ou72 =>
            if r72 = 0 then
              some (0, sF, sB, sp63, ou72, ro70)
            else
              some (1, sF, sB, sp63, ou72, ro70)
          else
            ob2 (fX4_done ou 1) fun r74 ou74 =>
            if r74 = 0 then
              some (0, sF, sB, sp63, ou74, ro70)
            else
              some (1, sF, sB, sp63, ou74, ro70)
      else
        ob2 (fX4_done ou 0) fun r67 ou67 =>
        if r67 = 0 then
          some (0, sF, sB, sp63, ou67, ro)
        else
          some (1, sF, sB, sp63, ou67, ro)
  else some (0, sF, sB, ((sp + 1) - 1), ou, ro)
def fX4_readText_39 (sz : Int32) (tx : Nat → Int32) : Nat → (Int32) → (Int32) → (Int32) → (Int32) → (Nat → Int32) → Option (Int32 × (Int32) × (Int32) × (Int32) × (Int32) × (Nat → Int32))
  | 0, _, _, _, _, _ => none
  | n + 1, sF, sB, sp, ou, ro =>
    if sz ≤ sp then
        some ((-1), sF, sB, sp, ou, ro)
      else
        ob6 (fX4_readCommand sz sF sB sp ou tx ro) fun r2 sF2 sB2 sp2 ou2 ro2 =>
        if r2 = 0 then
          some (sp2, sF2, sB2, sp2, ou2, ro2)
        else
          fX4_readText_39 sz tx n sF2 sB2 sp2 ou2 ro2
def fX4_readText (sz : Int32) (sF : Int32) (sB : Int32) (tx : Nat → Int32) (ro : Nat → Int32) : Option (Int32 × (Int32) × (Int32) × (Int32) × (Int32) × (Nat → Int32)) :=
  ob (fX4_begin ro) fun ro4 =>
  if sz = 0 then
    some (0, sF, sB, 0, 0, ro4)
  else
    if (tx 0) = 68 then
      fX4_readText_39 sz tx 1000 sF sB 1 0 ro4
    else
      some (0, sF, sB, 0, 0, ro4)
def fX4_errorPosition (sz : Int32) (sF : Int32) (sB : Int32) (tx : Nat → Int32) (tr : Nat → Int32) : Option (Int32 × (Int32) × (Int32) × (Int32) × (Int32) × (Int32) × (Nat → Int32)) :=
  ob6 (fX4_readText sz sF sB tx tr) fun r1 sF1 sB1 sp1 ou1 tr1 =>
  some (r1, 0, sF1, sB1, sp1, ou1, tr1)
def fX4_load (sz : Int32) (ac : Int32) (sF : Int32) (sB : Int32) (tx : Nat → Int32) (nw : Nat → Int32) (tr : Nat → Int32) (ik : Nat → Int32) : Option (Int32 × (Int32) × (Int32) × (Int32) × (Int32) × (Int32) × (Int32) × (Nat → Int32) × (Nat → Int32) × (Nat → Int32)) :=
  ob6 (fX4_readText sz sF sB tx tr) fun r1 sF1 sB1 sp1 ou1 tr1 =>
  if r1 = (-1) then
    ob2 (fX4_refused 0) fun r6 rf6 =>
    if r6 = 0 then
      ob (fX4_copyState 785 785 tr1 nw 0 0) fun nw8 =>
      some (ou1, rf6, 0, sF1, sB1, sp1, ou1, nw8, tr1, (upd (upd ik 0 (vp_nar .boolean 0)) 1 (vp_nar .boolean 0)))
    else
      some (0, rf6, ac, sF1, sB1, sp1, ou1, nw, tr1, ik)
  else
    ob2 (fX4_refused 1) fun r3 rf3 =>
    if r3 = 0 then
      ob (fX4_copyState 785 785 tr1 nw 0 0) fun nw5 =>
      some (ou1, rf3, 0, sF1, sB1, sp1, ou1, nw5, tr1, (upd (upd ik 0 (vp_nar .boolean 0)) 1 (vp_nar .boolean 0)))
    else
      some (0, rf3, ac, sF1, sB1, sp1, ou1, nw, tr1, ik)
def fX4_about (nw : Nat → Int32) (a1 : Int32) : Option (Int32 × (Int32)) :=
  ob (fX4_in a1.toInt64 0 (10)) fun r1 =>
  if r1 = 0 then
    ob2 (fX4_refused 1) fun r3 rf3 =>
    if r3 = 0 then
      if a1 = 0 then
        ob (fX4_sum nw 0) fun r6 =>
        some (r6, rf3)
      else if a1 = 1 then
        ob (fX4_sum nw 256) fun r8 =>
        some (r8, rf3)
      else if a1 = 2 then
        ob (fX4_ranges nw) fun r10 =>
        some (r10, rf3)
      else if a1 = 3 then
        ob (fX4_queuedBlocks nw) fun r12 =>
        some (r12, rf3)
      else if a1 = 9 then
        ob (fX4_allPinned nw) fun r14 =>
        some (r14, rf3)
      else if a1 = 10 then
        ob (fX4_lost nw) fun r16 =>
        some (r16, rf3)
      else if ((768 + a1) - 4) < 0 ∨ 785 ≤ ((768 + a1) - 4).toNatClampNeg then none else
        some ((nw ((768 + a1) - 4).toNatClampNeg), rf3)
    else
      some (0, rf3)
  else
    ob2 (fX4_refused 0) fun r21 rf21 =>
    if r21 = 0 then
      if a1 = 0 then
        ob (fX4_sum nw 0) fun r24 =>
        some (r24, rf21)
      else if a1 = 1 then
        ob (fX4_sum nw 256) fun r26 =>
        some (r26, rf21)
      else if a1 = 2 then
        ob (fX4_ranges nw) fun r28 =>
        some (r28, rf21)
      else if a1 = 3 then
        ob (fX4_queuedBlocks nw) fun r30 =>
        some (r30, rf21)
      else if a1 = 9 then
        ob (fX4_allPinned nw) fun r32 =>
        some (r32, rf21)
      else if a1 = 10 then
        ob (fX4_lost nw) fun r34 =>
        some (r34, rf21)
      else if ((768 + a1) - 4) < 0 ∨ 785 ≤ ((768 + a1) - 4).toNatClampNeg then none else
        some ((nw ((768 + a1) - 4).toNatClampNeg), rf21)
    else
      some (0, rf21)
def fX4_block_88 (nw : Nat → Int32) : Nat → Int32 → Int32 → Int32 → (Int32) → Option (Int32 × (Int32))
  | 0, _, _, _, _ => none
  | n + 1, v1, v3, v4, rf =>
    if v1 < v4 then
        ob (fX4_isQueued nw v1) fun r2 =>
        if r2 = 0 then
          some ((-1), rf)
        else
          some (v3, rf)
      else
        ob (fX4_begins nw v4) fun r4 =>
        if r4 = 0 then
          fX4_block_88 nw n v1 (v3 + 0) (v4 + 1) rf
        else
          fX4_block_88 nw n v1 (v3 + 1) (v4 + 1) rf
def fX4_block (nw : Nat → Int32) (a1 : Int32) (a2 : Int32) : Option (Int32 × (Int32)) :=
  ob (fX4_isBlock a1) fun r6 =>
  if r6 = 0 then
    ob2 (fX4_refused 1) fun r28 rf28 =>
    if r28 = 0 then
      if 2 ≤ a2 then
        if a2 = 3 then
          ob (fX4_isPinned nw a1) fun r32 =>
          if r32 = 0 then
            some (0, rf28)
          else
            some (1, rf28)
        else
          fX4_block_88 nw 1000 a1 (-1) 0 rf28
      else
        if a2 = 0 then
          if (0 + a1) < 0 ∨ 785 ≤ (0 + a1).toNatClampNeg then none else
          some ((nw (0 + a1).toNatClampNeg), rf28)
        else
          if (256 + a1) < 0 ∨ 785 ≤ (256 + a1).toNatClampNeg then none else
          some ((nw (256 + a1).toNatClampNeg), rf28)
    else
      some (0, rf28)
  else
    ob (fX4_in a2.toInt64 0 (3)) fun r8 =>
    if r8 = 0 then
      ob2 (fX4_refused 2) fun r10 rf10 =>
      if r10 = 0 then
        if 2 ≤ a2 then
          if a2 = 3 then
            ob (fX4_isPinned nw a1) fun r14 =>
            if r14 = 0 then
              some (0, rf10)
            else
              some (1, rf10)
          else
            fX4_block_88 nw 1000 a1 (-1) 0 rf10
        else
          if a2 = 0 then
            if (0 + a1) < 0 ∨ 785 ≤ (0 + a1).toNatClampNeg then none else
            some ((nw (0 + a1).toNatClampNeg), rf10)
          else
            if (256 + a1) < 0 ∨ 785 ≤ (256 + a1).toNatClampNeg then none else
            some ((nw (256 + a1).toNatClampNeg), rf10)
      else
        some (0, rf10)
    else
      ob2 (fX4_refused 0) fun r19 rf19 =>
      if r19 = 0 then
        if 2 ≤ a2 then
          if a2 = 3 then
            ob (fX4_isPinned nw a1) fun r23 =>
            if r23 = 0 then
              some (0, rf19)
            else
              some (1, rf19)
          else
            fX4_block_88 nw 1000 a1 (-1) 0 rf19
        else
          if a2 = 0 then
            if (0 + a1) < 0 ∨ 785 ≤ (0 + a1).toNatClampNeg then none else
            some ((nw (0 + a1).toNatClampNeg), rf19)
          else
            if (256 + a1) < 0 ∨ 785 ≤ (256 + a1).toNatClampNeg then none else
            some ((nw (256 + a1).toNatClampNeg), rf19)
      else
        some (0, rf19)
def fX4_range_77 (nw : Nat → Int32) : Nat → Int32 → Int32 → Int32 → Int32 → Int32 → Int32 → (Int32) → Option (Int32 × (Int32))
  | 0, _, _, _, _, _, _, _ => none
  | n + 1, v2, v3, v4, v5, v6, v7, rf =>
    if v4 ≤ v7 then
        if v2 = 0 then
          some (v3, rf)
        else
          if v2 = 1 then
            some ((v4 - v3), rf)
          else
            if v2 = 2 then
              if (512 + v3) < 0 ∨ 785 ≤ (512 + v3).toNatClampNeg then none else
              some ((nw (512 + v3).toNatClampNeg), rf)
            else
              if v2 = 3 then
                some (v5, rf)
              else
                if v2 = 4 then
                  some (v6, rf)
                else
                  ob (fX4_isDue nw v3) fun r7 =>
                  if r7 = 0 then
                    some (0, rf)
                  else
                    some (1, rf)
      else
        ob (fX4_piece nw v7) fun r10 =>
        if r10 ≤ 0 then
          ob (fX4_piece nw v7) fun r12 =>
          fX4_range_77 nw n v2 v3 v4 (v5 + 0) (v6 + r12) (v7 + 1) rf
        else
          ob (fX4_piece nw v7) fun r13 =>
          fX4_range_77 nw n v2 v3 v4 (v5 + 1) (v6 + r13) (v7 + 1) rf
def fX4_range (nw : Nat → Int32) (a1 : Int32) (a2 : Int32) : Option (Int32 × (Int32)) :=
  ob (fX4_ranges nw) fun r14 =>
  ob (fX4_in a1.toInt64 0 ((r14 - 1).toInt64)) fun r15 =>
  if r15 = 0 then
    ob2 (fX4_refused 1) fun r27 rf27 =>
    if r27 = 0 then
      ob (fX4_rangeAt nw a1) fun r29 =>
      ob (fX4_endOf nw r29) fun r30 =>
      fX4_range_77 nw 1000 a2 r29 r30 0 0 r29 rf27
    else
      some (0, rf27)
  else
    ob (fX4_in a2.toInt64 0 (5)) fun r17 =>
    if r17 = 0 then
      ob2 (fX4_refused 2) fun r19 rf19 =>
      if r19 = 0 then
        ob (fX4_rangeAt nw a1) fun r21 =>
        ob (fX4_endOf nw r21) fun r22 =>
        fX4_range_77 nw 1000 a2 r21 r22 0 0 r21 rf19
      else
        some (0, rf19)
    else
      ob2 (fX4_refused 0) fun r23 rf23 =>
      if r23 = 0 then
        ob (fX4_rangeAt nw a1) fun r25 =>
        ob (fX4_endOf nw r25) fun r26 =>
        fX4_range_77 nw 1000 a2 r25 r26 0 0 r25 rf23
      else
        some (0, rf23)
def fX4_pinned (nw : Nat → Int32) (a1 : Int32) (a2 : Int32) : Option (Int32 × (Int32)) :=
  ob (fX4_in a1.toInt64 0 (2)) fun r1 =>
  if r1 = 0 then
    ob2 (fX4_refused 1) fun r19 rf19 =>
    if r19 = 0 then
      if (782 + a1) < 0 ∨ 785 ≤ (782 + a1).toNatClampNeg then none else
      if (nw (782 + a1).toNatClampNeg) = 0 then
        some ((-1), rf19)
      else
        if a2 = 0 then
          if (779 + a1) < 0 ∨ 785 ≤ (779 + a1).toNatClampNeg then none else
          some ((nw (779 + a1).toNatClampNeg), rf19)
        else
          if (782 + a1) < 0 ∨ 785 ≤ (782 + a1).toNatClampNeg then none else
          some ((nw (782 + a1).toNatClampNeg), rf19)
    else
      some (0, rf19)
  else
    ob (fX4_in a2.toInt64 0 1) fun r3 =>
    if r3 = 0 then
      ob2 (fX4_refused 2) fun r5 rf5 =>
      if r5 = 0 then
        if (782 + a1) < 0 ∨ 785 ≤ (782 + a1).toNatClampNeg then none else
        if (nw (782 + a1).toNatClampNeg) = 0 then
          some ((-1), rf5)
        else
          if a2 = 0 then
            if (779 + a1) < 0 ∨ 785 ≤ (779 + a1).toNatClampNeg then none else
            some ((nw (779 + a1).toNatClampNeg), rf5)
          else
            if (782 + a1) < 0 ∨ 785 ≤ (782 + a1).toNatClampNeg then none else
            some ((nw (782 + a1).toNatClampNeg), rf5)
      else
        some (0, rf5)
    else
      ob2 (fX4_refused 0) fun r12 rf12 =>
      if r12 = 0 then
        if (782 + a1) < 0 ∨ 785 ≤ (782 + a1).toNatClampNeg then none else
        if (nw (782 + a1).toNatClampNeg) = 0 then
          some ((-1), rf12)
        else
          if a2 = 0 then
            if (779 + a1) < 0 ∨ 785 ≤ (779 + a1).toNatClampNeg then none else
            some ((nw (779 + a1).toNatClampNeg), rf12)
          else
            if (782 + a1) < 0 ∨ 785 ≤ (782 + a1).toNatClampNeg then none else
            some ((nw (782 + a1).toNatClampNeg), rf12)
      else
        some (0, rf12)
def fX4_setting (nw : Nat → Int32) (a1 : Int32) : Option (Int32 × (Int32)) :=
  ob (fX4_in a1.toInt64 0 (5)) fun r1 =>
  if r1 = 0 then
    ob2 (fX4_refused 1) fun r3 rf3 =>
    if r3 = 0 then
      if (773 + a1) < 0 ∨ 785 ≤ (773 + a1).toNatClampNeg then none else
      some ((nw (773 + a1).toNatClampNeg), rf3)
    else
      some (0, rf3)
  else
    ob2 (fX4_refused 0) fun r6 rf6 =>
    if r6 = 0 then
      if (773 + a1) < 0 ∨ 785 ≤ (773 + a1).toNatClampNeg then none else
      some ((nw (773 + a1).toNatClampNeg), rf6)
    else
      some (0, rf6)
def fX4_remember_11 (nw : Nat → Int32) : Nat → Int32 → (Int32) → (Nat → Int32) → Option ((Int32) × (Nat → Int32))
  | 0, _, _, _ => none
  | n + 1, v1, ac, di =>
    if 10205 ≤ v1 then
        ob (fX4_copyState 785 10990 nw di 0 (785 * (ac - 1))) fun di2 =>
        some (((ac - 1) + 1), di2)
      else
        if (v1 + 785) < 0 ∨ 10990 ≤ (v1 + 785).toNatClampNeg then none else
        if v1 < 0 ∨ 10990 ≤ v1.toNatClampNeg then none else
        fX4_remember_11 nw n (v1 + 1) ac (upd di v1.toNatClampNeg (di (v1 + 785).toNatClampNeg))
def fX4_remember (ac : Int32) (nw : Nat → Int32) (di : Nat → Int32) : Option ((Int32) × (Nat → Int32)) :=
  if ac = 14 then
    fX4_remember_11 nw 20000 0 ac di
  else
    ob (fX4_copyState 785 10990 nw di 0 (785 * ac)) fun di6 =>
    some ((ac + 1), di6)
def fX4_write (ac : Int32) (nw : Nat → Int32) (di : Nat → Int32) (a1 : Int32) (a2 : Int32) : Option (Int32 × (Int32) × (Int32) × (Nat → Int32) × (Nat → Int32)) :=
  ob (fX4_whyNotSpan a1 a2) fun r1 =>
  ob2 (fX4_refused r1) fun r2 rf2 =>
  if r2 = 0 then
    ob2 (fX4_remember ac nw di) fun ac4 di4 =>
    ob2 (fX4_writeOn nw a1 a2) fun r5 nw5 =>
    some (r5, rf2, ac4, nw5, di4)
  else
    some (0, rf2, ac, nw, di)
def fX4_free (ac : Int32) (nw : Nat → Int32) (di : Nat → Int32) (a1 : Int32) (a2 : Int32) : Option (Int32 × (Int32) × (Int32) × (Nat → Int32) × (Nat → Int32)) :=
  ob (fX4_whyNotSpan a1 a2) fun r1 =>
  ob2 (fX4_refused r1) fun r2 rf2 =>
  if r2 = 0 then
    ob2 (fX4_remember ac nw di) fun ac4 di4 =>
    ob2 (fX4_freeOn nw a1 a2) fun r5 nw5 =>
    some (r5, rf2, ac4, nw5, di4)
  else
    some (0, rf2, ac, nw, di)
def fX4_pin (ac : Int32) (nw : Nat → Int32) (di : Nat → Int32) (a1 : Int32) (a2 : Int32) (a3 : Int32) : Option (Int32 × (Int32) × (Int32) × (Nat → Int32) × (Nat → Int32)) :=
  ob (fX4_in a1.toInt64 0 (2)) fun r1 =>
  if r1 = 0 then
    ob2 (fX4_refused 1) fun r3 rf3 =>
    if r3 = 0 then
      ob2 (fX4_remember ac nw di) fun ac5 di5 =>
      ob2 (fX4_pinOn nw a1 a2 a3) fun r6 nw6 =>
      some (r6, rf3, ac5, nw6, di5)
    else
      some (0, rf3, ac, nw, di)
  else
    ob (fX4_whyNotSpan a2 a3) fun r7 =>
    ob2 (fX4_refused r7) fun r8 rf8 =>
    if r8 = 0 then
      ob2 (fX4_remember ac nw di) fun ac10 di10 =>
      ob2 (fX4_pinOn nw a1 a2 a3) fun r11 nw11 =>
      some (r11, rf8, ac10, nw11, di10)
    else
      some (0, rf8, ac, nw, di)
def fX4_unpin (ac : Int32) (nw : Nat → Int32) (di : Nat → Int32) (a1 : Int32) : Option (Int32 × (Int32) × (Int32) × (Nat → Int32) × (Nat → Int32)) :=
  ob (fX4_in a1.toInt64 0 (2)) fun r1 =>
  if r1 = 0 then
    ob2 (fX4_refused 1) fun r13 rf13 =>
    if r13 = 0 then
      ob2 (fX4_remember ac nw di) fun ac15 di15 =>
      ob2 (fX4_pinOn nw a1 0 0) fun r16 nw16 =>
      some (r16, rf13, ac15, nw16, di15)
    else
      some (0, rf13, ac, nw, di)
  else
    if (782 + a1) < 0 ∨ 785 ≤ (782 + a1).toNatClampNeg then none else
    if (nw (782 + a1).toNatClampNeg) = 0 then
      ob2 (fX4_refused 2) fun r9 rf9 =>
      if r9 = 0 then
        ob2 (fX4_remember ac nw di) fun ac11 di11 =>
        ob2 (fX4_pinOn nw a1 0 0) fun r12 nw12 =>
        some (r12, rf9, ac11, nw12, di11)
      else
        some (0, rf9, ac, nw, di)
    else
      ob2 (fX4_refused 0) fun r5 rf5 =>
      if r5 = 0 then
        ob2 (fX4_remember ac nw di) fun ac7 di7 =>
        ob2 (fX4_pinOn nw a1 0 0) fun r8 nw8 =>
        some (r8, rf5, ac7, nw8, di7)
      else
        some (0, rf5, ac, nw, di)
def fX4_run (ac : Int32) (sF : Int32) (sB : Int32) (nw : Nat → Int32) (di : Nat → Int32) (a1 : Int32) : Option (Int32 × (Int32) × (Int32) × (Int32) × (Int32) × (Nat → Int32) × (Nat → Int32)) :=
  ob (fX4_in a1.toInt64 1 (60)) fun r1 =>
  if r1 = 0 then
    ob2 (fX4_refused 1) fun r3 rf3 =>
    if r3 = 0 then
      ob2 (fX4_remember ac nw di) fun ac5 di5 =>
      ob4 (fX4_runOn sF sB nw a1) fun r6 sF6 sB6 nw6 =>
      some (r6, rf3, ac5, sF6, sB6, nw6, di5)
    else
      some (0, rf3, ac, sF, sB, nw, di)
  else
    ob2 (fX4_refused 0) fun r7 rf7 =>
    if r7 = 0 then
      ob2 (fX4_remember ac nw di) fun ac9 di9 =>
      ob4 (fX4_runOn sF sB nw a1) fun r10 sF10 sB10 nw10 =>
      some (r10, rf7, ac9, sF10, sB10, nw10, di9)
    else
      some (0, rf7, ac, sF, sB, nw, di)
def fX4_flush (ac : Int32) (sF : Int32) (sB : Int32) (nw : Nat → Int32) (di : Nat → Int32) : Option (Int32 × (Int32) × (Int32) × (Int32) × (Int32) × (Nat → Int32) × (Nat → Int32)) :=
  ob2 (fX4_remember ac nw di) fun ac1 di1 =>
  ob4 (fX4_flushOn sF sB nw) fun r2 sF2 sB2 nw2 =>
  some (r2, 0, ac1, sF2, sB2, nw2, di1)
def fX4_set (ac : Int32) (nw : Nat → Int32) (di : Nat → Int32) (a1 : Int32) (a2 : Int32) : Option (Int32 × (Int32) × (Int32) × (Nat → Int32) × (Nat → Int32)) :=
  ob (fX4_isSetting a1 a2) fun r1 =>
  if r1 = 0 then
    ob2 (fX4_refused 1) fun r3 rf3 =>
    if r3 = 0 then
      ob2 (fX4_remember ac nw di) fun ac5 di5 =>
      ob2 (fX4_lay nw a1 a2) fun r6 nw6 =>
      some (r6, rf3, ac5, nw6, di5)
    else
      some (0, rf3, ac, nw, di)
  else
    ob2 (fX4_refused 0) fun r7 rf7 =>
    if r7 = 0 then
      ob2 (fX4_remember ac nw di) fun ac9 di9 =>
      ob2 (fX4_lay nw a1 a2) fun r10 nw10 =>
      some (r10, rf7, ac9, nw10, di9)
    else
      some (0, rf7, ac, nw, di)
def fX4_undo (ac : Int32) (nw : Nat → Int32) (di : Nat → Int32) : Option (Int32 × (Int32) × (Int32) × (Nat → Int32)) :=
  if ac = 0 then
    ob2 (fX4_refused 1) fun r5 rf5 =>
    if r5 = 0 then
      ob (fX4_copyState 10990 785 di nw (785 * (ac - 1)) 0) fun nw7 =>
      some ((ac - 1), rf5, (ac - 1), nw7)
    else
      some (0, rf5, ac, nw)
  else
    ob2 (fX4_refused 0) fun r2 rf2 =>
    if r2 = 0 then
      ob (fX4_copyState 10990 785 di nw (785 * (ac - 1)) 0) fun nw4 =>
      some ((ac - 1), rf2, (ac - 1), nw4)
    else
      some (0, rf2, ac, nw)
def fX4_next_41  : Nat → Int32 → Int32 → (Int32) → (Int32) → (Int32) → (Nat → Int32) → Option (Int32 × (Int32) × (Int32) × (Int32) × (Nat → Int32))
  | 0, _, _, _, _, _, _ => none
  | n + 1, v1, v2, rf, sF, sB, tr =>
    if 100 ≤ v2 then
        some ((-1), rf, sF, sB, tr)
      else
        if (tr 769) < (tr 774) then
          ob3 (fX4_tick sF sB tr) fun sF3 sB3 tr3 =>
          fX4_next_41 n v1 (v2 + 1) rf sF3 sB3 tr3
        else
          if (tr 775) ≤ (tr 777) then
            ob3 (fX4_tick sF sB tr) fun sF5 sB5 tr5 =>
            fX4_next_41 n v1 (v2 + 1) rf sF5 sB5 tr5
          else
            ob (fX4_chosen tr (tr 778) 1) fun r6 =>
            if r6 = (-1) then
              ob3 (fX4_tick sF sB tr) fun sF8 sB8 tr8 =>
              fX4_next_41 n v1 (v2 + 1) rf sF8 sB8 tr8
            else
              ob (fX4_piece tr r6) fun r9 =>
              ob (fX4_least r9 ((tr 775) - (tr 777))) fun r10 =>
              ob (fX4_least 16 r10) fun r11 =>
              if v1 = 0 then
                some (r6, rf, sF, sB, tr)
              else
                if v1 = 1 then
                  ob (fX4_granule tr) fun r14 =>
                  some ((r11 * r14), rf, sF, sB, tr)
                else
                  some ((tr 768), rf, sF, sB, tr)
def fX4_next (sF : Int32) (sB : Int32) (nw : Nat → Int32) (tr : Nat → Int32) (a1 : Int32) : Option (Int32 × (Int32) × (Int32) × (Int32) × (Nat → Int32)) :=
  ob (fX4_in a1.toInt64 0 (2)) fun r15 =>
  if r15 = 0 then
    ob2 (fX4_refused 1) fun r17 rf17 =>
    if r17 = 0 then
      ob (fX4_copyState 785 785 nw tr 0 0) fun tr19 =>
      fX4_next_41 1000 a1 0 rf17 sF sB tr19
    else
      some (0, rf17, sF, sB, tr)
  else
    ob2 (fX4_refused 0) fun r20 rf20 =>
    if r20 = 0 then
      ob (fX4_copyState 785 785 nw tr 0 0) fun tr22 =>
      fX4_next_41 1000 a1 0 rf20 sF sB tr22
    else
      some (0, rf20, sF, sB, tr)
def fX4_goneIn_36  : Nat → Int32 → Int32 → (Int32) → (Int32) → (Int32) → (Nat → Int32) → Option (Int32 × (Int32) × (Int32) × (Int32) × (Nat → Int32))
  | 0, _, _, _, _, _, _ => none
  | n + 1, v1, v2, rf, sF, sB, tr =>
    if 100 < v2 then
        some ((-1), rf, sF, sB, tr)
      else
        if (256 + v1) < 0 ∨ 785 ≤ (256 + v1).toNatClampNeg then none else
        if (tr (256 + v1).toNatClampNeg) = 0 then
          some (v2, rf, sF, sB, tr)
        else
          ob3 (fX4_tick sF sB tr) fun sF4 sB4 tr4 =>
          fX4_goneIn_36 n v1 (v2 + 1) rf sF4 sB4 tr4
def fX4_goneIn (sF : Int32) (sB : Int32) (nw : Nat → Int32) (tr : Nat → Int32) (a1 : Int32) : Option (Int32 × (Int32) × (Int32) × (Int32) × (Nat → Int32)) :=
  ob (fX4_isBlock a1) fun r5 =>
  if r5 = 0 then
    ob2 (fX4_refused 1) fun r7 rf7 =>
    if r7 = 0 then
      ob (fX4_copyState 785 785 nw tr 0 0) fun tr9 =>
      fX4_goneIn_36 1000 a1 0 rf7 sF sB tr9
    else
      some (0, rf7, sF, sB, tr)
  else
    ob2 (fX4_refused 0) fun r10 rf10 =>
    if r10 = 0 then
      ob (fX4_copyState 785 785 nw tr 0 0) fun tr12 =>
      fX4_goneIn_36 1000 a1 0 rf10 sF sB tr12
    else
      some (0, rf10, sF, sB, tr)
def fX4_coming (sF : Int32) (sB : Int32) (nw : Nat → Int32) (tr : Nat → Int32) (a1 : Int32) (a2 : Int32) : Option (Int32 × (Int32) × (Int32) × (Int32) × (Nat → Int32)) :=
  ob (fX4_in a1.toInt64 1 (100)) fun r1 =>
  if r1 = 0 then
    ob2 (fX4_refused 1) fun r3 rf3 =>
    if r3 = 0 then
      ob (fX4_copyState 785 785 nw tr 0 0) fun tr5 =>
      ob4 (fX4_runOn sF sB tr5 a1) fun r6 sF6 sB6 tr6 =>
      if a2 = 0 then
        some (r6, rf3, sF6, sB6, tr6)
      else
        if a2 = 1 then
          some (((tr6 770) - (nw 770)), rf3, sF6, sB6, tr6)
        else
          if a2 = 2 then
            ob (fX4_ranges tr6) fun r11 =>
            some (r11, rf3, sF6, sB6, tr6)
          else
            ob (fX4_queuedBlocks tr6) fun r10 =>
            some (r10, rf3, sF6, sB6, tr6)
    else
      some (0, rf3, sF, sB, tr)
  else
    ob (fX4_in a2.toInt64 0 (3)) fun r12 =>
    if r12 = 0 then
      ob2 (fX4_refused 1) fun r14 rf14 =>
      if r14 = 0 then
        ob (fX4_copyState 785 785 nw tr 0 0) fun tr16 =>
        ob4 (fX4_runOn sF sB tr16 a1) fun r17 sF17 sB17 tr17 =>
        if a2 = 0 then
          some (r17, rf14, sF17, sB17, tr17)
        else
          if a2 = 1 then
            some (((tr17 770) - (nw 770)), rf14, sF17, sB17, tr17)
          else
            if a2 = 2 then
              ob (fX4_ranges tr17) fun r22 =>
              some (r22, rf14, sF17, sB17, tr17)
            else
              ob (fX4_queuedBlocks tr17) fun r21 =>
              some (r21, rf14, sF17, sB17, tr17)
      else
        some (0, rf14, sF, sB, tr)
    else
      ob2 (fX4_refused 0) fun r23 rf23 =>
      if r23 = 0 then
        ob (fX4_copyState 785 785 nw tr 0 0) fun tr25 =>
        ob4 (fX4_runOn sF sB tr25 a1) fun r26 sF26 sB26 tr26 =>
        if a2 = 0 then
          some (r26, rf23, sF26, sB26, tr26)
        else
          if a2 = 1 then
            some (((tr26 770) - (nw 770)), rf23, sF26, sB26, tr26)
          else
            if a2 = 2 then
              ob (fX4_ranges tr26) fun r31 =>
              some (r31, rf23, sF26, sB26, tr26)
            else
              ob (fX4_queuedBlocks tr26) fun r30 =>
              some (r30, rf23, sF26, sB26, tr26)
      else
        some (0, rf23, sF, sB, tr)
def fX4_bestGranule_33 (nw : Nat → Int32) : Nat → Int32 → Int32 → Int32 → Int32 → (Int32) → (Int32) → (Int32) → (Nat → Int32) → Option (Int32 × (Int32) × (Int32) × (Int32) × (Nat → Int32))
  | 0, _, _, _, _, _, _, _, _ => none
  | n + 1, v1, v2, v3, v4, rf, sF, sB, tr =>
    ob (fX4_greatest 0) fun r1 =>
      if r1 < v4 then
        some (v2, rf, sF, sB, tr)
      else
        ob (fX4_copyState 785 785 nw tr 0 0) fun tr3 =>
        ob4 (fX4_runOn sF sB (upd tr3 773 v4) v1) fun r4 sF4 sB4 tr4 =>
        if r4 < v3 then
          fX4_bestGranule_33 nw n v1 v2 v3 (v4 + 1) rf sF4 sB4 tr4
        else
          fX4_bestGranule_33 nw n v1 v4 r4 (v4 + 1) rf sF4 sB4 tr4
def fX4_bestGranule (sF : Int32) (sB : Int32) (nw : Nat → Int32) (tr : Nat → Int32) (a1 : Int32) : Option (Int32 × (Int32) × (Int32) × (Int32) × (Nat → Int32)) :=
  ob (fX4_in a1.toInt64 1 (60)) fun r6 =>
  if r6 = 0 then
    ob2 (fX4_refused 1) fun r8 rf8 =>
    if r8 = 0 then
      fX4_bestGranule_33 nw 1000 a1 (-1) (-1) 0 rf8 sF sB tr
    else
      some (0, rf8, sF, sB, tr)
  else
    ob2 (fX4_refused 0) fun r10 rf10 =>
    if r10 = 0 then
      fX4_bestGranule_33 nw 1000 a1 (-1) (-1) 0 rf10 sF sB tr
    else
      some (0, rf10, sF, sB, tr)
def fX4_ifWritten (nw : Nat → Int32) (tr : Nat → Int32) (a1 : Int32) (a2 : Int32) : Option (Int32 × (Int32) × (Nat → Int32)) :=
  ob (fX4_whyNotSpan a1 a2) fun r1 =>
  ob2 (fX4_refused r1) fun r2 rf2 =>
  if r2 = 0 then
    ob (fX4_copyState 785 785 nw tr 0 0) fun tr4 =>
    ob2 (fX4_writeOn tr4 a1 a2) fun r5 tr5 =>
    ob (fX4_ranges tr5) fun r6 =>
    some (r6, rf2, tr5)
  else
    some (0, rf2, tr)
def fX4_stuck_15 (nw : Nat → Int32) : Nat → Int32 → Int32 → (Int32) → Option (Int32 × (Int32))
  | 0, _, _, _ => none
  | n + 1, v1, v2, rf =>
    if 256 ≤ v2 then
        some (v1, rf)
      else
        ob (fX4_isGood nw v2) fun r2 =>
        if r2 = 0 then
          fX4_stuck_15 nw n (v1 - 0) (v2 + 1) rf
        else
          ob (fX4_granule nw) fun r4 =>
          fX4_stuck_15 nw n (v1 - r4) (v2 + 1) rf
def fX4_stuck (nw : Nat → Int32) : Option (Int32 × (Int32)) :=
  ob (fX4_queuedBlocks nw) fun r5 =>
  fX4_stuck_15 nw 1000 r5 0 0
def fX4_command (sF : Int32) (sB : Int32) (tr : Nat → Int32) (a1 : Int32) (a2 : Int32) : Option (Int32 × (Int32) × (Int32) × (Nat → Int32)) :=
  if a1 = 1 then
    ob (fX4_whyNotSpan (a2 / 100) (irem a2 100)) fun r2 =>
    if r2 = 0 then
      ob2 (fX4_writeOn tr (a2 / 100) (irem a2 100)) fun r4 tr4 =>
      if r4 < 0 then
        some (0, sF, sB, tr4)
      else
        some (1, sF, sB, tr4)
    else
      some (0, sF, sB, tr)
  else if a1 = 2 then
    ob (fX4_whyNotSpan (a2 / 100) (irem a2 100)) fun r7 =>
    if r7 = 0 then
      ob2 (fX4_freeOn tr (a2 / 100) (irem a2 100)) fun r9 tr9 =>
      if r9 < 0 then
        some (0, sF, sB, tr9)
      else
        some (1, sF, sB, tr9)
    else
      some (0, sF, sB, tr)
  else if a1 = 3 then
    ob (fX4_in a2.toInt64 1 (60)) fun r12 =>
    if r12 = 0 then
      some (0, sF, sB, tr)
    else
      ob4 (fX4_runOn sF sB tr a2) fun r14 sF14 sB14 tr14 =>
      if r14 < 0 then
        some (0, sF14, sB14, tr14)
      else
        some (1, sF14, sB14, tr14)
  else if a1 = 4 then
    if (irem a2 100) = 0 then
      ob (fX4_isSetting ((a2 / 100) / 100) (irem (a2 / 100) 100)) fun r18 =>
      if r18 = 0 then
        some (0, sF, sB, tr)
      else
        ob2 (fX4_lay tr ((a2 / 100) / 100) (irem (a2 / 100) 100)) fun r20 tr20 =>
        if r20 < 0 then
          some (0, sF, sB, tr20)
        else
          some (1, sF, sB, tr20)
    else
      some (0, sF, sB, tr)
  else if a1 = 5 then
    if a2 = 0 then
      ob4 (fX4_flushOn sF sB tr) fun r24 sF24 sB24 tr24 =>
      if r24 < 0 then
        some (0, sF24, sB24, tr24)
      else
        some (1, sF24, sB24, tr24)
    else
      some (0, sF, sB, tr)
  else if a1 = 6 then
    ob (fX4_isBlock (a2 / 100)) fun r27 =>
    if r27 = 0 then
      some (0, sF, sB, tr)
    else
      if (256 + (a2 / 100)) < 0 ∨ 785 ≤ (256 + (a2 / 100)).toNatClampNeg then none else
      if (tr (256 + (a2 / 100)).toNatClampNeg) = (irem a2 100) then
        some (1, sF, sB, tr)
      else
        some (0, sF, sB, tr)
  else if a1 = 7 then
    if 1000 ≤ a2 then
      some (0, sF, sB, tr)
    else
      ob (fX4_queuedBlocks tr) fun r33 =>
      if a2 < r33 then
        some (0, sF, sB, tr)
      else
        some (1, sF, sB, tr)
  else if a1 = 8 then
    if 100 ≤ a2 then
      some (0, sF, sB, tr)
    else
      ob (fX4_ranges tr) fun r37 =>
      if r37 < a2 then
        some (0, sF, sB, tr)
      else
        some (1, sF, sB, tr)
  else if a1 = 9 then
    ob (fX4_isBlock (a2 / 100)) fun r40 =>
    if r40 = 0 then
      some (0, sF, sB, tr)
    else
      if (0 + (a2 / 100)) < 0 ∨ 785 ≤ (0 + (a2 / 100)).toNatClampNeg then none else
      if (tr (0 + (a2 / 100)).toNatClampNeg) = (irem a2 100) then
        some (1, sF, sB, tr)
      else
        some (0, sF, sB, tr)
  else some (0, sF, sB, tr)
def fX4_runScript_86  : Nat → Int32 → Int64 → Int64 → Int32 → (Int32) → (Int32) → (Int32) → (Nat → Int32) → Option (Int32 × (Int32) × (Int32) × (Int32) × (Nat → Int32))
  | 0, _, _, _, _, _, _, _, _ => none
  | n + 1, v1, v2, v4, v6, rf, sF, sB, tr =>
    if v1 ≤ v6 then
        some ((-1), rf, sF, sB, tr)
      else
        if (v4 / (1000000)) = 0 then none else
        ob4 (fX4_command sF sB tr ((lrem (v2 / (v4 / (1000000))) (1000000)).toInt32 / (100000)) (irem ((lrem (v2 / (v4 / (1000000))) (1000000)).toInt32) (100000))) fun r3 sF3 sB3 tr3 =>
        if r3 = 0 then
          some (v6, rf, sF3, sB3, tr3)
        else
          fX4_runScript_86 n v1 v2 (v4 / (1000000)) (v6 + 1) rf sF3 sB3 tr3
def fX4_runScript_6 (nw : Nat → Int32) : Nat → Int32 → Int64 → Int64 → Int32 → (Int32) → (Int32) → (Int32) → (Nat → Int32) → Option (Int32 × (Int32) × (Int32) × (Int32) × (Nat → Int32))
  | 0, _, _, _, _, _, _, _, _ => none
  | n + 1, v1, v2, v4, v6, rf, sF, sB, tr =>
    if v1 ≤ v6 then
        ob (fX4_in v1.toInt64 1 (3)) fun r6 =>
        if r6 = 0 then
          ob2 (fX4_refused 1) fun r8 rf8 =>
          if r8 = 0 then
            ob (fX4_copyState 785 785 nw tr 0 0) fun tr10 =>
            fX4_runScript_86 1000 v1 v2 v4 0 rf8 sF sB tr10
          else
            some (0, rf8, sF, sB, tr)
        else
          ob (fX4_in v2 0 (v4 - 1)) fun r11 =>
          if r11 = 0 then
            ob2 (fX4_refused 1) fun r13 rf13 =>
            if r13 = 0 then
              ob (fX4_copyState 785 785 nw tr 0 0) fun tr15 =>
              fX4_runScript_86 1000 v1 v2 v4 0 rf13 sF sB tr15
            else
              some (0, rf13, sF, sB, tr)
          else
            ob2 (fX4_refused 0) fun r16 rf16 =>
            if r16 = 0 then
              ob (fX4_copyState 785 785 nw tr 0 0) fun tr18 =>
              fX4_runScript_86 1000 v1 v2 v4 0 rf16 sF sB tr18
            else
              some (0, rf16, sF, sB, tr)
      else
        if 3 ≤ v6 then
          ob (fX4_in v1.toInt64 1 (3)) fun r20 =>
          if r20 = 0 then
            ob2 (fX4_refused 1) fun r22 rf22 =>
            if r22 = 0 then
              ob (fX4_copyState 785 785 nw tr 0 0) fun tr24 =>
              fX4_runScript_86 1000 v1 v2 v4 0 rf22 sF sB tr24
            else
              some (0, rf22, sF, sB, tr)
          else
            ob (fX4_in v2 0 (v4 - 1)) fun r25 =>
            if r25 = 0 then
              ob2 (fX4_refused 1) fun r27 rf27 =>
              if r27 = 0 then
                ob (fX4_copyState 785 785 nw tr 0 0) fun tr29 =>
                fX4_runScript_86 1000 v1 v2 v4 0 rf27 sF sB tr29
              else
                some (0, rf27, sF, sB, tr)
            else
              ob2 (fX4_refused 0) fun r30 rf30 =>
              if r30 = 0 then
                ob (fX4_copyState 785 785 nw tr 0 0) fun tr32 =>
                fX4_runScript_86 1000 v1 v2 v4 0 rf30 sF sB tr32
              else
                some (0, rf30, sF, sB, tr)
        else
          fX4_runScript_6 nw n v1 v2 (v4 * (1000000)) (v6 + 1) rf sF sB tr
def fX4_runScript (rf : Int32) (sF : Int32) (sB : Int32) (nw : Nat → Int32) (tr : Nat → Int32) (a1 : Int32) (a2 : Int64) : Option (Int32 × (Int32) × (Int32) × (Int32) × (Nat → Int32)) :=
  fX4_runScript_6 nw 1000 a1 a2 1 0 rf sF sB tr
def fX4_turn (sF : Int32) (sB : Int32) (tr : Nat → Int32) (a1 : Int32) : Option ((Int32) × (Int32) × (Nat → Int32)) :=
  if 2 ≤ (irem a1 8) then
    if 5 ≤ (irem a1 8) then
      if (irem a1 8) = 5 then
        ob (fX4_whyNotSpan (irem (a1 / 32) 256) (1 + (irem (a1 / 8192) 9))) fun r5 =>
        if r5 = 0 then
          ob2 (fX4_pinOn tr (irem (a1 / 8) 3) (irem (a1 / 32) 256) (1 + (irem (a1 / 8192) 9))) fun r7 tr7 =>
          some (sF, sB, tr7)
        else
          some (sF, sB, tr)
      else
        ob4 (fX4_runOn sF sB tr (1 + (irem (a1 / 8) 8))) fun r4 sF4 sB4 tr4 =>
        some (sF4, sB4, tr4)
    else
      ob (fX4_whyNotSpan (irem (a1 / 8) 256) (1 + (irem (a1 / 2048) 40))) fun r8 =>
      if r8 = 0 then
        ob2 (fX4_freeOn tr (irem (a1 / 8) 256) (1 + (irem (a1 / 2048) 40))) fun r10 tr10 =>
        some (sF, sB, tr10)
      else
        some (sF, sB, tr)
  else
    ob (fX4_whyNotSpan (irem (a1 / 8) 256) (1 + (irem (a1 / 2048) 40))) fun r11 =>
    if r11 = 0 then
      ob2 (fX4_writeOn tr (irem (a1 / 8) 256) (1 + (irem (a1 / 2048) 40))) fun r13 tr13 =>
      some (sF, sB, tr13)
    else
      some (sF, sB, tr)
def fX4_simulate_45 (nw : Nat → Int32) : Nat → Int32 → Int64 → Int32 → (Int32) → (Int32) → (Int32) → (Nat → Int32) → Option (Int32 × (Int32) × (Int32) × (Int32) × (Nat → Int32))
  | 0, _, _, _, _, _, _, _ => none
  | n + 1, v3, v4, v6, rf, sF, sB, tr =>
    if v3 ≤ v6 then
        ob (fX4_queuedBlocks tr) fun r2 =>
        some (((1000 * ((tr 771) - (nw 771))) + r2), rf, sF, sB, tr)
      else
        ob3 (fX4_turn sF sB tr (((((v4 * (6364136223846793005)) + (1442695040888963407)).toUInt64 >>> ((33 : Int32).toInt64.toUInt64 &&& Int64.toUInt64 63)).toInt64).toInt32)) fun sF3 sB3 tr3 =>
        fX4_simulate_45 nw n v3 ((v4 * (6364136223846793005)) + (1442695040888963407)) (v6 + 1) rf sF3 sB3 tr3
def fX4_simulate (sF : Int32) (sB : Int32) (nw : Nat → Int32) (tr : Nat → Int32) (a1 : Int64) (a3 : Int32) : Option (Int32 × (Int32) × (Int32) × (Int32) × (Nat → Int32)) :=
  ob (fX4_in a3.toInt64 1 (60)) fun r4 =>
  if r4 = 0 then
    ob2 (fX4_refused 1) fun r6 rf6 =>
    if r6 = 0 then
      ob (fX4_copyState 785 785 nw tr 0 0) fun tr8 =>
      fX4_simulate_45 nw 1000 a3 a1 0 rf6 sF sB tr8
    else
      some (0, rf6, sF, sB, tr)
  else
    ob2 (fX4_refused 0) fun r9 rf9 =>
    if r9 = 0 then
      ob (fX4_copyState 785 785 nw tr 0 0) fun tr11 =>
      fX4_simulate_45 nw 1000 a3 a1 0 rf9 sF sB tr11
    else
      some (0, rf9, sF, sB, tr)
def fX4_save (nw : Nat → Int32) (ke : Nat → Int32) (ik : Nat → Int32) (a1 : Int32) : Option (Int32 × (Int32) × (Nat → Int32) × (Nat → Int32)) :=
  ob (fX4_in a1.toInt64 0 1) fun r1 =>
  if r1 = 0 then
    ob2 (fX4_refused 1) fun r3 rf3 =>
    if r3 = 0 then
      ob (fX4_copyState 785 1570 nw ke 0 (785 * a1)) fun ke5 =>
      if a1 < 0 ∨ 2 ≤ a1.toNatClampNeg then none else
      some ((nw 768), rf3, ke5, (upd ik a1.toNatClampNeg (vp_nar .boolean 1)))
    else
      some (0, rf3, ke, ik)
  else
    ob2 (fX4_refused 0) fun r7 rf7 =>
    if r7 = 0 then
      ob (fX4_copyState 785 1570 nw ke 0 (785 * a1)) fun ke9 =>
      if a1 < 0 ∨ 2 ≤ a1.toNatClampNeg then none else
      some ((nw 768), rf7, ke9, (upd ik a1.toNatClampNeg (vp_nar .boolean 1)))
    else
      some (0, rf7, ke, ik)
def fX4_restore (ac : Int32) (nw : Nat → Int32) (ke : Nat → Int32) (ik : Nat → Int32) (a1 : Int32) : Option (Int32 × (Int32) × (Int32) × (Nat → Int32)) :=
  ob (fX4_in a1.toInt64 0 1) fun r1 =>
  if r1 = 0 then
    ob2 (fX4_refused 1) fun r11 rf11 =>
    if r11 = 0 then
      ob (fX4_copyState 1570 785 ke nw (785 * a1) 0) fun nw13 =>
      some ((nw13 768), rf11, 0, nw13)
    else
      some (0, rf11, ac, nw)
  else
    if a1 < 0 ∨ 2 ≤ a1.toNatClampNeg then none else
    if (ik a1.toNatClampNeg) = 0 then
      ob2 (fX4_refused 2) fun r8 rf8 =>
      if r8 = 0 then
        ob (fX4_copyState 1570 785 ke nw (785 * a1) 0) fun nw10 =>
        some ((nw10 768), rf8, 0, nw10)
      else
        some (0, rf8, ac, nw)
    else
      ob2 (fX4_refused 0) fun r5 rf5 =>
      if r5 = 0 then
        ob (fX4_copyState 1570 785 ke nw (785 * a1) 0) fun nw7 =>
        some ((nw7 768), rf5, 0, nw7)
      else
        some (0, rf5, ac, nw)
def fX2_empty (le : Int32) : Option (Int32 × (Int32)) :=
  some (le, 0)
def fX3_clearText (le : Int32) : Option (Int32 × (Int32)) :=
  ob2 (fX2_empty le) fun r1 le1 =>
  some (r1, le1)
def fX3_errorPosition (ch : Nat → Int32) (nu : Nat → Int32) (le : Int32) (ta : Int32) (lt : Int32) : Option (Int32 × (Nat → Int32) × (Int32) × (Int32)) :=
  ob4 (fX2_firstError ch nu le ta lt) fun r1 nu1 ta1 lt1 =>
  some (r1, nu1, ta1, lt1)
