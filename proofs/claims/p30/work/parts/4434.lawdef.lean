/-! the law's body as a plain function -/
def fL_law_261 (L : Nat) (xs : Nat → Int32) (kt : Int32 → Int32 → Int32 → zXS → zXS → Option (Int32 × zXS × zXS)) (v5 : Int32) (v6 : Int32) (v7 : Int32) (s0 : Int32) (vo : zXS) (vq : zXS) : Option (Int32 × zXS × zXS) :=
    ob2 (fL_call vo 16 (1 + (irem (v7 / 7) 12)) 0 0) fun r1 wo1 =>
    ob2 (fL_call wo1 16 (1 + (irem (v7 / 7) 12)) 1 0) fun r2 wo2 =>
    ob2 (fL_call wo2 16 (1 + (irem (v7 / 7) 12)) 2 0) fun r3 wo3 =>
    ob2 (fL_call wo3 16 (1 + (irem (v7 / 7) 12)) 3 0) fun r4 wo4 =>
    ob2 (fL_call wo4 2 6 0 0) fun r5 wo5 =>
    ob2 (fL_call wo5 2 1 0 0) fun r6 wo6 =>
    if s0 = 0 then
      kt 0 v5 (v6 + 1) wo6 vq
    else
      ob2 (fL_call wo6 11 (1 + (irem (v7 / 7) 12)) 0 0) fun r8 wo8 =>
      if r8 = r1 then
        ob2 (fL_call vq 11 (1 + (irem (v7 / 7) 12)) 0 0) fun r10 wq10 =>
        if r10 = r1 then
          ob2 (fL_call wo8 2 6 0 0) fun r12 wo12 =>
          if r12 = (r5 + r2) then
            ob2 (fL_call wo12 2 2 0 0) fun r14 wo14 =>
            if r14 = r3 then
              ob2 (fL_call wo14 2 3 0 0) fun r16 wo16 =>
              if r16 = r4 then
                ob2 (fL_call wo16 2 1 0 0) fun r18 wo18 =>
                if r18 = (r6 - r1) then
                  ob2 (fL_call wo18 13 0 0 0) fun r20 wo20 =>
                  ob (fL_thrown r20) fun r21 =>
                  if r21 = 0 then
                    ob2 (fL_call wq10 13 0 0 0) fun r23 wq23 =>
                    ob (fL_thrown r23) fun r24 =>
                    if r24 = 0 then
                      ob2 (fL_call wo20 2 6 0 0) fun r26 wo26 =>
                      if r26 = r5 then
                        ob2 (fL_call wo26 2 1 0 0) fun r28 wo28 =>
                        if r28 = r6 then
                          kt 1 v5 (v6 + 1) wo28 wq23
                        else
                          kt 0 v5 (v6 + 1) wo28 wq23
                      else
                        kt 0 v5 (v6 + 1) wo26 wq23
                    else
                      kt 0 v5 (v6 + 1) wo20 wq23
                  else
                    kt 0 v5 (v6 + 1) wo20 wq10
                else
                  kt 0 v5 (v6 + 1) wo18 wq10
              else
                kt 0 v5 (v6 + 1) wo16 wq10
            else
              kt 0 v5 (v6 + 1) wo14 wq10
          else
            kt 0 v5 (v6 + 1) wo12 wq10
        else
          kt 0 v5 (v6 + 1) wo8 wq10
      else
        kt 0 v5 (v6 + 1) wo8 vq
def fL_law_260 (L : Nat) (xs : Nat → Int32) (kt : Int32 → Int32 → Int32 → zXS → zXS → Option (Int32 × zXS × zXS)) (v5 : Int32) (v6 : Int32) (v7 : Int32) (vo : zXS) (vq : zXS) : Option (Int32 × zXS × zXS) :=
    fL_law_261 L xs kt v5 v6 v7 0 vo vq
def fL_law_256 (L : Nat) (xs : Nat → Int32) (kt : Int32 → Int32 → Int32 → zXS → zXS → Option (Int32 × zXS × zXS)) (v5 : Int32) (v6 : Int32) (v7 : Int32) (vo : zXS) (vq : zXS) : Option (Int32 × zXS × zXS) :=
    fL_law_261 L xs kt v5 v6 v7 1 vo vq
def fL_law_147 (L : Nat) (xs : Nat → Int32) : Nat → Int32 → Int32 → Int32 → zXS → zXS → Option (Int32 × zXS × zXS)
  | 0, _, _, _, _, _ => none
  | n + 1, v4, v5, v6, vo, vq =>
    if v5 ≤ v6 then
        some (v4, vo, vq)
      else
        if v4 = 0 then
          some (v4, vo, vq)
        else
          ob (fL_cell L xs (2 + v6)) fun r32 =>
          ob2 (fL_act vo r32) fun r33 wo33 =>
          ob2 (fL_refuses vq (irem r32 (100000))) fun r34 wq34 =>
          if r34 = 0 then
            fL_law_260 L xs (fun y0 y1 y2 y3 y4 => fL_law_147 L xs n y0 y1 y2 y3 y4) v5 v6 r32 wo33 wq34
          else
            ob2 (fL_act wq34 r32) fun r36 wq36 =>
            if r36 = r33 then
              ob2 (fL_refuses wq36 (irem r32 1000)) fun r38 wq38 =>
              if r38 = 0 then
                fL_law_260 L xs (fun y0 y1 y2 y3 y4 => fL_law_147 L xs n y0 y1 y2 y3 y4) v5 v6 r32 wo33 wq38
              else
                ob3 (fL_alike wo33 wq38 (irem r32 5000)) fun r40 wo40 wq40 =>
                if r40 = 0 then
                  fL_law_260 L xs (fun y0 y1 y2 y3 y4 => fL_law_147 L xs n y0 y1 y2 y3 y4) v5 v6 r32 wo40 wq40
                else
                  ob2 (fL_holds wo40 (r32 / 3)) fun r42 wo42 =>
                  if r42 = 0 then
                    fL_law_260 L xs (fun y0 y1 y2 y3 y4 => fL_law_147 L xs n y0 y1 y2 y3 y4) v5 v6 r32 wo42 wq40
                  else
                    if 0 < (irem r32 3) then
                      fL_law_256 L xs (fun y0 y1 y2 y3 y4 => fL_law_147 L xs n y0 y1 y2 y3 y4) v5 v6 r32 wo42 wq40
                    else
                      ob2 (fL_holds wq40 (r32 / 5)) fun r45 wq45 =>
                      if r45 = 0 then
                        fL_law_260 L xs (fun y0 y1 y2 y3 y4 => fL_law_147 L xs n y0 y1 y2 y3 y4) v5 v6 r32 wo42 wq45
                      else
                        fL_law_256 L xs (fun y0 y1 y2 y3 y4 => fL_law_147 L xs n y0 y1 y2 y3 y4) v5 v6 r32 wo42 wq45
            else
              fL_law_260 L xs (fun y0 y1 y2 y3 y4 => fL_law_147 L xs n y0 y1 y2 y3 y4) v5 v6 r32 wo33 wq36
def fL_law_131 (L : Nat) (xs : Nat → Int32) (v4 : Int32) (vo : zXS) (vq : zXS) : Option (Int32 × zXS × zXS) :=
    ob (fL_cell L xs 1) fun r47 =>
    fL_law_147 L xs 19 v4 (6 + (irem r47 13)) 0 vo vq
def fL_law_28 (L : Nat) (xs : Nat → Int32) : Nat → Int32 → Int32 → Int32 → zXS → zXS → Option (Int32 × zXS × zXS)
  | 0, _, _, _, _, _ => none
  | n + 1, v3, v4, v5, vo, vq =>
    if 3 ≤ v5 then
        fL_law_131 L xs v4 vo vq
      else
        if v4 = 0 then
          fL_law_131 L xs v4 vo vq
        else
          if (1 + (7 * v5)) = 0 then none else
          ob2 (fL_call vo 7 (irem (v3 / (1 + (7 * v5))) 150) 99 0) fun r51 wo51 =>
          ob2 (fL_call vq 7 (irem (v3 / (1 + (7 * v5))) 150) 99 0) fun r52 wq52 =>
          if r51 = r52 then
            ob2 (fL_call wo51 8 ((irem (v3 / (1 + (7 * v5))) 150) + v5) (1 + (irem v3 40)) 0) fun r54 wo54 =>
            ob2 (fL_call wq52 8 ((irem (v3 / (1 + (7 * v5))) 150) + v5) (1 + (irem v3 40)) 0) fun r55 wq55 =>
            if r54 = r55 then
              fL_law_28 L xs n v3 1 (v5 + 1) wo54 wq55
            else
              fL_law_28 L xs n v3 0 (v5 + 1) wo54 wq55
          else
            fL_law_28 L xs n v3 0 (v5 + 1) wo51 wq52
def fL_law (L : Nat) (xs : Nat → Int32) (vo : zXS) (vq : zXS) : Option (Int32 × zXS × zXS) :=
  ob (fL_cell L xs 0) fun r57 =>
  fL_law_28 L xs 4 r57 1 0 vo vq
