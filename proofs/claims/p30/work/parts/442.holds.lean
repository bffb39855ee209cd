theorem hdV_X3_stuck : yX3_stuck.cls = RX3 ∧ yX3_stuck.cls ≠ "java/lang/invoke/MethodHandle" ∧ yX3_stuck.cls ≠ "java/lang/invoke/VarHandle" ∧ (parseMethodDescriptor yX3_stuck.desc).map (fun d => d.parameters.length) = some 0 := by decide +kernel
def fL_holds_814 (v17 : Int32) (s0 : Int32) (s1 : Int32) (v : zXS) : Option (Int32 × zXS) :=
    if s0 = s1 then
      ob2 (fL_call v 3 v17 2 0) fun r2 w2 =>
      if r2 = (-1) then
        ob2 (fL_call w2 3 v17 1 0) fun r4 w4 =>
        if r4 = 0 then
          some (1, w4)
        else
          ob2 (fL_call w4 15 v17 0 0) fun r6 w6 =>
          if r6 = (-1) then
            some (1, w6)
          else
            some (0, w6)
      else
        some (1, w2)
    else
      some (0, v)
def fL_holds_797 (v17 : Int32) (s0 : Int32) (v : zXS) : Option (Int32 × zXS) :=
    ob2 (fL_call v 3 v17 1 0) fun r8 w8 =>
    if r8 = 0 then
      fL_holds_814 v17 s0 1 w8
    else
      fL_holds_814 v17 s0 0 w8
def fL_holds_765 (v1 : Int32) (s0 : Int32) (v : zXS) : Option (Int32 × zXS) :=
    if s0 = 0 then
      some (0, v)
    else
      ob2 (fL_call v 15 (irem v1 256) 0 0) fun r11 w11 =>
      if r11 = 0 then
        fL_holds_797 (irem v1 256) 1 w11
      else
        fL_holds_797 (irem v1 256) 0 w11
def fL_holds_764 (v1 : Int32) (v : zXS) : Option (Int32 × zXS) :=
    fL_holds_765 v1 0 v
def fL_holds_760 (v1 : Int32) (v : zXS) : Option (Int32 × zXS) :=
    fL_holds_765 v1 1 v
def fL_holds_632 (v1 : Int32) (v13 : Int32) (v14 : Int32) (v15 : Int32) (v16 : Int32) (s0 : Int32) (s1 : Int32) (v : zXS) : Option (Int32 × zXS) :=
    if s0 = s1 then
      if v13 = (-1) then
        ob2 (fL_call v 16 100 1 0) fun r26 w26 =>
        if r26 = 0 then
          fL_holds_760 v1 w26
        else
          fL_holds_764 v1 w26
      else
        if v14 < v16 then
          fL_holds_764 v1 v
        else
          if (v16 + 100) ≤ v14 then
            fL_holds_764 v1 v
          else
            ob2 (fL_call v 15 v13 0 0) fun r17 w17 =>
            if r17 = ((v14 - v16) + 1) then
              ob2 (fL_call w17 15 ((v13 + v15) - 1) 0 0) fun r19 w19 =>
              if r19 = ((v14 - v16) + 1) then
                ob2 (fL_call w19 16 ((v14 - v16) + 1) 1 0) fun r21 w21 =>
                if r21 ≤ 0 then
                  fL_holds_764 v1 w21
                else
                  if v14 = v16 then
                    fL_holds_760 v1 w21
                  else
                    ob2 (fL_call w21 16 (v14 - v16) 1 0) fun r24 w24 =>
                    if r24 = 0 then
                      fL_holds_760 v1 w24
                    else
                      fL_holds_764 v1 w24
              else
                fL_holds_764 v1 w19
            else
              fL_holds_764 v1 w17
    else
      fL_holds_764 v1 v
def fL_holds_621 (v1 : Int32) (v13 : Int32) (v14 : Int32) (v15 : Int32) (v16 : Int32) (s0 : Int32) (v : zXS) : Option (Int32 × zXS) :=
    if v15 = (-1) then
      fL_holds_632 v1 v13 v14 v15 v16 s0 1 v
    else
      fL_holds_632 v1 v13 v14 v15 v16 s0 0 v
def fL_holds_607 (v1 : Int32) (v13 : Int32) (v14 : Int32) (v15 : Int32) (v16 : Int32) (s0 : Int32) (s1 : Int32) (v : zXS) : Option (Int32 × zXS) :=
    if s0 = s1 then
      if v13 = (-1) then
        fL_holds_621 v1 v13 v14 v15 v16 1 v
      else
        fL_holds_621 v1 v13 v14 v15 v16 0 v
    else
      fL_holds_764 v1 v
def fL_holds_596 (v1 : Int32) (v13 : Int32) (v14 : Int32) (v15 : Int32) (v16 : Int32) (s0 : Int32) (v : zXS) : Option (Int32 × zXS) :=
    if v14 = (-1) then
      fL_holds_607 v1 v13 v14 v15 v16 s0 1 v
    else
      fL_holds_607 v1 v13 v14 v15 v16 s0 0 v
def fL_holds_535 (v1 : Int32) (s0 : Int32) (v : zXS) : Option (Int32 × zXS) :=
    ob2 (fL_call v 14 0 0 0) fun r32 w32 =>
    ob2 (fL_call w32 14 2 0 0) fun r33 w33 =>
    ob2 (fL_call w33 14 1 0 0) fun r34 w34 =>
    ob2 (fL_call w34 2 4 0 0) fun r35 w35 =>
    if s0 = 0 then
      fL_holds_764 v1 w35
    else
      if r32 = (-1) then
        fL_holds_596 v1 r32 r33 r34 r35 1 w35
      else
        fL_holds_596 v1 r32 r33 r34 r35 0 w35
def fL_holds_534 (v1 : Int32) (v : zXS) : Option (Int32 × zXS) :=
    fL_holds_535 v1 0 v
def fL_holds_424 (v1 : Int32) (v2 : Int32) (v3 : Int32) (v4 : Int32) (v5 : Int32) (v6 : Int32) (v7 : Int32) (v9 : Int32) (v10 : Int32) (v11 : Int32) (v12 : Int32) (v : zXS) : Option (Int32 × zXS) :=
    if v10 = 0 then
      fL_holds_534 v1 v
    else
      if v9 = v2 then
        ob2 (fL_call v 2 0 0 0) fun r40 w40 =>
        if r40 = v3 then
          ob2 (fL_call w40 2 1 0 0) fun r42 w42 =>
          if r42 = v4 then
            ob2 (fL_call w42 2 3 0 0) fun r44 w44 =>
            if r44 = v5 then
              if v11 = v5 then
                ob2 (fL_call w44 2 9 0 0) fun r47 w47 =>
                if r47 = v7 then
                  ob2 (fL_call w47 2 10 0 0) fun r49 w49 =>
                  if r49 = v6 then
                    ob (fO_stuck w49) fun r51 =>
                    ob2 (fL_call w49 6 0 0 0) fun r52 w52 =>
                    if r51 = (v5 - (v12 <<< (r52 &&& 31))) then
                      fL_holds_535 v1 1 w52
                    else
                      fL_holds_534 v1 w52
                  else
                    fL_holds_534 v1 w49
                else
                  fL_holds_534 v1 w47
              else
                fL_holds_534 v1 w44
            else
              fL_holds_534 v1 w44
          else
            fL_holds_534 v1 w42
        else
          fL_holds_534 v1 w40
      else
        fL_holds_534 v1 v
def fL_holds_408 (kt : Int32 → Int32 → Int32 → Int32 → Int32 → Int32 → Int32 → Int32 → Int32 → Int32 → Int32 → Int32 → zXS → Option (Int32 × zXS)) (v1 : Int32) (v2 : Int32) (v3 : Int32) (v4 : Int32) (v5 : Int32) (v6 : Int32) (v7 : Int32) (v9 : Int32) (v11 : Int32) (v12 : Int32) (v13 : Int32) (s0 : Int32) (s1 : Int32) (v : zXS) : Option (Int32 × zXS) :=
    if s0 = s1 then
      kt v1 v2 v3 v4 v5 v6 v7 v9 1 v11 v12 (v13 + 1) v
    else
      kt v1 v2 v3 v4 v5 v6 v7 v9 0 v11 v12 (v13 + 1) v
def fL_holds_284 : Nat → Int32 → Int32 → Int32 → Int32 → Int32 → Int32 → Int32 → Int32 → Int32 → Int32 → Int32 → Int32 → zXS → Option (Int32 × zXS)
  | 0, _, _, _, _, _, _, _, _, _, _, _, _, _ => none
  | n + 1, v1, v2, v3, v4, v5, v6, v7, v9, v10, v11, v12, v13, v =>
    if v2 ≤ v13 then
        fL_holds_424 v1 v2 v3 v4 v5 v6 v7 v9 v10 v11 v12 v
      else
        if v10 = 0 then
          fL_holds_424 v1 v2 v3 v4 v5 v6 v7 v9 v10 v11 v12 v
        else
          ob2 (fL_call v 4 v13 1 0) fun r57 w57 =>
          ob2 (fL_call w57 4 v13 4 0) fun r58 w58 =>
          ob2 (fL_call w58 4 v13 2 0) fun r59 w59 =>
          ob2 (fL_call w59 2 4 0 0) fun r60 w60 =>
          if r60 < r59 then
            fL_holds_284 n v1 v2 v3 v4 v5 v6 v7 v9 0 (v11 + r57) (v12 + r58) (v13 + 1) w60
          else
            ob2 (fL_call w60 4 v13 3 0) fun r62 w62 =>
            ob2 (fL_call w62 4 v13 4 0) fun r63 w63 =>
            if r63 < r62 then
              fL_holds_284 n v1 v2 v3 v4 v5 v6 v7 v9 0 (v11 + r57) (v12 + r58) (v13 + 1) w63
            else
              ob2 (fL_call w63 4 v13 5 0) fun r65 w65 =>
              ob2 (fL_call w65 2 4 0 0) fun r66 w66 =>
              ob2 (fL_call w66 4 v13 2 0) fun r67 w67 =>
              ob2 (fL_call w67 6 3 0 0) fun r68 w68 =>
              if (r66 - r67) < r68 then
                fL_holds_408 (fun y0 y1 y2 y3 y4 y5 y6 y7 y8 y9 y10 y11 y12 => fL_holds_284 n y0 y1 y2 y3 y4 y5 y6 y7 y8 y9 y10 y11 y12) v1 v2 v3 v4 v5 v6 v7 v9 (v11 + r57) (v12 + r58) v13 r65 0 w68
              else
                fL_holds_408 (fun y0 y1 y2 y3 y4 y5 y6 y7 y8 y9 y10 y11 y12 => fL_holds_284 n y0 y1 y2 y3 y4 y5 y6 y7 y8 y9 y10 y11 y12) v1 v2 v3 v4 v5 v6 v7 v9 (v11 + r57) (v12 + r58) v13 r65 1 w68
def fL_holds_275 (v1 : Int32) (v2 : Int32) (v3 : Int32) (v4 : Int32) (v5 : Int32) (v6 : Int32) (v7 : Int32) (v9 : Int32) (v10 : Int32) (v : zXS) : Option (Int32 × zXS) :=
    fL_holds_284 17 v1 v2 v3 v4 v5 v6 v7 v9 v10 0 0 0 v
def fL_holds_263 (kt : Int32 → Int32 → Int32 → Int32 → Int32 → Int32 → Int32 → Int32 → Int32 → Int32 → Int32 → zXS → Option (Int32 × zXS)) (v1 : Int32) (v2 : Int32) (v3 : Int32) (v4 : Int32) (v5 : Int32) (v6 : Int32) (v7 : Int32) (v9 : Int32) (v11 : Int32) (v14 : Int32) (s0 : Int32) (v : zXS) : Option (Int32 × zXS) :=
    kt v1 v2 v3 v4 v5 v6 v7 v14 v9 s0 (v11 + 1) v
def fL_holds_262 (kt : Int32 → Int32 → Int32 → Int32 → Int32 → Int32 → Int32 → Int32 → Int32 → Int32 → Int32 → zXS → Option (Int32 × zXS)) (v1 : Int32) (v2 : Int32) (v3 : Int32) (v4 : Int32) (v5 : Int32) (v6 : Int32) (v7 : Int32) (v9 : Int32) (v11 : Int32) (v14 : Int32) (v : zXS) : Option (Int32 × zXS) :=
    fL_holds_263 kt v1 v2 v3 v4 v5 v6 v7 v9 v11 v14 0 v
def fL_holds_258 (kt : Int32 → Int32 → Int32 → Int32 → Int32 → Int32 → Int32 → Int32 → Int32 → Int32 → Int32 → zXS → Option (Int32 × zXS)) (v1 : Int32) (v2 : Int32) (v3 : Int32) (v4 : Int32) (v5 : Int32) (v6 : Int32) (v7 : Int32) (v9 : Int32) (v11 : Int32) (v14 : Int32) (v : zXS) : Option (Int32 × zXS) :=
    fL_holds_263 kt v1 v2 v3 v4 v5 v6 v7 v9 v11 v14 1 v
def fL_holds_199 (kt : Int32 → Int32 → Int32 → Int32 → Int32 → Int32 → Int32 → Int32 → Int32 → Int32 → Int32 → zXS → Option (Int32 × zXS)) (v1 : Int32) (v2 : Int32) (v3 : Int32) (v4 : Int32) (v5 : Int32) (v6 : Int32) (v7 : Int32) (v9 : Int32) (v11 : Int32) (v13 : Int32) (v14 : Int32) (v : zXS) : Option (Int32 × zXS) :=
    if v14 = (-1) then
      fL_holds_258 kt v1 v2 v3 v4 v5 v6 v7 v9 v11 v14 v
    else
      if v13 = 1 then
        if v14 = (v9 - 1) then
          ob2 (fL_call v 4 v14 0 0) fun r73 w73 =>
          if v11 < r73 then
            fL_holds_262 kt v1 v2 v3 v4 v5 v6 v7 v9 v11 v14 w73
          else
            ob2 (fL_call w73 4 v14 0 0) fun r75 w75 =>
            ob2 (fL_call w75 4 v14 1 0) fun r76 w76 =>
            if (r75 + r76) ≤ v11 then
              fL_holds_262 kt v1 v2 v3 v4 v5 v6 v7 v9 v11 v14 w76
            else
              fL_holds_258 kt v1 v2 v3 v4 v5 v6 v7 v9 v11 v14 w76
        else
          fL_holds_262 kt v1 v2 v3 v4 v5 v6 v7 v9 v11 v14 v
      else
        fL_holds_262 kt v1 v2 v3 v4 v5 v6 v7 v9 v11 v14 v
def fL_holds_179 (kt : Int32 → Int32 → Int32 → Int32 → Int32 → Int32 → Int32 → Int32 → Int32 → Int32 → Int32 → zXS → Option (Int32 × zXS)) (v1 : Int32) (v2 : Int32) (v3 : Int32) (v4 : Int32) (v5 : Int32) (v6 : Int32) (v7 : Int32) (v11 : Int32) (v12 : Int32) (v13 : Int32) (v14 : Int32) (s0 : Int32) (s1 : Int32) (v : zXS) : Option (Int32 × zXS) :=
    if v12 = 0 then
      fL_holds_199 kt v1 v2 v3 v4 v5 v6 v7 (s0 + s1) v11 v13 v14 v
    else
      if v13 = 1 then
        if v14 = (-1) then
          fL_holds_199 kt v1 v2 v3 v4 v5 v6 v7 (s0 + s1) v11 v13 v14 v
        else
          fL_holds_262 kt v1 v2 v3 v4 v5 v6 v7 (s0 + s1) v11 v14 v
      else
        fL_holds_262 kt v1 v2 v3 v4 v5 v6 v7 (s0 + s1) v11 v14 v
def fL_holds_178 (kt : Int32 → Int32 → Int32 → Int32 → Int32 → Int32 → Int32 → Int32 → Int32 → Int32 → Int32 → zXS → Option (Int32 × zXS)) (v1 : Int32) (v2 : Int32) (v3 : Int32) (v4 : Int32) (v5 : Int32) (v6 : Int32) (v7 : Int32) (v11 : Int32) (v12 : Int32) (v13 : Int32) (v14 : Int32) (s0 : Int32) (v : zXS) : Option (Int32 × zXS) :=
    fL_holds_179 kt v1 v2 v3 v4 v5 v6 v7 v11 v12 v13 v14 s0 0 v
def fL_holds_143 (kt : Int32 → Int32 → Int32 → Int32 → Int32 → Int32 → Int32 → Int32 → Int32 → Int32 → Int32 → zXS → Option (Int32 × zXS)) (v1 : Int32) (v2 : Int32) (v3 : Int32) (v4 : Int32) (v5 : Int32) (v7 : Int32) (v8 : Int32) (v9 : Int32) (v11 : Int32) (v12 : Int32) (v13 : Int32) (v14 : Int32) (s0 : Int32) (s1 : Int32) (v : zXS) : Option (Int32 × zXS) :=
    ob2 (fL_call v 3 v11 3 0) fun r81 w81 =>
    if v14 = (-1) then
      fL_holds_178 kt v1 v2 v3 v4 v5 (s0 + s1) (v7 + r81) v11 v12 v13 v14 v9 w81
    else
      if v8 = (-1) then
        fL_holds_179 kt v1 v2 v3 v4 v5 (s0 + s1) (v7 + r81) v11 v12 v13 v14 v9 1 w81
      else
        fL_holds_178 kt v1 v2 v3 v4 v5 (s0 + s1) (v7 + r81) v11 v12 v13 v14 v9 w81
def fL_holds_142 (kt : Int32 → Int32 → Int32 → Int32 → Int32 → Int32 → Int32 → Int32 → Int32 → Int32 → Int32 → zXS → Option (Int32 × zXS)) (v1 : Int32) (v2 : Int32) (v3 : Int32) (v4 : Int32) (v5 : Int32) (v7 : Int32) (v8 : Int32) (v9 : Int32) (v11 : Int32) (v12 : Int32) (v13 : Int32) (v14 : Int32) (s0 : Int32) (v : zXS) : Option (Int32 × zXS) :=
    fL_holds_143 kt v1 v2 v3 v4 v5 v7 v8 v9 v11 v12 v13 v14 s0 0 v
def fL_holds_116 (kt : Int32 → Int32 → Int32 → Int32 → Int32 → Int32 → Int32 → Int32 → Int32 → Int32 → Int32 → zXS → Option (Int32 × zXS)) (v1 : Int32) (v2 : Int32) (v3 : Int32) (v4 : Int32) (v6 : Int32) (v7 : Int32) (v8 : Int32) (v9 : Int32) (v11 : Int32) (v12 : Int32) (v13 : Int32) (v14 : Int32) (s0 : Int32) (s1 : Int32) (v : zXS) : Option (Int32 × zXS) :=
    if v13 = 1 then
      if v12 = 0 then
        if v14 = (-1) then
          fL_holds_143 kt v1 v2 v3 v4 (s0 + s1) v7 v8 v9 v11 v12 v13 v14 v6 1 v
        else
          fL_holds_142 kt v1 v2 v3 v4 (s0 + s1) v7 v8 v9 v11 v12 v13 v14 v6 v
      else
        fL_holds_142 kt v1 v2 v3 v4 (s0 + s1) v7 v8 v9 v11 v12 v13 v14 v6 v
    else
      fL_holds_142 kt v1 v2 v3 v4 (s0 + s1) v7 v8 v9 v11 v12 v13 v14 v6 v
def fL_holds_45 : Nat → Int32 → Int32 → Int32 → Int32 → Int32 → Int32 → Int32 → Int32 → Int32 → Int32 → Int32 → zXS → Option (Int32 × zXS)
  | 0, _, _, _, _, _, _, _, _, _, _, _, _ => none
  | n + 1, v1, v2, v3, v4, v5, v6, v7, v8, v9, v10, v11, v =>
    if 256 ≤ v11 then
        fL_holds_275 v1 v2 v3 v4 v5 v6 v7 v9 v10 v
      else
        if v10 = 0 then
          fL_holds_275 v1 v2 v3 v4 v5 v6 v7 v9 v10 v
        else
          ob2 (fL_call v 3 v11 0 0) fun r89 w89 =>
          ob2 (fL_call w89 3 v11 1 0) fun r90 w90 =>
          ob2 (fL_call w90 3 v11 2 0) fun r91 w91 =>
          if r91 = (-1) then
            fL_holds_116 (fun y0 y1 y2 y3 y4 y5 y6 y7 y8 y9 y10 y11 => fL_holds_45 n y0 y1 y2 y3 y4 y5 y6 y7 y8 y9 y10 y11) v1 v2 (v3 + r89) (v4 + r90) v6 v7 v8 v9 v11 r89 r90 r91 v5 0 w91
          else
            fL_holds_116 (fun y0 y1 y2 y3 y4 y5 y6 y7 y8 y9 y10 y11 => fL_holds_45 n y0 y1 y2 y3 y4 y5 y6 y7 y8 y9 y10 y11) v1 v2 (v3 + r89) (v4 + r90) v6 v7 v8 v9 v11 r89 r90 r91 v5 1 w91
def fL_holds (v : zXS) (a1 : Int32) : Option (Int32 × zXS) :=
  ob2 (fL_call v 2 2 0 0) fun r93 w93 =>
  if 16 < r93 then
    fL_holds_45 257 a1 r93 0 0 0 0 0 (-1) 0 0 0 w93
  else
    fL_holds_45 257 a1 r93 0 0 0 0 0 (-1) 0 1 0 w93
set_option maxRecDepth 100000 in
set_option maxHeartbeats 8000000 in
theorem kL_holds (l : Launch) (g : zG) (h0 : Nat) (u : zAd) (v : zXS) (a1 : Int32) (htr : l.stackTraces = false) {r : Int32} {v' : zXS} (h : fL_holds v a1 = some (r, v')) : Mn l g yL_holds wsL_holds { frames := 11, cells := 5967, slots := 35802, locals := 212 } [.ref h0, .int a1] (zXW g h0 u v) (zWi g (zXW g h0 u v') r) 5967 35802 := by
  refine zn_in0 (cc := cL_holds) (maxL := 18) (ret := (some .boolean)) (by decide) rfl (Nat.le_of_ble_eq_true rfl) ?_
  intro p e s m below meth c hx hb hr hml hts hown hlocks hK hN A hA hP hD hS hAm ls hl
  replace hl : lv_has ls 18 [(0, .ref h0), (1, .int a1)] := hl
  have loop_814 : ∀ (v17 : Int32) (s0 : Int32) (s1 : Int32) (v : zXS) (cells slots : Nat), fL_holds_814 v17 s0 s1 v = some (r, v') → cells + 9 ≤ 5967 → slots + 6 * 9 ≤ 35802 → ∀ (H : Heap) (locs : List Loc), zP g (zXW g h0 u v) H → va_D A (zXW g h0 u v) → va_S A s.heap H locs → ∀ (ls : Array Slot), lv_has ls 18 [(0, .ref h0), (17, .int v17)] → W p l e ({ frames := 11, cells := 5967, slots := 35802, locals := 212 } : Room) s m [.ref h0, .int a1].toArray below meth c H locs cells slots (MQ below (zWi g (zXW g h0 u v') r A) [.ref h0, .int a1].toArray s 5967 35802 A) (F0 m 814 ls [.int s1, .int s0]) := by
    intro v17 s0 s1 v cells slots h hc hs H locs hP hD hS ls hl
    unfold fL_holds_814 at h
    refine lv_icmp_ne (tgt := 860) hx hb dL_holds_814 (by decide) (fun c1 => ?_) (fun c1 => ?_)
    · replace h := zf c1 h
      refine lv_iconst (v := 0) hx hb dL_holds_860 (by decide) ?_
      cases h
      exact W.widen (by omega) (by omega) (zw_z hx hb hr hlocks (by decide) hP hS dL_holds_861)
    · replace h := zt c1 h
      refine lv_aload_n hx hb dL_holds_817 rfl (lv_at hl 0 rfl) ?_
      refine lv_iconst (v := 3) hx hb dL_holds_818 (by decide) ?_
      refine lv_iload hx hb dL_holds_819 (lv_at hl 1 rfl) ?_
      refine lv_iconst (v := 2) hx hb dL_holds_821 (by decide) ?_
      refine lv_iconst (v := 0) hx hb dL_holds_822 (by decide) ?_
      obtain ⟨r2, w2, e2, h⟩ := zb2 h
      refine zLSc (w := (zXW g h0 u v)) (wr := []) (wc := (zXW g h0 u v)) (wq := (zXW g h0 u w2)) (wp := (zXW g h0 u w2)) (As := [.ref h0, .int 3, .int v17, .int 2, .int 0]) (rest := []) (zWi_q g _ _) ⟨hx, hb, hml, hown, hts⟩ (kL_call l g h0 u v 3 v17 2 0 htr e2) (va_cwS 5 hts gL_holds_L_call rfl rfl rfl hdS_L_call ⟨Nat.le_of_ble_eq_true rfl, Nat.le_of_ble_eq_true rfl⟩) hK hP hD hS hA hAm hN (zXW_fst g h0 u _ _) (List.Perm.refl _) (List.Perm.refl _) rfl hl.1 rfl (Nat.le_of_ble_eq_true rfl) ⟨by show _ ≤ 5967; omega, by show _ ≤ 35802; omega⟩ dL_holds_823 (fun H locs hP hD hS => ?_)
      replace hP : zP g (zXW g h0 u w2) H := hP
      replace hD : va_D A (zXW g h0 u w2) := hD
      refine lv_iconst (v := (-1)) hx hb dL_holds_826 (by decide) ?_
      refine lv_icmp_ne (tgt := 856) hx hb dL_holds_827 (by decide) (fun c3 => ?_) (fun c3 => ?_)
      · replace h := zf c3 h
        refine lv_iconst (v := 1) hx hb dL_holds_856 (by decide) ?_
        refine lv_goto (tgt := 861) hx hb dL_holds_857 (by decide) ?_
        cases h
        exact W.widen (by omega) (by omega) (zw_z hx hb hr hlocks (by decide) hP hS dL_holds_861)
      · replace h := zt c3 h
        refine lv_aload_n hx hb dL_holds_830 rfl (lv_at hl 0 rfl) ?_
        refine lv_iconst (v := 3) hx hb dL_holds_831 (by decide) ?_
        refine lv_iload hx hb dL_holds_832 (lv_at hl 1 rfl) ?_
        refine lv_iconst (v := 1) hx hb dL_holds_834 (by decide) ?_
        refine lv_iconst (v := 0) hx hb dL_holds_835 (by decide) ?_
        obtain ⟨r4, w4, e4, h⟩ := zb2 h
        refine zLSc (w := (zXW g h0 u w2)) (wr := []) (wc := (zXW g h0 u w2)) (wq := (zXW g h0 u w4)) (wp := (zXW g h0 u w4)) (As := [.ref h0, .int 3, .int v17, .int 1, .int 0]) (rest := []) (zWi_q g _ _) ⟨hx, hb, hml, hown, hts⟩ (kL_call l g h0 u w2 3 v17 1 0 htr e4) (va_cwS 5 hts gL_holds_L_call rfl rfl rfl hdS_L_call ⟨Nat.le_of_ble_eq_true rfl, Nat.le_of_ble_eq_true rfl⟩) hK hP hD hS hA hAm hN (zXW_fst g h0 u _ _) (List.Perm.refl _) (List.Perm.refl _) rfl hl.1 rfl (Nat.le_of_ble_eq_true rfl) ⟨by show _ ≤ 5967; omega, by show _ ≤ 35802; omega⟩ dL_holds_836 (fun H locs hP hD hS => ?_)
        replace hP : zP g (zXW g h0 u w4) H := hP
        replace hD : va_D A (zXW g h0 u w4) := hD
        refine lv_if_eq (tgt := 856) hx hb dL_holds_839 (by decide) (fun c5 => ?_) (fun c5 => ?_)
        · replace h := zt c5 h
          refine lv_iconst (v := 1) hx hb dL_holds_856 (by decide) ?_
          refine lv_goto (tgt := 861) hx hb dL_holds_857 (by decide) ?_
          cases h
          exact W.widen (by omega) (by omega) (zw_z hx hb hr hlocks (by decide) hP hS dL_holds_861)
        · replace h := zf c5 h
          refine lv_aload_n hx hb dL_holds_842 rfl (lv_at hl 0 rfl) ?_
          refine lv_bipush (v := 15) hx hb dL_holds_843 (by decide) ?_
          refine lv_iload hx hb dL_holds_845 (lv_at hl 1 rfl) ?_
          refine lv_iconst (v := 0) hx hb dL_holds_847 (by decide) ?_
          refine lv_iconst (v := 0) hx hb dL_holds_848 (by decide) ?_
          obtain ⟨r6, w6, e6, h⟩ := zb2 h
          refine zLSc (w := (zXW g h0 u w4)) (wr := []) (wc := (zXW g h0 u w4)) (wq := (zXW g h0 u w6)) (wp := (zXW g h0 u w6)) (As := [.ref h0, .int 15, .int v17, .int 0, .int 0]) (rest := []) (zWi_q g _ _) ⟨hx, hb, hml, hown, hts⟩ (kL_call l g h0 u w4 15 v17 0 0 htr e6) (va_cwS 5 hts gL_holds_L_call rfl rfl rfl hdS_L_call ⟨Nat.le_of_ble_eq_true rfl, Nat.le_of_ble_eq_true rfl⟩) hK hP hD hS hA hAm hN (zXW_fst g h0 u _ _) (List.Perm.refl _) (List.Perm.refl _) rfl hl.1 rfl (Nat.le_of_ble_eq_true rfl) ⟨by show _ ≤ 5967; omega, by show _ ≤ 35802; omega⟩ dL_holds_849 (fun H locs hP hD hS => ?_)
          replace hP : zP g (zXW g h0 u w6) H := hP
          replace hD : va_D A (zXW g h0 u w6) := hD
          refine lv_iconst (v := (-1)) hx hb dL_holds_852 (by decide) ?_
          refine lv_icmp_ne (tgt := 860) hx hb dL_holds_853 (by decide) (fun c7 => ?_) (fun c7 => ?_)
          · replace h := zf c7 h
            refine lv_iconst (v := 0) hx hb dL_holds_860 (by decide) ?_
            cases h
            exact W.widen (by omega) (by omega) (zw_z hx hb hr hlocks (by decide) hP hS dL_holds_861)
          · replace h := zt c7 h
            refine lv_iconst (v := 1) hx hb dL_holds_856 (by decide) ?_
            refine lv_goto (tgt := 861) hx hb dL_holds_857 (by decide) ?_
            cases h
            exact W.widen (by omega) (by omega) (zw_z hx hb hr hlocks (by decide) hP hS dL_holds_861)
  have loop_797 : ∀ (v17 : Int32) (s0 : Int32) (v : zXS) (cells slots : Nat), fL_holds_797 v17 s0 v = some (r, v') → cells + 12 ≤ 5967 → slots + 6 * 12 ≤ 35802 → ∀ (H : Heap) (locs : List Loc), zP g (zXW g h0 u v) H → va_D A (zXW g h0 u v) → va_S A s.heap H locs → ∀ (ls : Array Slot), lv_has ls 18 [(0, .ref h0), (17, .int v17)] → W p l e ({ frames := 11, cells := 5967, slots := 35802, locals := 212 } : Room) s m [.ref h0, .int a1].toArray below meth c H locs cells slots (MQ below (zWi g (zXW g h0 u v') r A) [.ref h0, .int a1].toArray s 5967 35802 A) (F0 m 797 ls [.int s0]) := by
    intro v17 s0 v cells slots h hc hs H locs hP hD hS ls hl
    unfold fL_holds_797 at h
    refine lv_aload_n hx hb dL_holds_797 rfl (lv_at hl 0 rfl) ?_
    refine lv_iconst (v := 3) hx hb dL_holds_798 (by decide) ?_
    refine lv_iload hx hb dL_holds_799 (lv_at hl 1 rfl) ?_
    refine lv_iconst (v := 1) hx hb dL_holds_801 (by decide) ?_
    refine lv_iconst (v := 0) hx hb dL_holds_802 (by decide) ?_
    obtain ⟨r8, w8, e8, h⟩ := zb2 h
    refine zLSc (w := (zXW g h0 u v)) (wr := []) (wc := (zXW g h0 u v)) (wq := (zXW g h0 u w8)) (wp := (zXW g h0 u w8)) (As := [.ref h0, .int 3, .int v17, .int 1, .int 0]) (rest := [.int s0]) (zWi_q g _ _) ⟨hx, hb, hml, hown, hts⟩ (kL_call l g h0 u v 3 v17 1 0 htr e8) (va_cwS 5 hts gL_holds_L_call rfl rfl rfl hdS_L_call ⟨Nat.le_of_ble_eq_true rfl, Nat.le_of_ble_eq_true rfl⟩) hK hP hD hS hA hAm hN (zXW_fst g h0 u _ _) (List.Perm.refl _) (List.Perm.refl _) rfl hl.1 rfl (Nat.le_of_ble_eq_true rfl) ⟨by show _ ≤ 5967; omega, by show _ ≤ 35802; omega⟩ dL_holds_803 (fun H locs hP hD hS => ?_)
    replace hP : zP g (zXW g h0 u w8) H := hP
    replace hD : va_D A (zXW g h0 u w8) := hD
    refine lv_if_ne (tgt := 813) hx hb dL_holds_806 (by decide) (fun c9 => ?_) (fun c9 => ?_)
    · replace h := zf c9 h
      refine lv_iconst (v := 0) hx hb dL_holds_813 (by decide) ?_
      exact loop_814 v17 s0 0 w8 _ _ h (by omega) (by omega) H locs hP hD hS ls (lv_sub hl [0, 1] rfl)
    · replace h := zt c9 h
      refine lv_iconst (v := 1) hx hb dL_holds_809 (by decide) ?_
      refine lv_goto (tgt := 814) hx hb dL_holds_810 (by decide) ?_
      exact loop_814 v17 s0 1 w8 _ _ h (by omega) (by omega) H locs hP hD hS ls (lv_sub hl [0, 1] rfl)
  have loop_765 : ∀ (v1 : Int32) (s0 : Int32) (v : zXS) (cells slots : Nat), fL_holds_765 v1 s0 v = some (r, v') → cells + 15 ≤ 5967 → slots + 6 * 15 ≤ 35802 → ∀ (H : Heap) (locs : List Loc), zP g (zXW g h0 u v) H → va_D A (zXW g h0 u v) → va_S A s.heap H locs → ∀ (ls : Array Slot), lv_has ls 18 [(0, .ref h0), (1, .int v1)] → W p l e ({ frames := 11, cells := 5967, slots := 35802, locals := 212 } : Room) s m [.ref h0, .int a1].toArray below meth c H locs cells slots (MQ below (zWi g (zXW g h0 u v') r A) [.ref h0, .int a1].toArray s 5967 35802 A) (F0 m 765 ls [.int s0]) := by
    intro v1 s0 v cells slots h hc hs H locs hP hD hS ls hl
    unfold fL_holds_765 at h
    refine lv_istore (lv' := [(10, .int s0), (0, .ref h0), (1, .int v1)]) hx hb dL_holds_765 hl (by decide) rfl (fun ls hl => ?_)
    refine lv_iload_n hx hb dL_holds_767 rfl (lv_at hl 2 rfl) ?_
    refine lv_sipush (v := 256) hx hb dL_holds_768 (by decide) ?_
    refine lv_irem hx hb dL_holds_771 (by decide) ?_
    refine lv_istore (lv' := [(17, .int (irem v1 256)), (10, .int s0), (0, .ref h0), (1, .int v1)]) hx hb dL_holds_772 hl (by decide) rfl (fun ls hl => ?_)
    refine lv_iload hx hb dL_holds_774 (lv_at hl 1 rfl) ?_
    refine lv_if_eq (tgt := 860) hx hb dL_holds_776 (by decide) (fun c10 => ?_) (fun c10 => ?_)
    · replace h := zt c10 h
      refine lv_iconst (v := 0) hx hb dL_holds_860 (by decide) ?_
      cases h
      exact W.widen (by omega) (by omega) (zw_z hx hb hr hlocks (by decide) hP hS dL_holds_861)
    · replace h := zf c10 h
      refine lv_aload_n hx hb dL_holds_779 rfl (lv_at hl 2 rfl) ?_
      refine lv_bipush (v := 15) hx hb dL_holds_780 (by decide) ?_
      refine lv_iload hx hb dL_holds_782 (lv_at hl 0 rfl) ?_
      refine lv_iconst (v := 0) hx hb dL_holds_784 (by decide) ?_
      refine lv_iconst (v := 0) hx hb dL_holds_785 (by decide) ?_
      obtain ⟨r11, w11, e11, h⟩ := zb2 h
      refine zLSc (w := (zXW g h0 u v)) (wr := []) (wc := (zXW g h0 u v)) (wq := (zXW g h0 u w11)) (wp := (zXW g h0 u w11)) (As := [.ref h0, .int 15, .int (irem v1 256), .int 0, .int 0]) (rest := []) (zWi_q g _ _) ⟨hx, hb, hml, hown, hts⟩ (kL_call l g h0 u v 15 (irem v1 256) 0 0 htr e11) (va_cwS 5 hts gL_holds_L_call rfl rfl rfl hdS_L_call ⟨Nat.le_of_ble_eq_true rfl, Nat.le_of_ble_eq_true rfl⟩) hK hP hD hS hA hAm hN (zXW_fst g h0 u _ _) (List.Perm.refl _) (List.Perm.refl _) rfl hl.1 rfl (Nat.le_of_ble_eq_true rfl) ⟨by show _ ≤ 5967; omega, by show _ ≤ 35802; omega⟩ dL_holds_786 (fun H locs hP hD hS => ?_)
      replace hP : zP g (zXW g h0 u w11) H := hP
      replace hD : va_D A (zXW g h0 u w11) := hD
      refine lv_if_ne (tgt := 796) hx hb dL_holds_789 (by decide) (fun c12 => ?_) (fun c12 => ?_)
      · replace h := zf c12 h
        refine lv_iconst (v := 0) hx hb dL_holds_796 (by decide) ?_
        exact loop_797 (irem v1 256) 0 w11 _ _ h (by omega) (by omega) H locs hP hD hS ls (lv_sub hl [2, 0] rfl)
      · replace h := zt c12 h
        refine lv_iconst (v := 1) hx hb dL_holds_792 (by decide) ?_
        refine lv_goto (tgt := 797) hx hb dL_holds_793 (by decide) ?_
        exact loop_797 (irem v1 256) 1 w11 _ _ h (by omega) (by omega) H locs hP hD hS ls (lv_sub hl [2, 0] rfl)
  have loop_764 : ∀ (v1 : Int32) (v : zXS) (cells slots : Nat), fL_holds_764 v1 v = some (r, v') → cells + 15 ≤ 5967 → slots + 6 * 15 ≤ 35802 → ∀ (H : Heap) (locs : List Loc), zP g (zXW g h0 u v) H → va_D A (zXW g h0 u v) → va_S A s.heap H locs → ∀ (ls : Array Slot), lv_has ls 18 [(0, .ref h0), (1, .int v1)] → W p l e ({ frames := 11, cells := 5967, slots := 35802, locals := 212 } : Room) s m [.ref h0, .int a1].toArray below meth c H locs cells slots (MQ below (zWi g (zXW g h0 u v') r A) [.ref h0, .int a1].toArray s 5967 35802 A) (F0 m 764 ls []) := by
    intro v1 v cells slots h hc hs H locs hP hD hS ls hl
    unfold fL_holds_764 at h
    refine lv_iconst (v := 0) hx hb dL_holds_764 (by decide) ?_
    exact loop_765 v1 0 v _ _ h (by omega) (by omega) H locs hP hD hS ls (lv_sub hl [0, 1] rfl)
  have loop_760 : ∀ (v1 : Int32) (v : zXS) (cells slots : Nat), fL_holds_760 v1 v = some (r, v') → cells + 15 ≤ 5967 → slots + 6 * 15 ≤ 35802 → ∀ (H : Heap) (locs : List Loc), zP g (zXW g h0 u v) H → va_D A (zXW g h0 u v) → va_S A s.heap H locs → ∀ (ls : Array Slot), lv_has ls 18 [(0, .ref h0), (1, .int v1)] → W p l e ({ frames := 11, cells := 5967, slots := 35802, locals := 212 } : Room) s m [.ref h0, .int a1].toArray below meth c H locs cells slots (MQ below (zWi g (zXW g h0 u v') r A) [.ref h0, .int a1].toArray s 5967 35802 A) (F0 m 760 ls []) := by
    intro v1 v cells slots h hc hs H locs hP hD hS ls hl
    unfold fL_holds_760 at h
    refine lv_iconst (v := 1) hx hb dL_holds_760 (by decide) ?_
    refine lv_goto (tgt := 765) hx hb dL_holds_761 (by decide) ?_
    exact loop_765 v1 1 v _ _ h (by omega) (by omega) H locs hP hD hS ls (lv_sub hl [0, 1] rfl)
  have loop_632 : ∀ (v1 : Int32) (v13 : Int32) (v14 : Int32) (v15 : Int32) (v16 : Int32) (s0 : Int32) (s1 : Int32) (v : zXS) (cells slots : Nat), fL_holds_632 v1 v13 v14 v15 v16 s0 s1 v = some (r, v') → cells + 27 ≤ 5967 → slots + 6 * 27 ≤ 35802 → ∀ (H : Heap) (locs : List Loc), zP g (zXW g h0 u v) H → va_D A (zXW g h0 u v) → va_S A s.heap H locs → ∀ (ls : Array Slot), lv_has ls 18 [(0, .ref h0), (1, .int v1), (13, .int v13), (14, .int v14), (15, .int v15), (16, .int v16)] → W p l e ({ frames := 11, cells := 5967, slots := 35802, locals := 212 } : Room) s m [.ref h0, .int a1].toArray below meth c H locs cells slots (MQ below (zWi g (zXW g h0 u v') r A) [.ref h0, .int a1].toArray s 5967 35802 A) (F0 m 632 ls [.int s1, .int s0]) := by
    intro v1 v13 v14 v15 v16 s0 s1 v cells slots h hc hs H locs hP hD hS ls hl
    unfold fL_holds_632 at h
    refine lv_icmp_ne (tgt := 764) hx hb dL_holds_632 (by decide) (fun c13 => ?_) (fun c13 => ?_)
    · replace h := zf c13 h
      exact loop_764 v1 v _ _ h (by omega) (by omega) H locs hP hD hS ls (lv_sub hl [0, 1] rfl)
    · replace h := zt c13 h
      refine lv_iload hx hb dL_holds_635 (lv_at hl 2 rfl) ?_
      refine lv_iconst (v := (-1)) hx hb dL_holds_637 (by decide) ?_
      refine lv_icmp_ne (tgt := 657) hx hb dL_holds_638 (by decide) (fun c14 => ?_) (fun c14 => ?_)
      · replace h := zf c14 h
        refine lv_iload hx hb dL_holds_657 (lv_at hl 3 rfl) ?_
        refine lv_iload hx hb dL_holds_659 (lv_at hl 5 rfl) ?_
        refine lv_icmp_lt (tgt := 764) hx hb dL_holds_661 (by decide) (fun c15 => ?_) (fun c15 => ?_)
        · replace h := zt c15 h
          exact loop_764 v1 v _ _ h (by omega) (by omega) H locs hP hD hS ls (lv_sub hl [0, 1] rfl)
        · replace h := zf c15 h
          refine lv_iload hx hb dL_holds_664 (lv_at hl 3 rfl) ?_
          refine lv_iload hx hb dL_holds_666 (lv_at hl 5 rfl) ?_
          refine lv_bipush (v := 100) hx hb dL_holds_668 (by decide) ?_
          refine lv_iadd hx hb dL_holds_670 ?_
          refine lv_icmp_ge (tgt := 764) hx hb dL_holds_671 (by decide) (fun c16 => ?_) (fun c16 => ?_)
          · replace h := zt c16 h
            exact loop_764 v1 v _ _ h (by omega) (by omega) H locs hP hD hS ls (lv_sub hl [0, 1] rfl)
          · replace h := zf c16 h
            refine lv_aload_n hx hb dL_holds_674 rfl (lv_at hl 0 rfl) ?_
            refine lv_bipush (v := 15) hx hb dL_holds_675 (by decide) ?_
            refine lv_iload hx hb dL_holds_677 (lv_at hl 2 rfl) ?_
            refine lv_iconst (v := 0) hx hb dL_holds_679 (by decide) ?_
            refine lv_iconst (v := 0) hx hb dL_holds_680 (by decide) ?_
            obtain ⟨r17, w17, e17, h⟩ := zb2 h
            refine zLSc (w := (zXW g h0 u v)) (wr := []) (wc := (zXW g h0 u v)) (wq := (zXW g h0 u w17)) (wp := (zXW g h0 u w17)) (As := [.ref h0, .int 15, .int v13, .int 0, .int 0]) (rest := []) (zWi_q g _ _) ⟨hx, hb, hml, hown, hts⟩ (kL_call l g h0 u v 15 v13 0 0 htr e17) (va_cwS 5 hts gL_holds_L_call rfl rfl rfl hdS_L_call ⟨Nat.le_of_ble_eq_true rfl, Nat.le_of_ble_eq_true rfl⟩) hK hP hD hS hA hAm hN (zXW_fst g h0 u _ _) (List.Perm.refl _) (List.Perm.refl _) rfl hl.1 rfl (Nat.le_of_ble_eq_true rfl) ⟨by show _ ≤ 5967; omega, by show _ ≤ 35802; omega⟩ dL_holds_681 (fun H locs hP hD hS => ?_)
            replace hP : zP g (zXW g h0 u w17) H := hP
            replace hD : va_D A (zXW g h0 u w17) := hD
            refine lv_iload hx hb dL_holds_684 (lv_at hl 3 rfl) ?_
            refine lv_iload hx hb dL_holds_686 (lv_at hl 5 rfl) ?_
            refine lv_isub hx hb dL_holds_688 ?_
            refine lv_iconst (v := 1) hx hb dL_holds_689 (by decide) ?_
            refine lv_iadd hx hb dL_holds_690 ?_
            refine lv_icmp_ne (tgt := 764) hx hb dL_holds_691 (by decide) (fun c18 => ?_) (fun c18 => ?_)
            · replace h := zf c18 h
              exact loop_764 v1 w17 _ _ h (by omega) (by omega) H locs hP hD hS ls (lv_sub hl [0, 1] rfl)
            · replace h := zt c18 h
              refine lv_aload_n hx hb dL_holds_694 rfl (lv_at hl 0 rfl) ?_
              refine lv_bipush (v := 15) hx hb dL_holds_695 (by decide) ?_
              refine lv_iload hx hb dL_holds_697 (lv_at hl 2 rfl) ?_
              refine lv_iload hx hb dL_holds_699 (lv_at hl 4 rfl) ?_
              refine lv_iadd hx hb dL_holds_701 ?_
              refine lv_iconst (v := 1) hx hb dL_holds_702 (by decide) ?_
              refine lv_isub hx hb dL_holds_703 ?_
              refine lv_iconst (v := 0) hx hb dL_holds_704 (by decide) ?_
              refine lv_iconst (v := 0) hx hb dL_holds_705 (by decide) ?_
              obtain ⟨r19, w19, e19, h⟩ := zb2 h
              refine zLSc (w := (zXW g h0 u w17)) (wr := []) (wc := (zXW g h0 u w17)) (wq := (zXW g h0 u w19)) (wp := (zXW g h0 u w19)) (As := [.ref h0, .int 15, .int ((v13 + v15) - 1), .int 0, .int 0]) (rest := []) (zWi_q g _ _) ⟨hx, hb, hml, hown, hts⟩ (kL_call l g h0 u w17 15 ((v13 + v15) - 1) 0 0 htr e19) (va_cwS 5 hts gL_holds_L_call rfl rfl rfl hdS_L_call ⟨Nat.le_of_ble_eq_true rfl, Nat.le_of_ble_eq_true rfl⟩) hK hP hD hS hA hAm hN (zXW_fst g h0 u _ _) (List.Perm.refl _) (List.Perm.refl _) rfl hl.1 rfl (Nat.le_of_ble_eq_true rfl) ⟨by show _ ≤ 5967; omega, by show _ ≤ 35802; omega⟩ dL_holds_706 (fun H locs hP hD hS => ?_)
              replace hP : zP g (zXW g h0 u w19) H := hP
              replace hD : va_D A (zXW g h0 u w19) := hD
              refine lv_iload hx hb dL_holds_709 (lv_at hl 3 rfl) ?_
              refine lv_iload hx hb dL_holds_711 (lv_at hl 5 rfl) ?_
              refine lv_isub hx hb dL_holds_713 ?_
              refine lv_iconst (v := 1) hx hb dL_holds_714 (by decide) ?_
              refine lv_iadd hx hb dL_holds_715 ?_
              refine lv_icmp_ne (tgt := 764) hx hb dL_holds_716 (by decide) (fun c20 => ?_) (fun c20 => ?_)
              · replace h := zf c20 h
                exact loop_764 v1 w19 _ _ h (by omega) (by omega) H locs hP hD hS ls (lv_sub hl [0, 1] rfl)
              · replace h := zt c20 h
                refine lv_aload_n hx hb dL_holds_719 rfl (lv_at hl 0 rfl) ?_
                refine lv_bipush (v := 16) hx hb dL_holds_720 (by decide) ?_
                refine lv_iload hx hb dL_holds_722 (lv_at hl 3 rfl) ?_
                refine lv_iload hx hb dL_holds_724 (lv_at hl 5 rfl) ?_
                refine lv_isub hx hb dL_holds_726 ?_
                refine lv_iconst (v := 1) hx hb dL_holds_727 (by decide) ?_
                refine lv_iadd hx hb dL_holds_728 ?_
                refine lv_iconst (v := 1) hx hb dL_holds_729 (by decide) ?_
                refine lv_iconst (v := 0) hx hb dL_holds_730 (by decide) ?_
                obtain ⟨r21, w21, e21, h⟩ := zb2 h
                refine zLSc (w := (zXW g h0 u w19)) (wr := []) (wc := (zXW g h0 u w19)) (wq := (zXW g h0 u w21)) (wp := (zXW g h0 u w21)) (As := [.ref h0, .int 16, .int ((v14 - v16) + 1), .int 1, .int 0]) (rest := []) (zWi_q g _ _) ⟨hx, hb, hml, hown, hts⟩ (kL_call l g h0 u w19 16 ((v14 - v16) + 1) 1 0 htr e21) (va_cwS 5 hts gL_holds_L_call rfl rfl rfl hdS_L_call ⟨Nat.le_of_ble_eq_true rfl, Nat.le_of_ble_eq_true rfl⟩) hK hP hD hS hA hAm hN (zXW_fst g h0 u _ _) (List.Perm.refl _) (List.Perm.refl _) rfl hl.1 rfl (Nat.le_of_ble_eq_true rfl) ⟨by show _ ≤ 5967; omega, by show _ ≤ 35802; omega⟩ dL_holds_731 (fun H locs hP hD hS => ?_)
                replace hP : zP g (zXW g h0 u w21) H := hP
                replace hD : va_D A (zXW g h0 u w21) := hD
                refine lv_if_le (tgt := 764) hx hb dL_holds_734 (by decide) (fun c22 => ?_) (fun c22 => ?_)
                · replace h := zt c22 h
                  exact loop_764 v1 w21 _ _ h (by omega) (by omega) H locs hP hD hS ls (lv_sub hl [0, 1] rfl)
                · replace h := zf c22 h
                  refine lv_iload hx hb dL_holds_737 (lv_at hl 3 rfl) ?_
                  refine lv_iload hx hb dL_holds_739 (lv_at hl 5 rfl) ?_
                  refine lv_icmp_eq (tgt := 760) hx hb dL_holds_741 (by decide) (fun c23 => ?_) (fun c23 => ?_)
                  · replace h := zt c23 h
                    exact loop_760 v1 w21 _ _ h (by omega) (by omega) H locs hP hD hS ls (lv_sub hl [0, 1] rfl)
                  · replace h := zf c23 h
                    refine lv_aload_n hx hb dL_holds_744 rfl (lv_at hl 0 rfl) ?_
                    refine lv_bipush (v := 16) hx hb dL_holds_745 (by decide) ?_
                    refine lv_iload hx hb dL_holds_747 (lv_at hl 3 rfl) ?_
                    refine lv_iload hx hb dL_holds_749 (lv_at hl 5 rfl) ?_
                    refine lv_isub hx hb dL_holds_751 ?_
                    refine lv_iconst (v := 1) hx hb dL_holds_752 (by decide) ?_
                    refine lv_iconst (v := 0) hx hb dL_holds_753 (by decide) ?_
                    obtain ⟨r24, w24, e24, h⟩ := zb2 h
                    refine zLSc (w := (zXW g h0 u w21)) (wr := []) (wc := (zXW g h0 u w21)) (wq := (zXW g h0 u w24)) (wp := (zXW g h0 u w24)) (As := [.ref h0, .int 16, .int (v14 - v16), .int 1, .int 0]) (rest := []) (zWi_q g _ _) ⟨hx, hb, hml, hown, hts⟩ (kL_call l g h0 u w21 16 (v14 - v16) 1 0 htr e24) (va_cwS 5 hts gL_holds_L_call rfl rfl rfl hdS_L_call ⟨Nat.le_of_ble_eq_true rfl, Nat.le_of_ble_eq_true rfl⟩) hK hP hD hS hA hAm hN (zXW_fst g h0 u _ _) (List.Perm.refl _) (List.Perm.refl _) rfl hl.1 rfl (Nat.le_of_ble_eq_true rfl) ⟨by show _ ≤ 5967; omega, by show _ ≤ 35802; omega⟩ dL_holds_754 (fun H locs hP hD hS => ?_)
                    replace hP : zP g (zXW g h0 u w24) H := hP
                    replace hD : va_D A (zXW g h0 u w24) := hD
                    refine lv_if_ne (tgt := 764) hx hb dL_holds_757 (by decide) (fun c25 => ?_) (fun c25 => ?_)
                    · replace h := zf c25 h
                      exact loop_764 v1 w24 _ _ h (by omega) (by omega) H locs hP hD hS ls (lv_sub hl [0, 1] rfl)
                    · replace h := zt c25 h
                      exact loop_760 v1 w24 _ _ h (by omega) (by omega) H locs hP hD hS ls (lv_sub hl [0, 1] rfl)
      · replace h := zt c14 h
        refine lv_aload_n hx hb dL_holds_641 rfl (lv_at hl 0 rfl) ?_
        refine lv_bipush (v := 16) hx hb dL_holds_642 (by decide) ?_
        refine lv_bipush (v := 100) hx hb dL_holds_644 (by decide) ?_
        refine lv_iconst (v := 1) hx hb dL_holds_646 (by decide) ?_
        refine lv_iconst (v := 0) hx hb dL_holds_647 (by decide) ?_
        obtain ⟨r26, w26, e26, h⟩ := zb2 h
        refine zLSc (w := (zXW g h0 u v)) (wr := []) (wc := (zXW g h0 u v)) (wq := (zXW g h0 u w26)) (wp := (zXW g h0 u w26)) (As := [.ref h0, .int 16, .int 100, .int 1, .int 0]) (rest := []) (zWi_q g _ _) ⟨hx, hb, hml, hown, hts⟩ (kL_call l g h0 u v 16 100 1 0 htr e26) (va_cwS 5 hts gL_holds_L_call rfl rfl rfl hdS_L_call ⟨Nat.le_of_ble_eq_true rfl, Nat.le_of_ble_eq_true rfl⟩) hK hP hD hS hA hAm hN (zXW_fst g h0 u _ _) (List.Perm.refl _) (List.Perm.refl _) rfl hl.1 rfl (Nat.le_of_ble_eq_true rfl) ⟨by show _ ≤ 5967; omega, by show _ ≤ 35802; omega⟩ dL_holds_648 (fun H locs hP hD hS => ?_)
        replace hP : zP g (zXW g h0 u w26) H := hP
        replace hD : va_D A (zXW g h0 u w26) := hD
        refine lv_if_ne (tgt := 764) hx hb dL_holds_651 (by decide) (fun c27 => ?_) (fun c27 => ?_)
        · replace h := zf c27 h
          exact loop_764 v1 w26 _ _ h (by omega) (by omega) H locs hP hD hS ls (lv_sub hl [0, 1] rfl)
        · replace h := zt c27 h
          refine lv_goto (tgt := 760) hx hb dL_holds_654 (by decide) ?_
          exact loop_760 v1 w26 _ _ h (by omega) (by omega) H locs hP hD hS ls (lv_sub hl [0, 1] rfl)
  have loop_621 : ∀ (v1 : Int32) (v13 : Int32) (v14 : Int32) (v15 : Int32) (v16 : Int32) (s0 : Int32) (v : zXS) (cells slots : Nat), fL_holds_621 v1 v13 v14 v15 v16 s0 v = some (r, v') → cells + 27 ≤ 5967 → slots + 6 * 27 ≤ 35802 → ∀ (H : Heap) (locs : List Loc), zP g (zXW g h0 u v) H → va_D A (zXW g h0 u v) → va_S A s.heap H locs → ∀ (ls : Array Slot), lv_has ls 18 [(0, .ref h0), (1, .int v1), (13, .int v13), (14, .int v14), (15, .int v15), (16, .int v16)] → W p l e ({ frames := 11, cells := 5967, slots := 35802, locals := 212 } : Room) s m [.ref h0, .int a1].toArray below meth c H locs cells slots (MQ below (zWi g (zXW g h0 u v') r A) [.ref h0, .int a1].toArray s 5967 35802 A) (F0 m 621 ls [.int s0]) := by
    intro v1 v13 v14 v15 v16 s0 v cells slots h hc hs H locs hP hD hS ls hl
    unfold fL_holds_621 at h
    refine lv_iload hx hb dL_holds_621 (lv_at hl 4 rfl) ?_
    refine lv_iconst (v := (-1)) hx hb dL_holds_623 (by decide) ?_
    refine lv_icmp_ne (tgt := 631) hx hb dL_holds_624 (by decide) (fun c28 => ?_) (fun c28 => ?_)
    · replace h := zf c28 h
      refine lv_iconst (v := 0) hx hb dL_holds_631 (by decide) ?_
      exact loop_632 v1 v13 v14 v15 v16 s0 0 v _ _ h (by omega) (by omega) H locs hP hD hS ls (lv_sub hl [0, 1, 2, 3, 4, 5] rfl)
    · replace h := zt c28 h
      refine lv_iconst (v := 1) hx hb dL_holds_627 (by decide) ?_
      refine lv_goto (tgt := 632) hx hb dL_holds_628 (by decide) ?_
      exact loop_632 v1 v13 v14 v15 v16 s0 1 v _ _ h (by omega) (by omega) H locs hP hD hS ls (lv_sub hl [0, 1, 2, 3, 4, 5] rfl)
  have loop_607 : ∀ (v1 : Int32) (v13 : Int32) (v14 : Int32) (v15 : Int32) (v16 : Int32) (s0 : Int32) (s1 : Int32) (v : zXS) (cells slots : Nat), fL_holds_607 v1 v13 v14 v15 v16 s0 s1 v = some (r, v') → cells + 27 ≤ 5967 → slots + 6 * 27 ≤ 35802 → ∀ (H : Heap) (locs : List Loc), zP g (zXW g h0 u v) H → va_D A (zXW g h0 u v) → va_S A s.heap H locs → ∀ (ls : Array Slot), lv_has ls 18 [(0, .ref h0), (1, .int v1), (13, .int v13), (14, .int v14), (15, .int v15), (16, .int v16)] → W p l e ({ frames := 11, cells := 5967, slots := 35802, locals := 212 } : Room) s m [.ref h0, .int a1].toArray below meth c H locs cells slots (MQ below (zWi g (zXW g h0 u v') r A) [.ref h0, .int a1].toArray s 5967 35802 A) (F0 m 607 ls [.int s1, .int s0]) := by
    intro v1 v13 v14 v15 v16 s0 s1 v cells slots h hc hs H locs hP hD hS ls hl
    unfold fL_holds_607 at h
    refine lv_icmp_ne (tgt := 764) hx hb dL_holds_607 (by decide) (fun c29 => ?_) (fun c29 => ?_)
    · replace h := zf c29 h
      exact loop_764 v1 v _ _ h (by omega) (by omega) H locs hP hD hS ls (lv_sub hl [0, 1] rfl)
    · replace h := zt c29 h
      refine lv_iload hx hb dL_holds_610 (lv_at hl 2 rfl) ?_
      refine lv_iconst (v := (-1)) hx hb dL_holds_612 (by decide) ?_
      refine lv_icmp_ne (tgt := 620) hx hb dL_holds_613 (by decide) (fun c30 => ?_) (fun c30 => ?_)
      · replace h := zf c30 h
        refine lv_iconst (v := 0) hx hb dL_holds_620 (by decide) ?_
        exact loop_621 v1 v13 v14 v15 v16 0 v _ _ h (by omega) (by omega) H locs hP hD hS ls (lv_sub hl [0, 1, 2, 3, 4, 5] rfl)
      · replace h := zt c30 h
        refine lv_iconst (v := 1) hx hb dL_holds_616 (by decide) ?_
        refine lv_goto (tgt := 621) hx hb dL_holds_617 (by decide) ?_
        exact loop_621 v1 v13 v14 v15 v16 1 v _ _ h (by omega) (by omega) H locs hP hD hS ls (lv_sub hl [0, 1, 2, 3, 4, 5] rfl)
  have loop_596 : ∀ (v1 : Int32) (v13 : Int32) (v14 : Int32) (v15 : Int32) (v16 : Int32) (s0 : Int32) (v : zXS) (cells slots : Nat), fL_holds_596 v1 v13 v14 v15 v16 s0 v = some (r, v') → cells + 27 ≤ 5967 → slots + 6 * 27 ≤ 35802 → ∀ (H : Heap) (locs : List Loc), zP g (zXW g h0 u v) H → va_D A (zXW g h0 u v) → va_S A s.heap H locs → ∀ (ls : Array Slot), lv_has ls 18 [(0, .ref h0), (1, .int v1), (13, .int v13), (14, .int v14), (15, .int v15), (16, .int v16)] → W p l e ({ frames := 11, cells := 5967, slots := 35802, locals := 212 } : Room) s m [.ref h0, .int a1].toArray below meth c H locs cells slots (MQ below (zWi g (zXW g h0 u v') r A) [.ref h0, .int a1].toArray s 5967 35802 A) (F0 m 596 ls [.int s0]) := by
    intro v1 v13 v14 v15 v16 s0 v cells slots h hc hs H locs hP hD hS ls hl
    unfold fL_holds_596 at h
    refine lv_iload hx hb dL_holds_596 (lv_at hl 3 rfl) ?_
    refine lv_iconst (v := (-1)) hx hb dL_holds_598 (by decide) ?_
    refine lv_icmp_ne (tgt := 606) hx hb dL_holds_599 (by decide) (fun c31 => ?_) (fun c31 => ?_)
    · replace h := zf c31 h
      refine lv_iconst (v := 0) hx hb dL_holds_606 (by decide) ?_
      exact loop_607 v1 v13 v14 v15 v16 s0 0 v _ _ h (by omega) (by omega) H locs hP hD hS ls (lv_sub hl [0, 1, 2, 3, 4, 5] rfl)
    · replace h := zt c31 h
      refine lv_iconst (v := 1) hx hb dL_holds_602 (by decide) ?_
      refine lv_goto (tgt := 607) hx hb dL_holds_603 (by decide) ?_
      exact loop_607 v1 v13 v14 v15 v16 s0 1 v _ _ h (by omega) (by omega) H locs hP hD hS ls (lv_sub hl [0, 1, 2, 3, 4, 5] rfl)
  have loop_535 : ∀ (v1 : Int32) (s0 : Int32) (v : zXS) (cells slots : Nat), fL_holds_535 v1 s0 v = some (r, v') → cells + 39 ≤ 5967 → slots + 6 * 39 ≤ 35802 → ∀ (H : Heap) (locs : List Loc), zP g (zXW g h0 u v) H → va_D A (zXW g h0 u v) → va_S A s.heap H locs → ∀ (ls : Array Slot), lv_has ls 18 [(0, .ref h0), (1, .int v1)] → W p l e ({ frames := 11, cells := 5967, slots := 35802, locals := 212 } : Room) s m [.ref h0, .int a1].toArray below meth c H locs cells slots (MQ below (zWi g (zXW g h0 u v') r A) [.ref h0, .int a1].toArray s 5967 35802 A) (F0 m 535 ls [.int s0]) := by
    intro v1 s0 v cells slots h hc hs H locs hP hD hS ls hl
    unfold fL_holds_535 at h
    refine lv_istore (lv' := [(10, .int s0), (0, .ref h0), (1, .int v1)]) hx hb dL_holds_535 hl (by decide) rfl (fun ls hl => ?_)
    refine lv_aload_n hx hb dL_holds_537 rfl (lv_at hl 1 rfl) ?_
    refine lv_bipush (v := 14) hx hb dL_holds_538 (by decide) ?_
    refine lv_iconst (v := 0) hx hb dL_holds_540 (by decide) ?_
    refine lv_iconst (v := 0) hx hb dL_holds_541 (by decide) ?_
    refine lv_iconst (v := 0) hx hb dL_holds_542 (by decide) ?_
    obtain ⟨r32, w32, e32, h⟩ := zb2 h
    refine zLSc (w := (zXW g h0 u v)) (wr := []) (wc := (zXW g h0 u v)) (wq := (zXW g h0 u w32)) (wp := (zXW g h0 u w32)) (As := [.ref h0, .int 14, .int 0, .int 0, .int 0]) (rest := []) (zWi_q g _ _) ⟨hx, hb, hml, hown, hts⟩ (kL_call l g h0 u v 14 0 0 0 htr e32) (va_cwS 5 hts gL_holds_L_call rfl rfl rfl hdS_L_call ⟨Nat.le_of_ble_eq_true rfl, Nat.le_of_ble_eq_true rfl⟩) hK hP hD hS hA hAm hN (zXW_fst g h0 u _ _) (List.Perm.refl _) (List.Perm.refl _) rfl hl.1 rfl (Nat.le_of_ble_eq_true rfl) ⟨by show _ ≤ 5967; omega, by show _ ≤ 35802; omega⟩ dL_holds_543 (fun H locs hP hD hS => ?_)
    replace hP : zP g (zXW g h0 u w32) H := hP
    replace hD : va_D A (zXW g h0 u w32) := hD
    refine lv_istore (lv' := [(13, .int r32), (10, .int s0), (0, .ref h0), (1, .int v1)]) hx hb dL_holds_546 hl (by decide) rfl (fun ls hl => ?_)
    refine lv_aload_n hx hb dL_holds_548 rfl (lv_at hl 2 rfl) ?_
    refine lv_bipush (v := 14) hx hb dL_holds_549 (by decide) ?_
    refine lv_iconst (v := 2) hx hb dL_holds_551 (by decide) ?_
    refine lv_iconst (v := 0) hx hb dL_holds_552 (by decide) ?_
    refine lv_iconst (v := 0) hx hb dL_holds_553 (by decide) ?_
    obtain ⟨r33, w33, e33, h⟩ := zb2 h
    refine zLSc (w := (zXW g h0 u w32)) (wr := []) (wc := (zXW g h0 u w32)) (wq := (zXW g h0 u w33)) (wp := (zXW g h0 u w33)) (As := [.ref h0, .int 14, .int 2, .int 0, .int 0]) (rest := []) (zWi_q g _ _) ⟨hx, hb, hml, hown, hts⟩ (kL_call l g h0 u w32 14 2 0 0 htr e33) (va_cwS 5 hts gL_holds_L_call rfl rfl rfl hdS_L_call ⟨Nat.le_of_ble_eq_true rfl, Nat.le_of_ble_eq_true rfl⟩) hK hP hD hS hA hAm hN (zXW_fst g h0 u _ _) (List.Perm.refl _) (List.Perm.refl _) rfl hl.1 rfl (Nat.le_of_ble_eq_true rfl) ⟨by show _ ≤ 5967; omega, by show _ ≤ 35802; omega⟩ dL_holds_554 (fun H locs hP hD hS => ?_)
    replace hP : zP g (zXW g h0 u w33) H := hP
    replace hD : va_D A (zXW g h0 u w33) := hD
    refine lv_istore (lv' := [(14, .int r33), (13, .int r32), (10, .int s0), (0, .ref h0), (1, .int v1)]) hx hb dL_holds_557 hl (by decide) rfl (fun ls hl => ?_)
    refine lv_aload_n hx hb dL_holds_559 rfl (lv_at hl 3 rfl) ?_
    refine lv_bipush (v := 14) hx hb dL_holds_560 (by decide) ?_
    refine lv_iconst (v := 1) hx hb dL_holds_562 (by decide) ?_
    refine lv_iconst (v := 0) hx hb dL_holds_563 (by decide) ?_
    refine lv_iconst (v := 0) hx hb dL_holds_564 (by decide) ?_
    obtain ⟨r34, w34, e34, h⟩ := zb2 h
    refine zLSc (w := (zXW g h0 u w33)) (wr := []) (wc := (zXW g h0 u w33)) (wq := (zXW g h0 u w34)) (wp := (zXW g h0 u w34)) (As := [.ref h0, .int 14, .int 1, .int 0, .int 0]) (rest := []) (zWi_q g _ _) ⟨hx, hb, hml, hown, hts⟩ (kL_call l g h0 u w33 14 1 0 0 htr e34) (va_cwS 5 hts gL_holds_L_call rfl rfl rfl hdS_L_call ⟨Nat.le_of_ble_eq_true rfl, Nat.le_of_ble_eq_true rfl⟩) hK hP hD hS hA hAm hN (zXW_fst g h0 u _ _) (List.Perm.refl _) (List.Perm.refl _) rfl hl.1 rfl (Nat.le_of_ble_eq_true rfl) ⟨by show _ ≤ 5967; omega, by show _ ≤ 35802; omega⟩ dL_holds_565 (fun H locs hP hD hS => ?_)
    replace hP : zP g (zXW g h0 u w34) H := hP
    replace hD : va_D A (zXW g h0 u w34) := hD
    refine lv_istore (lv' := [(15, .int r34), (14, .int r33), (13, .int r32), (10, .int s0), (0, .ref h0), (1, .int v1)]) hx hb dL_holds_568 hl (by decide) rfl (fun ls hl => ?_)
    refine lv_aload_n hx hb dL_holds_570 rfl (lv_at hl 4 rfl) ?_
    refine lv_iconst (v := 2) hx hb dL_holds_571 (by decide) ?_
    refine lv_iconst (v := 4) hx hb dL_holds_572 (by decide) ?_
    refine lv_iconst (v := 0) hx hb dL_holds_573 (by decide) ?_
    refine lv_iconst (v := 0) hx hb dL_holds_574 (by decide) ?_
    obtain ⟨r35, w35, e35, h⟩ := zb2 h
    refine zLSc (w := (zXW g h0 u w34)) (wr := []) (wc := (zXW g h0 u w34)) (wq := (zXW g h0 u w35)) (wp := (zXW g h0 u w35)) (As := [.ref h0, .int 2, .int 4, .int 0, .int 0]) (rest := []) (zWi_q g _ _) ⟨hx, hb, hml, hown, hts⟩ (kL_call l g h0 u w34 2 4 0 0 htr e35) (va_cwS 5 hts gL_holds_L_call rfl rfl rfl hdS_L_call ⟨Nat.le_of_ble_eq_true rfl, Nat.le_of_ble_eq_true rfl⟩) hK hP hD hS hA hAm hN (zXW_fst g h0 u _ _) (List.Perm.refl _) (List.Perm.refl _) rfl hl.1 rfl (Nat.le_of_ble_eq_true rfl) ⟨by show _ ≤ 5967; omega, by show _ ≤ 35802; omega⟩ dL_holds_575 (fun H locs hP hD hS => ?_)
    replace hP : zP g (zXW g h0 u w35) H := hP
    replace hD : va_D A (zXW g h0 u w35) := hD
    refine lv_istore (lv' := [(16, .int r35), (15, .int r34), (14, .int r33), (13, .int r32), (10, .int s0), (0, .ref h0), (1, .int v1)]) hx hb dL_holds_578 hl (by decide) rfl (fun ls hl => ?_)
    refine lv_iload hx hb dL_holds_580 (lv_at hl 4 rfl) ?_
    refine lv_if_eq (tgt := 764) hx hb dL_holds_582 (by decide) (fun c36 => ?_) (fun c36 => ?_)
    · replace h := zt c36 h
      exact loop_764 v1 w35 _ _ h (by omega) (by omega) H locs hP hD hS ls (lv_sub hl [5, 6] rfl)
    · replace h := zf c36 h
      refine lv_iload hx hb dL_holds_585 (lv_at hl 3 rfl) ?_
      refine lv_iconst (v := (-1)) hx hb dL_holds_587 (by decide) ?_
      refine lv_icmp_ne (tgt := 595) hx hb dL_holds_588 (by decide) (fun c37 => ?_) (fun c37 => ?_)
      · replace h := zf c37 h
        refine lv_iconst (v := 0) hx hb dL_holds_595 (by decide) ?_
        exact loop_596 v1 r32 r33 r34 r35 0 w35 _ _ h (by omega) (by omega) H locs hP hD hS ls (lv_sub hl [5, 6, 3, 2, 1, 0] rfl)
      · replace h := zt c37 h
        refine lv_iconst (v := 1) hx hb dL_holds_591 (by decide) ?_
        refine lv_goto (tgt := 596) hx hb dL_holds_592 (by decide) ?_
        exact loop_596 v1 r32 r33 r34 r35 1 w35 _ _ h (by omega) (by omega) H locs hP hD hS ls (lv_sub hl [5, 6, 3, 2, 1, 0] rfl)
  have loop_534 : ∀ (v1 : Int32) (v : zXS) (cells slots : Nat), fL_holds_534 v1 v = some (r, v') → cells + 39 ≤ 5967 → slots + 6 * 39 ≤ 35802 → ∀ (H : Heap) (locs : List Loc), zP g (zXW g h0 u v) H → va_D A (zXW g h0 u v) → va_S A s.heap H locs → ∀ (ls : Array Slot), lv_has ls 18 [(0, .ref h0), (1, .int v1)] → W p l e ({ frames := 11, cells := 5967, slots := 35802, locals := 212 } : Room) s m [.ref h0, .int a1].toArray below meth c H locs cells slots (MQ below (zWi g (zXW g h0 u v') r A) [.ref h0, .int a1].toArray s 5967 35802 A) (F0 m 534 ls []) := by
    intro v1 v cells slots h hc hs H locs hP hD hS ls hl
    unfold fL_holds_534 at h
    refine lv_iconst (v := 0) hx hb dL_holds_534 (by decide) ?_
    exact loop_535 v1 0 v _ _ h (by omega) (by omega) H locs hP hD hS ls (lv_sub hl [0, 1] rfl)
  have loop_424 : ∀ (v1 : Int32) (v2 : Int32) (v3 : Int32) (v4 : Int32) (v5 : Int32) (v6 : Int32) (v7 : Int32) (v9 : Int32) (v10 : Int32) (v11 : Int32) (v12 : Int32) (v : zXS) (cells slots : Nat), fL_holds_424 v1 v2 v3 v4 v5 v6 v7 v9 v10 v11 v12 v = some (r, v') → cells + 57 ≤ 5967 → slots + 6 * 57 ≤ 35802 → ∀ (H : Heap) (locs : List Loc), zP g (zXW g h0 u v) H → va_D A (zXW g h0 u v) → va_S A s.heap H locs → ∀ (ls : Array Slot), lv_has ls 18 [(0, .ref h0), (1, .int v1), (2, .int v2), (3, .int v3), (4, .int v4), (5, .int v5), (6, .int v6), (7, .int v7), (9, .int v9), (10, .int v10), (11, .int v11), (12, .int v12)] → W p l e ({ frames := 11, cells := 5967, slots := 35802, locals := 212 } : Room) s m [.ref h0, .int a1].toArray below meth c H locs cells slots (MQ below (zWi g (zXW g h0 u v') r A) [.ref h0, .int a1].toArray s 5967 35802 A) (F0 m 424 ls []) := by
    intro v1 v2 v3 v4 v5 v6 v7 v9 v10 v11 v12 v cells slots h hc hs H locs hP hD hS ls hl
    unfold fL_holds_424 at h
    refine lv_iload hx hb dL_holds_424 (lv_at hl 9 rfl) ?_
    refine lv_if_eq (tgt := 534) hx hb dL_holds_426 (by decide) (fun c38 => ?_) (fun c38 => ?_)
    · replace h := zt c38 h
      exact loop_534 v1 v _ _ h (by omega) (by omega) H locs hP hD hS ls (lv_sub hl [0, 1] rfl)
    · replace h := zf c38 h
      refine lv_iload hx hb dL_holds_429 (lv_at hl 8 rfl) ?_
      refine lv_iload_n hx hb dL_holds_431 rfl (lv_at hl 2 rfl) ?_
      refine lv_icmp_ne (tgt := 534) hx hb dL_holds_432 (by decide) (fun c39 => ?_) (fun c39 => ?_)
      · replace h := zf c39 h
        exact loop_534 v1 v _ _ h (by omega) (by omega) H locs hP hD hS ls (lv_sub hl [0, 1] rfl)
      · replace h := zt c39 h
        refine lv_aload_n hx hb dL_holds_435 rfl (lv_at hl 0 rfl) ?_
        refine lv_iconst (v := 2) hx hb dL_holds_436 (by decide) ?_
        refine lv_iconst (v := 0) hx hb dL_holds_437 (by decide) ?_
        refine lv_iconst (v := 0) hx hb dL_holds_438 (by decide) ?_
        refine lv_iconst (v := 0) hx hb dL_holds_439 (by decide) ?_
        obtain ⟨r40, w40, e40, h⟩ := zb2 h
        refine zLSc (w := (zXW g h0 u v)) (wr := []) (wc := (zXW g h0 u v)) (wq := (zXW g h0 u w40)) (wp := (zXW g h0 u w40)) (As := [.ref h0, .int 2, .int 0, .int 0, .int 0]) (rest := []) (zWi_q g _ _) ⟨hx, hb, hml, hown, hts⟩ (kL_call l g h0 u v 2 0 0 0 htr e40) (va_cwS 5 hts gL_holds_L_call rfl rfl rfl hdS_L_call ⟨Nat.le_of_ble_eq_true rfl, Nat.le_of_ble_eq_true rfl⟩) hK hP hD hS hA hAm hN (zXW_fst g h0 u _ _) (List.Perm.refl _) (List.Perm.refl _) rfl hl.1 rfl (Nat.le_of_ble_eq_true rfl) ⟨by show _ ≤ 5967; omega, by show _ ≤ 35802; omega⟩ dL_holds_440 (fun H locs hP hD hS => ?_)
        replace hP : zP g (zXW g h0 u w40) H := hP
        replace hD : va_D A (zXW g h0 u w40) := hD
        refine lv_iload_n hx hb dL_holds_443 rfl (lv_at hl 3 rfl) ?_
        refine lv_icmp_ne (tgt := 534) hx hb dL_holds_444 (by decide) (fun c41 => ?_) (fun c41 => ?_)
        · replace h := zf c41 h
          exact loop_534 v1 w40 _ _ h (by omega) (by omega) H locs hP hD hS ls (lv_sub hl [0, 1] rfl)
        · replace h := zt c41 h
          refine lv_aload_n hx hb dL_holds_447 rfl (lv_at hl 0 rfl) ?_
          refine lv_iconst (v := 2) hx hb dL_holds_448 (by decide) ?_
          refine lv_iconst (v := 1) hx hb dL_holds_449 (by decide) ?_
          refine lv_iconst (v := 0) hx hb dL_holds_450 (by decide) ?_
          refine lv_iconst (v := 0) hx hb dL_holds_451 (by decide) ?_
          obtain ⟨r42, w42, e42, h⟩ := zb2 h
          refine zLSc (w := (zXW g h0 u w40)) (wr := []) (wc := (zXW g h0 u w40)) (wq := (zXW g h0 u w42)) (wp := (zXW g h0 u w42)) (As := [.ref h0, .int 2, .int 1, .int 0, .int 0]) (rest := []) (zWi_q g _ _) ⟨hx, hb, hml, hown, hts⟩ (kL_call l g h0 u w40 2 1 0 0 htr e42) (va_cwS 5 hts gL_holds_L_call rfl rfl rfl hdS_L_call ⟨Nat.le_of_ble_eq_true rfl, Nat.le_of_ble_eq_true rfl⟩) hK hP hD hS hA hAm hN (zXW_fst g h0 u _ _) (List.Perm.refl _) (List.Perm.refl _) rfl hl.1 rfl (Nat.le_of_ble_eq_true rfl) ⟨by show _ ≤ 5967; omega, by show _ ≤ 35802; omega⟩ dL_holds_452 (fun H locs hP hD hS => ?_)
          replace hP : zP g (zXW g h0 u w42) H := hP
          replace hD : va_D A (zXW g h0 u w42) := hD
          refine lv_iload hx hb dL_holds_455 (lv_at hl 4 rfl) ?_
          refine lv_icmp_ne (tgt := 534) hx hb dL_holds_457 (by decide) (fun c43 => ?_) (fun c43 => ?_)
          · replace h := zf c43 h
            exact loop_534 v1 w42 _ _ h (by omega) (by omega) H locs hP hD hS ls (lv_sub hl [0, 1] rfl)
          · replace h := zt c43 h
            refine lv_aload_n hx hb dL_holds_460 rfl (lv_at hl 0 rfl) ?_
            refine lv_iconst (v := 2) hx hb dL_holds_461 (by decide) ?_
            refine lv_iconst (v := 3) hx hb dL_holds_462 (by decide) ?_
            refine lv_iconst (v := 0) hx hb dL_holds_463 (by decide) ?_
            refine lv_iconst (v := 0) hx hb dL_holds_464 (by decide) ?_
            obtain ⟨r44, w44, e44, h⟩ := zb2 h
            refine zLSc (w := (zXW g h0 u w42)) (wr := []) (wc := (zXW g h0 u w42)) (wq := (zXW g h0 u w44)) (wp := (zXW g h0 u w44)) (As := [.ref h0, .int 2, .int 3, .int 0, .int 0]) (rest := []) (zWi_q g _ _) ⟨hx, hb, hml, hown, hts⟩ (kL_call l g h0 u w42 2 3 0 0 htr e44) (va_cwS 5 hts gL_holds_L_call rfl rfl rfl hdS_L_call ⟨Nat.le_of_ble_eq_true rfl, Nat.le_of_ble_eq_true rfl⟩) hK hP hD hS hA hAm hN (zXW_fst g h0 u _ _) (List.Perm.refl _) (List.Perm.refl _) rfl hl.1 rfl (Nat.le_of_ble_eq_true rfl) ⟨by show _ ≤ 5967; omega, by show _ ≤ 35802; omega⟩ dL_holds_465 (fun H locs hP hD hS => ?_)
            replace hP : zP g (zXW g h0 u w44) H := hP
            replace hD : va_D A (zXW g h0 u w44) := hD
            refine lv_iload hx hb dL_holds_468 (lv_at hl 5 rfl) ?_
            refine lv_icmp_ne (tgt := 534) hx hb dL_holds_470 (by decide) (fun c45 => ?_) (fun c45 => ?_)
            · replace h := zf c45 h
              exact loop_534 v1 w44 _ _ h (by omega) (by omega) H locs hP hD hS ls (lv_sub hl [0, 1] rfl)
            · replace h := zt c45 h
              refine lv_iload hx hb dL_holds_473 (lv_at hl 10 rfl) ?_
              refine lv_iload hx hb dL_holds_475 (lv_at hl 5 rfl) ?_
              refine lv_icmp_ne (tgt := 534) hx hb dL_holds_477 (by decide) (fun c46 => ?_) (fun c46 => ?_)
              · replace h := zf c46 h
                exact loop_534 v1 w44 _ _ h (by omega) (by omega) H locs hP hD hS ls (lv_sub hl [0, 1] rfl)
              · replace h := zt c46 h
                refine lv_aload_n hx hb dL_holds_480 rfl (lv_at hl 0 rfl) ?_
                refine lv_iconst (v := 2) hx hb dL_holds_481 (by decide) ?_
                refine lv_bipush (v := 9) hx hb dL_holds_482 (by decide) ?_
                refine lv_iconst (v := 0) hx hb dL_holds_484 (by decide) ?_
                refine lv_iconst (v := 0) hx hb dL_holds_485 (by decide) ?_
                obtain ⟨r47, w47, e47, h⟩ := zb2 h
                refine zLSc (w := (zXW g h0 u w44)) (wr := []) (wc := (zXW g h0 u w44)) (wq := (zXW g h0 u w47)) (wp := (zXW g h0 u w47)) (As := [.ref h0, .int 2, .int 9, .int 0, .int 0]) (rest := []) (zWi_q g _ _) ⟨hx, hb, hml, hown, hts⟩ (kL_call l g h0 u w44 2 9 0 0 htr e47) (va_cwS 5 hts gL_holds_L_call rfl rfl rfl hdS_L_call ⟨Nat.le_of_ble_eq_true rfl, Nat.le_of_ble_eq_true rfl⟩) hK hP hD hS hA hAm hN (zXW_fst g h0 u _ _) (List.Perm.refl _) (List.Perm.refl _) rfl hl.1 rfl (Nat.le_of_ble_eq_true rfl) ⟨by show _ ≤ 5967; omega, by show _ ≤ 35802; omega⟩ dL_holds_486 (fun H locs hP hD hS => ?_)
                replace hP : zP g (zXW g h0 u w47) H := hP
                replace hD : va_D A (zXW g h0 u w47) := hD
                refine lv_iload hx hb dL_holds_489 (lv_at hl 7 rfl) ?_
                refine lv_icmp_ne (tgt := 534) hx hb dL_holds_491 (by decide) (fun c48 => ?_) (fun c48 => ?_)
                · replace h := zf c48 h
                  exact loop_534 v1 w47 _ _ h (by omega) (by omega) H locs hP hD hS ls (lv_sub hl [0, 1] rfl)
                · replace h := zt c48 h
                  refine lv_aload_n hx hb dL_holds_494 rfl (lv_at hl 0 rfl) ?_
                  refine lv_iconst (v := 2) hx hb dL_holds_495 (by decide) ?_
                  refine lv_bipush (v := 10) hx hb dL_holds_496 (by decide) ?_
                  refine lv_iconst (v := 0) hx hb dL_holds_498 (by decide) ?_
                  refine lv_iconst (v := 0) hx hb dL_holds_499 (by decide) ?_
                  obtain ⟨r49, w49, e49, h⟩ := zb2 h
                  refine zLSc (w := (zXW g h0 u w47)) (wr := []) (wc := (zXW g h0 u w47)) (wq := (zXW g h0 u w49)) (wp := (zXW g h0 u w49)) (As := [.ref h0, .int 2, .int 10, .int 0, .int 0]) (rest := []) (zWi_q g _ _) ⟨hx, hb, hml, hown, hts⟩ (kL_call l g h0 u w47 2 10 0 0 htr e49) (va_cwS 5 hts gL_holds_L_call rfl rfl rfl hdS_L_call ⟨Nat.le_of_ble_eq_true rfl, Nat.le_of_ble_eq_true rfl⟩) hK hP hD hS hA hAm hN (zXW_fst g h0 u _ _) (List.Perm.refl _) (List.Perm.refl _) rfl hl.1 rfl (Nat.le_of_ble_eq_true rfl) ⟨by show _ ≤ 5967; omega, by show _ ≤ 35802; omega⟩ dL_holds_500 (fun H locs hP hD hS => ?_)
                  replace hP : zP g (zXW g h0 u w49) H := hP
                  replace hD : va_D A (zXW g h0 u w49) := hD
                  refine lv_iload hx hb dL_holds_503 (lv_at hl 6 rfl) ?_
                  refine lv_icmp_ne (tgt := 534) hx hb dL_holds_505 (by decide) (fun c50 => ?_) (fun c50 => ?_)
                  · replace h := zf c50 h
                    exact loop_534 v1 w49 _ _ h (by omega) (by omega) H locs hP hD hS ls (lv_sub hl [0, 1] rfl)
                  · replace h := zt c50 h
                    refine lv_aload_n hx hb dL_holds_508 rfl (lv_at hl 0 rfl) ?_
                    obtain ⟨r51, e51, h⟩ := zb h
                    refine zLVq (w := (zXW g h0 u w49)) (wr := []) (wc := (zXW g h0 u w49)) (As := []) (rest := []) (zQi_q _) ⟨hx, hb, hml, hown, hts⟩ (kO_stuck l g h0 u w49 e51) (cwV 0 hts gL_holds_X3_stuck rfl rfl rfl hdV_X3_stuck ⟨Nat.le_of_ble_eq_true rfl, Nat.le_of_ble_eq_true rfl⟩) hK hP (List.Perm.refl _) rfl rfl rfl hl.1 rfl (Nat.le_of_ble_eq_true rfl) ⟨by show _ ≤ 5967; omega, by show _ ≤ 35802; omega⟩ dL_holds_509 ?_
                    refine lv_iload hx hb dL_holds_512 (lv_at hl 5 rfl) ?_
                    refine lv_iload hx hb dL_holds_514 (lv_at hl 11 rfl) ?_
                    refine lv_aload_n hx hb dL_holds_516 rfl (lv_at hl 0 rfl) ?_
                    refine lv_bipush (v := 6) hx hb dL_holds_517 (by decide) ?_
                    refine lv_iconst (v := 0) hx hb dL_holds_519 (by decide) ?_
                    refine lv_iconst (v := 0) hx hb dL_holds_520 (by decide) ?_
                    refine lv_iconst (v := 0) hx hb dL_holds_521 (by decide) ?_
                    obtain ⟨r52, w52, e52, h⟩ := zb2 h
                    refine zLSc (w := (zXW g h0 u w49)) (wr := []) (wc := (zXW g h0 u w49)) (wq := (zXW g h0 u w52)) (wp := (zXW g h0 u w52)) (As := [.ref h0, .int 6, .int 0, .int 0, .int 0]) (rest := [.int v12, .int v5, .int r51]) (zWi_q g _ _) ⟨hx, hb, hml, hown, hts⟩ (kL_call l g h0 u w49 6 0 0 0 htr e52) (va_cwS 5 hts gL_holds_L_call rfl rfl rfl hdS_L_call ⟨Nat.le_of_ble_eq_true rfl, Nat.le_of_ble_eq_true rfl⟩) hK hP hD hS hA hAm hN (zXW_fst g h0 u _ _) (List.Perm.refl _) (List.Perm.refl _) rfl hl.1 rfl (Nat.le_of_ble_eq_true rfl) ⟨by show _ ≤ 5967; omega, by show _ ≤ 35802; omega⟩ dL_holds_522 (fun H locs hP hD hS => ?_)
                    replace hP : zP g (zXW g h0 u w52) H := hP
                    replace hD : va_D A (zXW g h0 u w52) := hD
                    refine lv_ishl hx hb dL_holds_525 ?_
                    refine lv_isub hx hb dL_holds_526 ?_
                    refine lv_icmp_ne (tgt := 534) hx hb dL_holds_527 (by decide) (fun c53 => ?_) (fun c53 => ?_)
                    · replace h := zf c53 h
                      exact loop_534 v1 w52 _ _ h (by omega) (by omega) H locs hP hD hS ls (lv_sub hl [0, 1] rfl)
                    · replace h := zt c53 h
                      refine lv_iconst (v := 1) hx hb dL_holds_530 (by decide) ?_
                      refine lv_goto (tgt := 535) hx hb dL_holds_531 (by decide) ?_
                      exact loop_535 v1 1 w52 _ _ h (by omega) (by omega) H locs hP hD hS ls (lv_sub hl [0, 1] rfl)
  have loop_408 : ∀ (kt : Int32 → Int32 → Int32 → Int32 → Int32 → Int32 → Int32 → Int32 → Int32 → Int32 → Int32 → Int32 → zXS → Option (Int32 × zXS)) (B : Nat), (∀ (v1 : Int32) (v2 : Int32) (v3 : Int32) (v4 : Int32) (v5 : Int32) (v6 : Int32) (v7 : Int32) (v9 : Int32) (v10 : Int32) (v11 : Int32) (v12 : Int32) (v13 : Int32) (v : zXS) (cells slots : Nat), kt v1 v2 v3 v4 v5 v6 v7 v9 v10 v11 v12 v13 v = some (r, v') → cells + B ≤ 5967 → slots + 6 * B ≤ 35802 → ∀ (H : Heap) (locs : List Loc), zP g (zXW g h0 u v) H → va_D A (zXW g h0 u v) → va_S A s.heap H locs → ∀ (ls : Array Slot), lv_has ls 18 [(0, .ref h0), (1, .int v1), (2, .int v2), (3, .int v3), (4, .int v4), (5, .int v5), (6, .int v6), (7, .int v7), (9, .int v9), (10, .int v10), (11, .int v11), (12, .int v12), (13, .int v13)] → W p l e ({ frames := 11, cells := 5967, slots := 35802, locals := 212 } : Room) s m [.ref h0, .int a1].toArray below meth c H locs cells slots (MQ below (zWi g (zXW g h0 u v') r A) [.ref h0, .int a1].toArray s 5967 35802 A) (F0 m 284 ls [])) → ∀ (v1 : Int32) (v2 : Int32) (v3 : Int32) (v4 : Int32) (v5 : Int32) (v6 : Int32) (v7 : Int32) (v9 : Int32) (v11 : Int32) (v12 : Int32) (v13 : Int32) (s0 : Int32) (s1 : Int32) (v : zXS) (cells slots : Nat), fL_holds_408 kt v1 v2 v3 v4 v5 v6 v7 v9 v11 v12 v13 s0 s1 v = some (r, v') → cells + (0 + B) ≤ 5967 → slots + 6 * (0 + B) ≤ 35802 → ∀ (H : Heap) (locs : List Loc), zP g (zXW g h0 u v) H → va_D A (zXW g h0 u v) → va_S A s.heap H locs → ∀ (ls : Array Slot), lv_has ls 18 [(0, .ref h0), (1, .int v1), (2, .int v2), (3, .int v3), (4, .int v4), (5, .int v5), (6, .int v6), (7, .int v7), (9, .int v9), (11, .int v11), (12, .int v12), (13, .int v13)] → W p l e ({ frames := 11, cells := 5967, slots := 35802, locals := 212 } : Room) s m [.ref h0, .int a1].toArray below meth c H locs cells slots (MQ below (zWi g (zXW g h0 u v') r A) [.ref h0, .int a1].toArray s 5967 35802 A) (F0 m 408 ls [.int s1, .int s0]) := by
    intro kt B ih v1 v2 v3 v4 v5 v6 v7 v9 v11 v12 v13 s0 s1 v cells slots h hc hs H locs hP hD hS ls hl
    unfold fL_holds_408 at h
    refine lv_icmp_ne (tgt := 415) hx hb dL_holds_408 (by decide) (fun c54 => ?_) (fun c54 => ?_)
    · replace h := zf c54 h
      refine lv_iconst (v := 0) hx hb dL_holds_415 (by decide) ?_
      refine lv_istore (lv' := [(10, .int 0), (0, .ref h0), (1, .int v1), (2, .int v2), (3, .int v3), (4, .int v4), (5, .int v5), (6, .int v6), (7, .int v7), (9, .int v9), (11, .int v11), (12, .int v12), (13, .int v13)]) hx hb dL_holds_416 hl (by decide) rfl (fun ls hl => ?_)
      refine lv_iinc (v := (v13 + 1)) (lv' := [(13, .int (v13 + 1)), (10, .int 0), (0, .ref h0), (1, .int v1), (2, .int v2), (3, .int v3), (4, .int v4), (5, .int v5), (6, .int v6), (7, .int v7), (9, .int v9), (11, .int v11), (12, .int v12)]) hx hb dL_holds_418 hl (k := 12) rfl rfl (by decide) rfl (fun ls hl => ?_)
      refine lv_goto (tgt := 284) hx hb dL_holds_421 (by decide) ?_
      exact ih v1 v2 v3 v4 v5 v6 v7 v9 0 v11 v12 (v13 + 1) v _ _ h (by omega) (by omega) H locs hP hD hS ls (lv_sub hl [2, 3, 4, 5, 6, 7, 8, 9, 10, 1, 11, 12, 0] rfl)
    · replace h := zt c54 h
      refine lv_iconst (v := 1) hx hb dL_holds_411 (by decide) ?_
      refine lv_goto (tgt := 416) hx hb dL_holds_412 (by decide) ?_
      refine lv_istore (lv' := [(10, .int 1), (0, .ref h0), (1, .int v1), (2, .int v2), (3, .int v3), (4, .int v4), (5, .int v5), (6, .int v6), (7, .int v7), (9, .int v9), (11, .int v11), (12, .int v12), (13, .int v13)]) hx hb dL_holds_416 hl (by decide) rfl (fun ls hl => ?_)
      refine lv_iinc (v := (v13 + 1)) (lv' := [(13, .int (v13 + 1)), (10, .int 1), (0, .ref h0), (1, .int v1), (2, .int v2), (3, .int v3), (4, .int v4), (5, .int v5), (6, .int v6), (7, .int v7), (9, .int v9), (11, .int v11), (12, .int v12)]) hx hb dL_holds_418 hl (k := 12) rfl rfl (by decide) rfl (fun ls hl => ?_)
      refine lv_goto (tgt := 284) hx hb dL_holds_421 (by decide) ?_
      exact ih v1 v2 v3 v4 v5 v6 v7 v9 1 v11 v12 (v13 + 1) v _ _ h (by omega) (by omega) H locs hP hD hS ls (lv_sub hl [2, 3, 4, 5, 6, 7, 8, 9, 10, 1, 11, 12, 0] rfl)
  have loop_284 : ∀ (n : Nat) (v1 : Int32) (v2 : Int32) (v3 : Int32) (v4 : Int32) (v5 : Int32) (v6 : Int32) (v7 : Int32) (v9 : Int32) (v10 : Int32) (v11 : Int32) (v12 : Int32) (v13 : Int32) (v : zXS) (cells slots : Nat), fL_holds_284 n v1 v2 v3 v4 v5 v6 v7 v9 v10 v11 v12 v13 v = some (r, v') → cells + (n * 30 + 57) ≤ 5967 → slots + 6 * (n * 30 + 57) ≤ 35802 → ∀ (H : Heap) (locs : List Loc), zP g (zXW g h0 u v) H → va_D A (zXW g h0 u v) → va_S A s.heap H locs → ∀ (ls : Array Slot), lv_has ls 18 [(0, .ref h0), (1, .int v1), (2, .int v2), (3, .int v3), (4, .int v4), (5, .int v5), (6, .int v6), (7, .int v7), (9, .int v9), (10, .int v10), (11, .int v11), (12, .int v12), (13, .int v13)] → W p l e ({ frames := 11, cells := 5967, slots := 35802, locals := 212 } : Room) s m [.ref h0, .int a1].toArray below meth c H locs cells slots (MQ below (zWi g (zXW g h0 u v') r A) [.ref h0, .int a1].toArray s 5967 35802 A) (F0 m 284 ls []) := by
    intro n
    induction n with
    | zero => intro v1 v2 v3 v4 v5 v6 v7 v9 v10 v11 v12 v13 v cells slots h; exact zn h
    | succ n ih =>
      intro v1 v2 v3 v4 v5 v6 v7 v9 v10 v11 v12 v13 v cells slots h hc hs H locs hP hD hS ls hl
      rw [fL_holds_284] at h
      refine lv_iload hx hb dL_holds_284 (lv_at hl 12 rfl) ?_
      refine lv_iload_n hx hb dL_holds_286 rfl (lv_at hl 2 rfl) ?_
      refine lv_icmp_ge (tgt := 424) hx hb dL_holds_287 (by decide) (fun c55 => ?_) (fun c55 => ?_)
      · replace h := zt c55 h
        exact loop_424 v1 v2 v3 v4 v5 v6 v7 v9 v10 v11 v12 v _ _ h (by omega) (by omega) H locs hP hD hS ls (lv_sub hl [0, 1, 2, 3, 4, 5, 6, 7, 8, 9, 10, 11] rfl)
      · replace h := zf c55 h
        refine lv_iload hx hb dL_holds_290 (lv_at hl 9 rfl) ?_
        refine lv_if_eq (tgt := 424) hx hb dL_holds_292 (by decide) (fun c56 => ?_) (fun c56 => ?_)
        · replace h := zt c56 h
          exact loop_424 v1 v2 v3 v4 v5 v6 v7 v9 v10 v11 v12 v _ _ h (by omega) (by omega) H locs hP hD hS ls (lv_sub hl [0, 1, 2, 3, 4, 5, 6, 7, 8, 9, 10, 11] rfl)
        · replace h := zf c56 h
          refine lv_iload hx hb dL_holds_295 (lv_at hl 10 rfl) ?_
          refine lv_aload_n hx hb dL_holds_297 rfl (lv_at hl 0 rfl) ?_
          refine lv_iconst (v := 4) hx hb dL_holds_298 (by decide) ?_
          refine lv_iload hx hb dL_holds_299 (lv_at hl 12 rfl) ?_
          refine lv_iconst (v := 1) hx hb dL_holds_301 (by decide) ?_
          refine lv_iconst (v := 0) hx hb dL_holds_302 (by decide) ?_
          obtain ⟨r57, w57, e57, h⟩ := zb2 h
          refine zLSc (w := (zXW g h0 u v)) (wr := []) (wc := (zXW g h0 u v)) (wq := (zXW g h0 u w57)) (wp := (zXW g h0 u w57)) (As := [.ref h0, .int 4, .int v13, .int 1, .int 0]) (rest := [.int v11]) (zWi_q g _ _) ⟨hx, hb, hml, hown, hts⟩ (kL_call l g h0 u v 4 v13 1 0 htr e57) (va_cwS 5 hts gL_holds_L_call rfl rfl rfl hdS_L_call ⟨Nat.le_of_ble_eq_true rfl, Nat.le_of_ble_eq_true rfl⟩) hK hP hD hS hA hAm hN (zXW_fst g h0 u _ _) (List.Perm.refl _) (List.Perm.refl _) rfl hl.1 rfl (Nat.le_of_ble_eq_true rfl) ⟨by show _ ≤ 5967; omega, by show _ ≤ 35802; omega⟩ dL_holds_303 (fun H locs hP hD hS => ?_)
          replace hP : zP g (zXW g h0 u w57) H := hP
          replace hD : va_D A (zXW g h0 u w57) := hD
          refine lv_iadd hx hb dL_holds_306 ?_
          refine lv_istore (lv' := [(11, .int (v11 + r57)), (0, .ref h0), (1, .int v1), (2, .int v2), (3, .int v3), (4, .int v4), (5, .int v5), (6, .int v6), (7, .int v7), (9, .int v9), (10, .int v10), (12, .int v12), (13, .int v13)]) hx hb dL_holds_307 hl (by decide) rfl (fun ls hl => ?_)
          refine lv_iload hx hb dL_holds_309 (lv_at hl 11 rfl) ?_
          refine lv_aload_n hx hb dL_holds_311 rfl (lv_at hl 1 rfl) ?_
          refine lv_iconst (v := 4) hx hb dL_holds_312 (by decide) ?_
          refine lv_iload hx hb dL_holds_313 (lv_at hl 12 rfl) ?_
          refine lv_iconst (v := 4) hx hb dL_holds_315 (by decide) ?_
          refine lv_iconst (v := 0) hx hb dL_holds_316 (by decide) ?_
          obtain ⟨r58, w58, e58, h⟩ := zb2 h
          refine zLSc (w := (zXW g h0 u w57)) (wr := []) (wc := (zXW g h0 u w57)) (wq := (zXW g h0 u w58)) (wp := (zXW g h0 u w58)) (As := [.ref h0, .int 4, .int v13, .int 4, .int 0]) (rest := [.int v12]) (zWi_q g _ _) ⟨hx, hb, hml, hown, hts⟩ (kL_call l g h0 u w57 4 v13 4 0 htr e58) (va_cwS 5 hts gL_holds_L_call rfl rfl rfl hdS_L_call ⟨Nat.le_of_ble_eq_true rfl, Nat.le_of_ble_eq_true rfl⟩) hK hP hD hS hA hAm hN (zXW_fst g h0 u _ _) (List.Perm.refl _) (List.Perm.refl _) rfl hl.1 rfl (Nat.le_of_ble_eq_true rfl) ⟨by show _ ≤ 5967; omega, by show _ ≤ 35802; omega⟩ dL_holds_317 (fun H locs hP hD hS => ?_)
          replace hP : zP g (zXW g h0 u w58) H := hP
          replace hD : va_D A (zXW g h0 u w58) := hD
          refine lv_iadd hx hb dL_holds_320 ?_
          refine lv_istore (lv' := [(12, .int (v12 + r58)), (11, .int (v11 + r57)), (0, .ref h0), (1, .int v1), (2, .int v2), (3, .int v3), (4, .int v4), (5, .int v5), (6, .int v6), (7, .int v7), (9, .int v9), (10, .int v10), (13, .int v13)]) hx hb dL_holds_321 hl (by decide) rfl (fun ls hl => ?_)
          refine lv_aload_n hx hb dL_holds_323 rfl (lv_at hl 2 rfl) ?_
          refine lv_iconst (v := 4) hx hb dL_holds_324 (by decide) ?_
          refine lv_iload hx hb dL_holds_325 (lv_at hl 12 rfl) ?_
          refine lv_iconst (v := 2) hx hb dL_holds_327 (by decide) ?_
          refine lv_iconst (v := 0) hx hb dL_holds_328 (by decide) ?_
          obtain ⟨r59, w59, e59, h⟩ := zb2 h
          refine zLSc (w := (zXW g h0 u w58)) (wr := []) (wc := (zXW g h0 u w58)) (wq := (zXW g h0 u w59)) (wp := (zXW g h0 u w59)) (As := [.ref h0, .int 4, .int v13, .int 2, .int 0]) (rest := []) (zWi_q g _ _) ⟨hx, hb, hml, hown, hts⟩ (kL_call l g h0 u w58 4 v13 2 0 htr e59) (va_cwS 5 hts gL_holds_L_call rfl rfl rfl hdS_L_call ⟨Nat.le_of_ble_eq_true rfl, Nat.le_of_ble_eq_true rfl⟩) hK hP hD hS hA hAm hN (zXW_fst g h0 u _ _) (List.Perm.refl _) (List.Perm.refl _) rfl hl.1 rfl (Nat.le_of_ble_eq_true rfl) ⟨by show _ ≤ 5967; omega, by show _ ≤ 35802; omega⟩ dL_holds_329 (fun H locs hP hD hS => ?_)
          replace hP : zP g (zXW g h0 u w59) H := hP
          replace hD : va_D A (zXW g h0 u w59) := hD
          refine lv_aload_n hx hb dL_holds_332 rfl (lv_at hl 2 rfl) ?_
          refine lv_iconst (v := 2) hx hb dL_holds_333 (by decide) ?_
          refine lv_iconst (v := 4) hx hb dL_holds_334 (by decide) ?_
          refine lv_iconst (v := 0) hx hb dL_holds_335 (by decide) ?_
          refine lv_iconst (v := 0) hx hb dL_holds_336 (by decide) ?_
          obtain ⟨r60, w60, e60, h⟩ := zb2 h
          refine zLSc (w := (zXW g h0 u w59)) (wr := []) (wc := (zXW g h0 u w59)) (wq := (zXW g h0 u w60)) (wp := (zXW g h0 u w60)) (As := [.ref h0, .int 2, .int 4, .int 0, .int 0]) (rest := [.int r59]) (zWi_q g _ _) ⟨hx, hb, hml, hown, hts⟩ (kL_call l g h0 u w59 2 4 0 0 htr e60) (va_cwS 5 hts gL_holds_L_call rfl rfl rfl hdS_L_call ⟨Nat.le_of_ble_eq_true rfl, Nat.le_of_ble_eq_true rfl⟩) hK hP hD hS hA hAm hN (zXW_fst g h0 u _ _) (List.Perm.refl _) (List.Perm.refl _) rfl hl.1 rfl (Nat.le_of_ble_eq_true rfl) ⟨by show _ ≤ 5967; omega, by show _ ≤ 35802; omega⟩ dL_holds_337 (fun H locs hP hD hS => ?_)
          replace hP : zP g (zXW g h0 u w60) H := hP
          replace hD : va_D A (zXW g h0 u w60) := hD
          refine lv_icmp_gt (tgt := 415) hx hb dL_holds_340 (by decide) (fun c61 => ?_) (fun c61 => ?_)
          · replace h := zt c61 h
            refine lv_iconst (v := 0) hx hb dL_holds_415 (by decide) ?_
            refine lv_istore (lv' := [(10, .int 0), (12, .int (v12 + r58)), (11, .int (v11 + r57)), (0, .ref h0), (1, .int v1), (2, .int v2), (3, .int v3), (4, .int v4), (5, .int v5), (6, .int v6), (7, .int v7), (9, .int v9), (13, .int v13)]) hx hb dL_holds_416 hl (by decide) rfl (fun ls hl => ?_)
            refine lv_iinc (v := (v13 + 1)) (lv' := [(13, .int (v13 + 1)), (10, .int 0), (12, .int (v12 + r58)), (11, .int (v11 + r57)), (0, .ref h0), (1, .int v1), (2, .int v2), (3, .int v3), (4, .int v4), (5, .int v5), (6, .int v6), (7, .int v7), (9, .int v9)]) hx hb dL_holds_418 hl (k := 12) rfl rfl (by decide) rfl (fun ls hl => ?_)
            refine lv_goto (tgt := 284) hx hb dL_holds_421 (by decide) ?_
            exact ih v1 v2 v3 v4 v5 v6 v7 v9 0 (v11 + r57) (v12 + r58) (v13 + 1) w60 _ _ h (by omega) (by omega) H locs hP hD hS ls (lv_sub hl [4, 5, 6, 7, 8, 9, 10, 11, 12, 1, 3, 2, 0] rfl)
          · replace h := zf c61 h
            refine lv_aload_n hx hb dL_holds_343 rfl (lv_at hl 2 rfl) ?_
            refine lv_iconst (v := 4) hx hb dL_holds_344 (by decide) ?_
            refine lv_iload hx hb dL_holds_345 (lv_at hl 12 rfl) ?_
            refine lv_iconst (v := 3) hx hb dL_holds_347 (by decide) ?_
            refine lv_iconst (v := 0) hx hb dL_holds_348 (by decide) ?_
            obtain ⟨r62, w62, e62, h⟩ := zb2 h
            refine zLSc (w := (zXW g h0 u w60)) (wr := []) (wc := (zXW g h0 u w60)) (wq := (zXW g h0 u w62)) (wp := (zXW g h0 u w62)) (As := [.ref h0, .int 4, .int v13, .int 3, .int 0]) (rest := []) (zWi_q g _ _) ⟨hx, hb, hml, hown, hts⟩ (kL_call l g h0 u w60 4 v13 3 0 htr e62) (va_cwS 5 hts gL_holds_L_call rfl rfl rfl hdS_L_call ⟨Nat.le_of_ble_eq_true rfl, Nat.le_of_ble_eq_true rfl⟩) hK hP hD hS hA hAm hN (zXW_fst g h0 u _ _) (List.Perm.refl _) (List.Perm.refl _) rfl hl.1 rfl (Nat.le_of_ble_eq_true rfl) ⟨by show _ ≤ 5967; omega, by show _ ≤ 35802; omega⟩ dL_holds_349 (fun H locs hP hD hS => ?_)
            replace hP : zP g (zXW g h0 u w62) H := hP
            replace hD : va_D A (zXW g h0 u w62) := hD
            refine lv_aload_n hx hb dL_holds_352 rfl (lv_at hl 2 rfl) ?_
            refine lv_iconst (v := 4) hx hb dL_holds_353 (by decide) ?_
            refine lv_iload hx hb dL_holds_354 (lv_at hl 12 rfl) ?_
            refine lv_iconst (v := 4) hx hb dL_holds_356 (by decide) ?_
            refine lv_iconst (v := 0) hx hb dL_holds_357 (by decide) ?_
            obtain ⟨r63, w63, e63, h⟩ := zb2 h
            refine zLSc (w := (zXW g h0 u w62)) (wr := []) (wc := (zXW g h0 u w62)) (wq := (zXW g h0 u w63)) (wp := (zXW g h0 u w63)) (As := [.ref h0, .int 4, .int v13, .int 4, .int 0]) (rest := [.int r62]) (zWi_q g _ _) ⟨hx, hb, hml, hown, hts⟩ (kL_call l g h0 u w62 4 v13 4 0 htr e63) (va_cwS 5 hts gL_holds_L_call rfl rfl rfl hdS_L_call ⟨Nat.le_of_ble_eq_true rfl, Nat.le_of_ble_eq_true rfl⟩) hK hP hD hS hA hAm hN (zXW_fst g h0 u _ _) (List.Perm.refl _) (List.Perm.refl _) rfl hl.1 rfl (Nat.le_of_ble_eq_true rfl) ⟨by show _ ≤ 5967; omega, by show _ ≤ 35802; omega⟩ dL_holds_358 (fun H locs hP hD hS => ?_)
            replace hP : zP g (zXW g h0 u w63) H := hP
            replace hD : va_D A (zXW g h0 u w63) := hD
            refine lv_icmp_gt (tgt := 415) hx hb dL_holds_361 (by decide) (fun c64 => ?_) (fun c64 => ?_)
            · replace h := zt c64 h
              refine lv_iconst (v := 0) hx hb dL_holds_415 (by decide) ?_
              refine lv_istore (lv' := [(10, .int 0), (12, .int (v12 + r58)), (11, .int (v11 + r57)), (0, .ref h0), (1, .int v1), (2, .int v2), (3, .int v3), (4, .int v4), (5, .int v5), (6, .int v6), (7, .int v7), (9, .int v9), (13, .int v13)]) hx hb dL_holds_416 hl (by decide) rfl (fun ls hl => ?_)
              refine lv_iinc (v := (v13 + 1)) (lv' := [(13, .int (v13 + 1)), (10, .int 0), (12, .int (v12 + r58)), (11, .int (v11 + r57)), (0, .ref h0), (1, .int v1), (2, .int v2), (3, .int v3), (4, .int v4), (5, .int v5), (6, .int v6), (7, .int v7), (9, .int v9)]) hx hb dL_holds_418 hl (k := 12) rfl rfl (by decide) rfl (fun ls hl => ?_)
              refine lv_goto (tgt := 284) hx hb dL_holds_421 (by decide) ?_
              exact ih v1 v2 v3 v4 v5 v6 v7 v9 0 (v11 + r57) (v12 + r58) (v13 + 1) w63 _ _ h (by omega) (by omega) H locs hP hD hS ls (lv_sub hl [4, 5, 6, 7, 8, 9, 10, 11, 12, 1, 3, 2, 0] rfl)
            · replace h := zf c64 h
              refine lv_aload_n hx hb dL_holds_364 rfl (lv_at hl 2 rfl) ?_
              refine lv_iconst (v := 4) hx hb dL_holds_365 (by decide) ?_
              refine lv_iload hx hb dL_holds_366 (lv_at hl 12 rfl) ?_
              refine lv_iconst (v := 5) hx hb dL_holds_368 (by decide) ?_
              refine lv_iconst (v := 0) hx hb dL_holds_369 (by decide) ?_
              obtain ⟨r65, w65, e65, h⟩ := zb2 h
              refine zLSc (w := (zXW g h0 u w63)) (wr := []) (wc := (zXW g h0 u w63)) (wq := (zXW g h0 u w65)) (wp := (zXW g h0 u w65)) (As := [.ref h0, .int 4, .int v13, .int 5, .int 0]) (rest := []) (zWi_q g _ _) ⟨hx, hb, hml, hown, hts⟩ (kL_call l g h0 u w63 4 v13 5 0 htr e65) (va_cwS 5 hts gL_holds_L_call rfl rfl rfl hdS_L_call ⟨Nat.le_of_ble_eq_true rfl, Nat.le_of_ble_eq_true rfl⟩) hK hP hD hS hA hAm hN (zXW_fst g h0 u _ _) (List.Perm.refl _) (List.Perm.refl _) rfl hl.1 rfl (Nat.le_of_ble_eq_true rfl) ⟨by show _ ≤ 5967; omega, by show _ ≤ 35802; omega⟩ dL_holds_370 (fun H locs hP hD hS => ?_)
              replace hP : zP g (zXW g h0 u w65) H := hP
              replace hD : va_D A (zXW g h0 u w65) := hD
              refine lv_aload_n hx hb dL_holds_373 rfl (lv_at hl 2 rfl) ?_
              refine lv_iconst (v := 2) hx hb dL_holds_374 (by decide) ?_
              refine lv_iconst (v := 4) hx hb dL_holds_375 (by decide) ?_
              refine lv_iconst (v := 0) hx hb dL_holds_376 (by decide) ?_
              refine lv_iconst (v := 0) hx hb dL_holds_377 (by decide) ?_
              obtain ⟨r66, w66, e66, h⟩ := zb2 h
              refine zLSc (w := (zXW g h0 u w65)) (wr := []) (wc := (zXW g h0 u w65)) (wq := (zXW g h0 u w66)) (wp := (zXW g h0 u w66)) (As := [.ref h0, .int 2, .int 4, .int 0, .int 0]) (rest := [.int r65]) (zWi_q g _ _) ⟨hx, hb, hml, hown, hts⟩ (kL_call l g h0 u w65 2 4 0 0 htr e66) (va_cwS 5 hts gL_holds_L_call rfl rfl rfl hdS_L_call ⟨Nat.le_of_ble_eq_true rfl, Nat.le_of_ble_eq_true rfl⟩) hK hP hD hS hA hAm hN (zXW_fst g h0 u _ _) (List.Perm.refl _) (List.Perm.refl _) rfl hl.1 rfl (Nat.le_of_ble_eq_true rfl) ⟨by show _ ≤ 5967; omega, by show _ ≤ 35802; omega⟩ dL_holds_378 (fun H locs hP hD hS => ?_)
              replace hP : zP g (zXW g h0 u w66) H := hP
              replace hD : va_D A (zXW g h0 u w66) := hD
              refine lv_aload_n hx hb dL_holds_381 rfl (lv_at hl 2 rfl) ?_
              refine lv_iconst (v := 4) hx hb dL_holds_382 (by decide) ?_
              refine lv_iload hx hb dL_holds_383 (lv_at hl 12 rfl) ?_
              refine lv_iconst (v := 2) hx hb dL_holds_385 (by decide) ?_
              refine lv_iconst (v := 0) hx hb dL_holds_386 (by decide) ?_
              obtain ⟨r67, w67, e67, h⟩ := zb2 h
              refine zLSc (w := (zXW g h0 u w66)) (wr := []) (wc := (zXW g h0 u w66)) (wq := (zXW g h0 u w67)) (wp := (zXW g h0 u w67)) (As := [.ref h0, .int 4, .int v13, .int 2, .int 0]) (rest := [.int r66, .int r65]) (zWi_q g _ _) ⟨hx, hb, hml, hown, hts⟩ (kL_call l g h0 u w66 4 v13 2 0 htr e67) (va_cwS 5 hts gL_holds_L_call rfl rfl rfl hdS_L_call ⟨Nat.le_of_ble_eq_true rfl, Nat.le_of_ble_eq_true rfl⟩) hK hP hD hS hA hAm hN (zXW_fst g h0 u _ _) (List.Perm.refl _) (List.Perm.refl _) rfl hl.1 rfl (Nat.le_of_ble_eq_true rfl) ⟨by show _ ≤ 5967; omega, by show _ ≤ 35802; omega⟩ dL_holds_387 (fun H locs hP hD hS => ?_)
              replace hP : zP g (zXW g h0 u w67) H := hP
              replace hD : va_D A (zXW g h0 u w67) := hD
              refine lv_isub hx hb dL_holds_390 ?_
              refine lv_aload_n hx hb dL_holds_391 rfl (lv_at hl 2 rfl) ?_
              refine lv_bipush (v := 6) hx hb dL_holds_392 (by decide) ?_
              refine lv_iconst (v := 3) hx hb dL_holds_394 (by decide) ?_
              refine lv_iconst (v := 0) hx hb dL_holds_395 (by decide) ?_
              refine lv_iconst (v := 0) hx hb dL_holds_396 (by decide) ?_
              obtain ⟨r68, w68, e68, h⟩ := zb2 h
              refine zLSc (w := (zXW g h0 u w67)) (wr := []) (wc := (zXW g h0 u w67)) (wq := (zXW g h0 u w68)) (wp := (zXW g h0 u w68)) (As := [.ref h0, .int 6, .int 3, .int 0, .int 0]) (rest := [.int (r66 - r67), .int r65]) (zWi_q g _ _) ⟨hx, hb, hml, hown, hts⟩ (kL_call l g h0 u w67 6 3 0 0 htr e68) (va_cwS 5 hts gL_holds_L_call rfl rfl rfl hdS_L_call ⟨Nat.le_of_ble_eq_true rfl, Nat.le_of_ble_eq_true rfl⟩) hK hP hD hS hA hAm hN (zXW_fst g h0 u _ _) (List.Perm.refl _) (List.Perm.refl _) rfl hl.1 rfl (Nat.le_of_ble_eq_true rfl) ⟨by show _ ≤ 5967; omega, by show _ ≤ 35802; omega⟩ dL_holds_397 (fun H locs hP hD hS => ?_)
              replace hP : zP g (zXW g h0 u w68) H := hP
              replace hD : va_D A (zXW g h0 u w68) := hD
              refine lv_icmp_lt (tgt := 407) hx hb dL_holds_400 (by decide) (fun c69 => ?_) (fun c69 => ?_)
              · replace h := zt c69 h
                refine lv_iconst (v := 0) hx hb dL_holds_407 (by decide) ?_
                exact loop_408 (fun y0 y1 y2 y3 y4 y5 y6 y7 y8 y9 y10 y11 y12 => fL_holds_284 n y0 y1 y2 y3 y4 y5 y6 y7 y8 y9 y10 y11 y12) (n * 30 + 57) ih v1 v2 v3 v4 v5 v6 v7 v9 (v11 + r57) (v12 + r58) v13 r65 0 w68 _ _ h (by omega) (by omega) H locs hP hD hS ls (lv_sub hl [2, 3, 4, 5, 6, 7, 8, 9, 10, 1, 0, 12] rfl)
              · replace h := zf c69 h
                refine lv_iconst (v := 1) hx hb dL_holds_403 (by decide) ?_
                refine lv_goto (tgt := 408) hx hb dL_holds_404 (by decide) ?_
                exact loop_408 (fun y0 y1 y2 y3 y4 y5 y6 y7 y8 y9 y10 y11 y12 => fL_holds_284 n y0 y1 y2 y3 y4 y5 y6 y7 y8 y9 y10 y11 y12) (n * 30 + 57) ih v1 v2 v3 v4 v5 v6 v7 v9 (v11 + r57) (v12 + r58) v13 r65 1 w68 _ _ h (by omega) (by omega) H locs hP hD hS ls (lv_sub hl [2, 3, 4, 5, 6, 7, 8, 9, 10, 1, 0, 12] rfl)
  have loop_275 : ∀ (v1 : Int32) (v2 : Int32) (v3 : Int32) (v4 : Int32) (v5 : Int32) (v6 : Int32) (v7 : Int32) (v9 : Int32) (v10 : Int32) (v : zXS) (cells slots : Nat), fL_holds_275 v1 v2 v3 v4 v5 v6 v7 v9 v10 v = some (r, v') → cells + 567 ≤ 5967 → slots + 6 * 567 ≤ 35802 → ∀ (H : Heap) (locs : List Loc), zP g (zXW g h0 u v) H → va_D A (zXW g h0 u v) → va_S A s.heap H locs → ∀ (ls : Array Slot), lv_has ls 18 [(0, .ref h0), (1, .int v1), (2, .int v2), (3, .int v3), (4, .int v4), (5, .int v5), (6, .int v6), (7, .int v7), (9, .int v9), (10, .int v10)] → W p l e ({ frames := 11, cells := 5967, slots := 35802, locals := 212 } : Room) s m [.ref h0, .int a1].toArray below meth c H locs cells slots (MQ below (zWi g (zXW g h0 u v') r A) [.ref h0, .int a1].toArray s 5967 35802 A) (F0 m 275 ls []) := by
    intro v1 v2 v3 v4 v5 v6 v7 v9 v10 v cells slots h hc hs H locs hP hD hS ls hl
    unfold fL_holds_275 at h
    refine lv_iconst (v := 0) hx hb dL_holds_275 (by decide) ?_
    refine lv_istore (lv' := [(11, .int 0), (0, .ref h0), (1, .int v1), (2, .int v2), (3, .int v3), (4, .int v4), (5, .int v5), (6, .int v6), (7, .int v7), (9, .int v9), (10, .int v10)]) hx hb dL_holds_276 hl (by decide) rfl (fun ls hl => ?_)
    refine lv_iconst (v := 0) hx hb dL_holds_278 (by decide) ?_
    refine lv_istore (lv' := [(12, .int 0), (11, .int 0), (0, .ref h0), (1, .int v1), (2, .int v2), (3, .int v3), (4, .int v4), (5, .int v5), (6, .int v6), (7, .int v7), (9, .int v9), (10, .int v10)]) hx hb dL_holds_279 hl (by decide) rfl (fun ls hl => ?_)
    refine lv_iconst (v := 0) hx hb dL_holds_281 (by decide) ?_
    refine lv_istore (lv' := [(13, .int 0), (12, .int 0), (11, .int 0), (0, .ref h0), (1, .int v1), (2, .int v2), (3, .int v3), (4, .int v4), (5, .int v5), (6, .int v6), (7, .int v7), (9, .int v9), (10, .int v10)]) hx hb dL_holds_282 hl (by decide) rfl (fun ls hl => ?_)
    exact loop_284 17 v1 v2 v3 v4 v5 v6 v7 v9 v10 0 0 0 v _ _ h (by omega) (by omega) H locs hP hD hS ls (lv_sub hl [3, 4, 5, 6, 7, 8, 9, 10, 11, 12, 2, 1, 0] rfl)
  have loop_263 : ∀ (kt : Int32 → Int32 → Int32 → Int32 → Int32 → Int32 → Int32 → Int32 → Int32 → Int32 → Int32 → zXS → Option (Int32 × zXS)) (B : Nat), (∀ (v1 : Int32) (v2 : Int32) (v3 : Int32) (v4 : Int32) (v5 : Int32) (v6 : Int32) (v7 : Int32) (v8 : Int32) (v9 : Int32) (v10 : Int32) (v11 : Int32) (v : zXS) (cells slots : Nat), kt v1 v2 v3 v4 v5 v6 v7 v8 v9 v10 v11 v = some (r, v') → cells + B ≤ 5967 → slots + 6 * B ≤ 35802 → ∀ (H : Heap) (locs : List Loc), zP g (zXW g h0 u v) H → va_D A (zXW g h0 u v) → va_S A s.heap H locs → ∀ (ls : Array Slot), lv_has ls 18 [(0, .ref h0), (1, .int v1), (2, .int v2), (3, .int v3), (4, .int v4), (5, .int v5), (6, .int v6), (7, .int v7), (8, .int v8), (9, .int v9), (10, .int v10), (11, .int v11)] → W p l e ({ frames := 11, cells := 5967, slots := 35802, locals := 212 } : Room) s m [.ref h0, .int a1].toArray below meth c H locs cells slots (MQ below (zWi g (zXW g h0 u v') r A) [.ref h0, .int a1].toArray s 5967 35802 A) (F0 m 45 ls [])) → ∀ (v1 : Int32) (v2 : Int32) (v3 : Int32) (v4 : Int32) (v5 : Int32) (v6 : Int32) (v7 : Int32) (v9 : Int32) (v11 : Int32) (v14 : Int32) (s0 : Int32) (v : zXS) (cells slots : Nat), fL_holds_263 kt v1 v2 v3 v4 v5 v6 v7 v9 v11 v14 s0 v = some (r, v') → cells + (0 + B) ≤ 5967 → slots + 6 * (0 + B) ≤ 35802 → ∀ (H : Heap) (locs : List Loc), zP g (zXW g h0 u v) H → va_D A (zXW g h0 u v) → va_S A s.heap H locs → ∀ (ls : Array Slot), lv_has ls 18 [(0, .ref h0), (1, .int v1), (2, .int v2), (3, .int v3), (4, .int v4), (5, .int v5), (6, .int v6), (7, .int v7), (9, .int v9), (11, .int v11), (14, .int v14)] → W p l e ({ frames := 11, cells := 5967, slots := 35802, locals := 212 } : Room) s m [.ref h0, .int a1].toArray below meth c H locs cells slots (MQ below (zWi g (zXW g h0 u v') r A) [.ref h0, .int a1].toArray s 5967 35802 A) (F0 m 263 ls [.int s0]) := by
    intro kt B ih v1 v2 v3 v4 v5 v6 v7 v9 v11 v14 s0 v cells slots h hc hs H locs hP hD hS ls hl
    unfold fL_holds_263 at h
    refine lv_istore (lv' := [(10, .int s0), (0, .ref h0), (1, .int v1), (2, .int v2), (3, .int v3), (4, .int v4), (5, .int v5), (6, .int v6), (7, .int v7), (9, .int v9), (11, .int v11), (14, .int v14)]) hx hb dL_holds_263 hl (by decide) rfl (fun ls hl => ?_)
    refine lv_iload hx hb dL_holds_265 (lv_at hl 11 rfl) ?_
    refine lv_istore (lv' := [(8, .int v14), (10, .int s0), (0, .ref h0), (1, .int v1), (2, .int v2), (3, .int v3), (4, .int v4), (5, .int v5), (6, .int v6), (7, .int v7), (9, .int v9), (11, .int v11), (14, .int v14)]) hx hb dL_holds_267 hl (by decide) rfl (fun ls hl => ?_)
    refine lv_iinc (v := (v11 + 1)) (lv' := [(11, .int (v11 + 1)), (8, .int v14), (10, .int s0), (0, .ref h0), (1, .int v1), (2, .int v2), (3, .int v3), (4, .int v4), (5, .int v5), (6, .int v6), (7, .int v7), (9, .int v9), (14, .int v14)]) hx hb dL_holds_269 hl (k := 11) rfl rfl (by decide) rfl (fun ls hl => ?_)
    refine lv_goto (tgt := 45) hx hb dL_holds_272 (by decide) ?_
    exact ih v1 v2 v3 v4 v5 v6 v7 v14 v9 s0 (v11 + 1) v _ _ h (by omega) (by omega) H locs hP hD hS ls (lv_sub hl [3, 4, 5, 6, 7, 8, 9, 10, 1, 11, 2, 0] rfl)
  have loop_262 : ∀ (kt : Int32 → Int32 → Int32 → Int32 → Int32 → Int32 → Int32 → Int32 → Int32 → Int32 → Int32 → zXS → Option (Int32 × zXS)) (B : Nat), (∀ (v1 : Int32) (v2 : Int32) (v3 : Int32) (v4 : Int32) (v5 : Int32) (v6 : Int32) (v7 : Int32) (v8 : Int32) (v9 : Int32) (v10 : Int32) (v11 : Int32) (v : zXS) (cells slots : Nat), kt v1 v2 v3 v4 v5 v6 v7 v8 v9 v10 v11 v = some (r, v') → cells + B ≤ 5967 → slots + 6 * B ≤ 35802 → ∀ (H : Heap) (locs : List Loc), zP g (zXW g h0 u v) H → va_D A (zXW g h0 u v) → va_S A s.heap H locs → ∀ (ls : Array Slot), lv_has ls 18 [(0, .ref h0), (1, .int v1), (2, .int v2), (3, .int v3), (4, .int v4), (5, .int v5), (6, .int v6), (7, .int v7), (8, .int v8), (9, .int v9), (10, .int v10), (11, .int v11)] → W p l e ({ frames := 11, cells := 5967, slots := 35802, locals := 212 } : Room) s m [.ref h0, .int a1].toArray below meth c H locs cells slots (MQ below (zWi g (zXW g h0 u v') r A) [.ref h0, .int a1].toArray s 5967 35802 A) (F0 m 45 ls [])) → ∀ (v1 : Int32) (v2 : Int32) (v3 : Int32) (v4 : Int32) (v5 : Int32) (v6 : Int32) (v7 : Int32) (v9 : Int32) (v11 : Int32) (v14 : Int32) (v : zXS) (cells slots : Nat), fL_holds_262 kt v1 v2 v3 v4 v5 v6 v7 v9 v11 v14 v = some (r, v') → cells + (0 + B) ≤ 5967 → slots + 6 * (0 + B) ≤ 35802 → ∀ (H : Heap) (locs : List Loc), zP g (zXW g h0 u v) H → va_D A (zXW g h0 u v) → va_S A s.heap H locs → ∀ (ls : Array Slot), lv_has ls 18 [(0, .ref h0), (1, .int v1), (2, .int v2), (3, .int v3), (4, .int v4), (5, .int v5), (6, .int v6), (7, .int v7), (9, .int v9), (11, .int v11), (14, .int v14)] → W p l e ({ frames := 11, cells := 5967, slots := 35802, locals := 212 } : Room) s m [.ref h0, .int a1].toArray below meth c H locs cells slots (MQ below (zWi g (zXW g h0 u v') r A) [.ref h0, .int a1].toArray s 5967 35802 A) (F0 m 262 ls []) := by
    intro kt B ih v1 v2 v3 v4 v5 v6 v7 v9 v11 v14 v cells slots h hc hs H locs hP hD hS ls hl
    unfold fL_holds_262 at h
    refine lv_iconst (v := 0) hx hb dL_holds_262 (by decide) ?_
    exact loop_263 kt B ih v1 v2 v3 v4 v5 v6 v7 v9 v11 v14 0 v _ _ h (by omega) (by omega) H locs hP hD hS ls (lv_sub hl [0, 1, 2, 3, 4, 5, 6, 7, 8, 9, 10] rfl)
  have loop_258 : ∀ (kt : Int32 → Int32 → Int32 → Int32 → Int32 → Int32 → Int32 → Int32 → Int32 → Int32 → Int32 → zXS → Option (Int32 × zXS)) (B : Nat), (∀ (v1 : Int32) (v2 : Int32) (v3 : Int32) (v4 : Int32) (v5 : Int32) (v6 : Int32) (v7 : Int32) (v8 : Int32) (v9 : Int32) (v10 : Int32) (v11 : Int32) (v : zXS) (cells slots : Nat), kt v1 v2 v3 v4 v5 v6 v7 v8 v9 v10 v11 v = some (r, v') → cells + B ≤ 5967 → slots + 6 * B ≤ 35802 → ∀ (H : Heap) (locs : List Loc), zP g (zXW g h0 u v) H → va_D A (zXW g h0 u v) → va_S A s.heap H locs → ∀ (ls : Array Slot), lv_has ls 18 [(0, .ref h0), (1, .int v1), (2, .int v2), (3, .int v3), (4, .int v4), (5, .int v5), (6, .int v6), (7, .int v7), (8, .int v8), (9, .int v9), (10, .int v10), (11, .int v11)] → W p l e ({ frames := 11, cells := 5967, slots := 35802, locals := 212 } : Room) s m [.ref h0, .int a1].toArray below meth c H locs cells slots (MQ below (zWi g (zXW g h0 u v') r A) [.ref h0, .int a1].toArray s 5967 35802 A) (F0 m 45 ls [])) → ∀ (v1 : Int32) (v2 : Int32) (v3 : Int32) (v4 : Int32) (v5 : Int32) (v6 : Int32) (v7 : Int32) (v9 : Int32) (v11 : Int32) (v14 : Int32) (v : zXS) (cells slots : Nat), fL_holds_258 kt v1 v2 v3 v4 v5 v6 v7 v9 v11 v14 v = some (r, v') → cells + (0 + B) ≤ 5967 → slots + 6 * (0 + B) ≤ 35802 → ∀ (H : Heap) (locs : List Loc), zP g (zXW g h0 u v) H → va_D A (zXW g h0 u v) → va_S A s.heap H locs → ∀ (ls : Array Slot), lv_has ls 18 [(0, .ref h0), (1, .int v1), (2, .int v2), (3, .int v3), (4, .int v4), (5, .int v5), (6, .int v6), (7, .int v7), (9, .int v9), (11, .int v11), (14, .int v14)] → W p l e ({ frames := 11, cells := 5967, slots := 35802, locals := 212 } : Room) s m [.ref h0, .int a1].toArray below meth c H locs cells slots (MQ below (zWi g (zXW g h0 u v') r A) [.ref h0, .int a1].toArray s 5967 35802 A) (F0 m 258 ls []) := by
    intro kt B ih v1 v2 v3 v4 v5 v6 v7 v9 v11 v14 v cells slots h hc hs H locs hP hD hS ls hl
    unfold fL_holds_258 at h
    refine lv_iconst (v := 1) hx hb dL_holds_258 (by decide) ?_
    refine lv_goto (tgt := 263) hx hb dL_holds_259 (by decide) ?_
    exact loop_263 kt B ih v1 v2 v3 v4 v5 v6 v7 v9 v11 v14 1 v _ _ h (by omega) (by omega) H locs hP hD hS ls (lv_sub hl [0, 1, 2, 3, 4, 5, 6, 7, 8, 9, 10] rfl)
  have loop_199 : ∀ (kt : Int32 → Int32 → Int32 → Int32 → Int32 → Int32 → Int32 → Int32 → Int32 → Int32 → Int32 → zXS → Option (Int32 × zXS)) (B : Nat), (∀ (v1 : Int32) (v2 : Int32) (v3 : Int32) (v4 : Int32) (v5 : Int32) (v6 : Int32) (v7 : Int32) (v8 : Int32) (v9 : Int32) (v10 : Int32) (v11 : Int32) (v : zXS) (cells slots : Nat), kt v1 v2 v3 v4 v5 v6 v7 v8 v9 v10 v11 v = some (r, v') → cells + B ≤ 5967 → slots + 6 * B ≤ 35802 → ∀ (H : Heap) (locs : List Loc), zP g (zXW g h0 u v) H → va_D A (zXW g h0 u v) → va_S A s.heap H locs → ∀ (ls : Array Slot), lv_has ls 18 [(0, .ref h0), (1, .int v1), (2, .int v2), (3, .int v3), (4, .int v4), (5, .int v5), (6, .int v6), (7, .int v7), (8, .int v8), (9, .int v9), (10, .int v10), (11, .int v11)] → W p l e ({ frames := 11, cells := 5967, slots := 35802, locals := 212 } : Room) s m [.ref h0, .int a1].toArray below meth c H locs cells slots (MQ below (zWi g (zXW g h0 u v') r A) [.ref h0, .int a1].toArray s 5967 35802 A) (F0 m 45 ls [])) → ∀ (v1 : Int32) (v2 : Int32) (v3 : Int32) (v4 : Int32) (v5 : Int32) (v6 : Int32) (v7 : Int32) (v9 : Int32) (v11 : Int32) (v13 : Int32) (v14 : Int32) (v : zXS) (cells slots : Nat), fL_holds_199 kt v1 v2 v3 v4 v5 v6 v7 v9 v11 v13 v14 v = some (r, v') → cells + (9 + B) ≤ 5967 → slots + 6 * (9 + B) ≤ 35802 → ∀ (H : Heap) (locs : List Loc), zP g (zXW g h0 u v) H → va_D A (zXW g h0 u v) → va_S A s.heap H locs → ∀ (ls : Array Slot), lv_has ls 18 [(0, .ref h0), (1, .int v1), (2, .int v2), (3, .int v3), (4, .int v4), (5, .int v5), (6, .int v6), (7, .int v7), (9, .int v9), (11, .int v11), (13, .int v13), (14, .int v14)] → W p l e ({ frames := 11, cells := 5967, slots := 35802, locals := 212 } : Room) s m [.ref h0, .int a1].toArray below meth c H locs cells slots (MQ below (zWi g (zXW g h0 u v') r A) [.ref h0, .int a1].toArray s 5967 35802 A) (F0 m 199 ls []) := by
    intro kt B ih v1 v2 v3 v4 v5 v6 v7 v9 v11 v13 v14 v cells slots h hc hs H locs hP hD hS ls hl
    unfold fL_holds_199 at h
    refine lv_iload hx hb dL_holds_199 (lv_at hl 11 rfl) ?_
    refine lv_iconst (v := (-1)) hx hb dL_holds_201 (by decide) ?_
    refine lv_icmp_eq (tgt := 258) hx hb dL_holds_202 (by decide) (fun c70 => ?_) (fun c70 => ?_)
    · replace h := zt c70 h
      exact loop_258 kt B ih v1 v2 v3 v4 v5 v6 v7 v9 v11 v14 v _ _ h (by omega) (by omega) H locs hP hD hS ls (lv_sub hl [0, 1, 2, 3, 4, 5, 6, 7, 8, 9, 11] rfl)
    · replace h := zf c70 h
      refine lv_iload hx hb dL_holds_205 (lv_at hl 10 rfl) ?_
      refine lv_iconst (v := 1) hx hb dL_holds_207 (by decide) ?_
      refine lv_icmp_ne (tgt := 262) hx hb dL_holds_208 (by decide) (fun c71 => ?_) (fun c71 => ?_)
      · replace h := zf c71 h
        exact loop_262 kt B ih v1 v2 v3 v4 v5 v6 v7 v9 v11 v14 v _ _ h (by omega) (by omega) H locs hP hD hS ls (lv_sub hl [0, 1, 2, 3, 4, 5, 6, 7, 8, 9, 11] rfl)
      · replace h := zt c71 h
        refine lv_iload hx hb dL_holds_211 (lv_at hl 11 rfl) ?_
        refine lv_iload hx hb dL_holds_213 (lv_at hl 8 rfl) ?_
        refine lv_iconst (v := 1) hx hb dL_holds_215 (by decide) ?_
        refine lv_isub hx hb dL_holds_216 ?_
        refine lv_icmp_ne (tgt := 262) hx hb dL_holds_217 (by decide) (fun c72 => ?_) (fun c72 => ?_)
        · replace h := zf c72 h
          exact loop_262 kt B ih v1 v2 v3 v4 v5 v6 v7 v9 v11 v14 v _ _ h (by omega) (by omega) H locs hP hD hS ls (lv_sub hl [0, 1, 2, 3, 4, 5, 6, 7, 8, 9, 11] rfl)
        · replace h := zt c72 h
          refine lv_iload hx hb dL_holds_220 (lv_at hl 9 rfl) ?_
          refine lv_aload_n hx hb dL_holds_222 rfl (lv_at hl 0 rfl) ?_
          refine lv_iconst (v := 4) hx hb dL_holds_223 (by decide) ?_
          refine lv_iload hx hb dL_holds_224 (lv_at hl 11 rfl) ?_
          refine lv_iconst (v := 0) hx hb dL_holds_226 (by decide) ?_
          refine lv_iconst (v := 0) hx hb dL_holds_227 (by decide) ?_
          obtain ⟨r73, w73, e73, h⟩ := zb2 h
          refine zLSc (w := (zXW g h0 u v)) (wr := []) (wc := (zXW g h0 u v)) (wq := (zXW g h0 u w73)) (wp := (zXW g h0 u w73)) (As := [.ref h0, .int 4, .int v14, .int 0, .int 0]) (rest := [.int v11]) (zWi_q g _ _) ⟨hx, hb, hml, hown, hts⟩ (kL_call l g h0 u v 4 v14 0 0 htr e73) (va_cwS 5 hts gL_holds_L_call rfl rfl rfl hdS_L_call ⟨Nat.le_of_ble_eq_true rfl, Nat.le_of_ble_eq_true rfl⟩) hK hP hD hS hA hAm hN (zXW_fst g h0 u _ _) (List.Perm.refl _) (List.Perm.refl _) rfl hl.1 rfl (Nat.le_of_ble_eq_true rfl) ⟨by show _ ≤ 5967; omega, by show _ ≤ 35802; omega⟩ dL_holds_228 (fun H locs hP hD hS => ?_)
          replace hP : zP g (zXW g h0 u w73) H := hP
          replace hD : va_D A (zXW g h0 u w73) := hD
          refine lv_icmp_lt (tgt := 262) hx hb dL_holds_231 (by decide) (fun c74 => ?_) (fun c74 => ?_)
          · replace h := zt c74 h
            exact loop_262 kt B ih v1 v2 v3 v4 v5 v6 v7 v9 v11 v14 w73 _ _ h (by omega) (by omega) H locs hP hD hS ls (lv_sub hl [0, 1, 2, 3, 4, 5, 6, 7, 8, 9, 11] rfl)
          · replace h := zf c74 h
            refine lv_iload hx hb dL_holds_234 (lv_at hl 9 rfl) ?_
            refine lv_aload_n hx hb dL_holds_236 rfl (lv_at hl 0 rfl) ?_
            refine lv_iconst (v := 4) hx hb dL_holds_237 (by decide) ?_
            refine lv_iload hx hb dL_holds_238 (lv_at hl 11 rfl) ?_
            refine lv_iconst (v := 0) hx hb dL_holds_240 (by decide) ?_
            refine lv_iconst (v := 0) hx hb dL_holds_241 (by decide) ?_
            obtain ⟨r75, w75, e75, h⟩ := zb2 h
            refine zLSc (w := (zXW g h0 u w73)) (wr := []) (wc := (zXW g h0 u w73)) (wq := (zXW g h0 u w75)) (wp := (zXW g h0 u w75)) (As := [.ref h0, .int 4, .int v14, .int 0, .int 0]) (rest := [.int v11]) (zWi_q g _ _) ⟨hx, hb, hml, hown, hts⟩ (kL_call l g h0 u w73 4 v14 0 0 htr e75) (va_cwS 5 hts gL_holds_L_call rfl rfl rfl hdS_L_call ⟨Nat.le_of_ble_eq_true rfl, Nat.le_of_ble_eq_true rfl⟩) hK hP hD hS hA hAm hN (zXW_fst g h0 u _ _) (List.Perm.refl _) (List.Perm.refl _) rfl hl.1 rfl (Nat.le_of_ble_eq_true rfl) ⟨by show _ ≤ 5967; omega, by show _ ≤ 35802; omega⟩ dL_holds_242 (fun H locs hP hD hS => ?_)
            replace hP : zP g (zXW g h0 u w75) H := hP
            replace hD : va_D A (zXW g h0 u w75) := hD
            refine lv_aload_n hx hb dL_holds_245 rfl (lv_at hl 0 rfl) ?_
            refine lv_iconst (v := 4) hx hb dL_holds_246 (by decide) ?_
            refine lv_iload hx hb dL_holds_247 (lv_at hl 11 rfl) ?_
            refine lv_iconst (v := 1) hx hb dL_holds_249 (by decide) ?_
            refine lv_iconst (v := 0) hx hb dL_holds_250 (by decide) ?_
            obtain ⟨r76, w76, e76, h⟩ := zb2 h
            refine zLSc (w := (zXW g h0 u w75)) (wr := []) (wc := (zXW g h0 u w75)) (wq := (zXW g h0 u w76)) (wp := (zXW g h0 u w76)) (As := [.ref h0, .int 4, .int v14, .int 1, .int 0]) (rest := [.int r75, .int v11]) (zWi_q g _ _) ⟨hx, hb, hml, hown, hts⟩ (kL_call l g h0 u w75 4 v14 1 0 htr e76) (va_cwS 5 hts gL_holds_L_call rfl rfl rfl hdS_L_call ⟨Nat.le_of_ble_eq_true rfl, Nat.le_of_ble_eq_true rfl⟩) hK hP hD hS hA hAm hN (zXW_fst g h0 u _ _) (List.Perm.refl _) (List.Perm.refl _) rfl hl.1 rfl (Nat.le_of_ble_eq_true rfl) ⟨by show _ ≤ 5967; omega, by show _ ≤ 35802; omega⟩ dL_holds_251 (fun H locs hP hD hS => ?_)
            replace hP : zP g (zXW g h0 u w76) H := hP
            replace hD : va_D A (zXW g h0 u w76) := hD
            refine lv_iadd hx hb dL_holds_254 ?_
            refine lv_icmp_ge (tgt := 262) hx hb dL_holds_255 (by decide) (fun c77 => ?_) (fun c77 => ?_)
            · replace h := zt c77 h
              exact loop_262 kt B ih v1 v2 v3 v4 v5 v6 v7 v9 v11 v14 w76 _ _ h (by omega) (by omega) H locs hP hD hS ls (lv_sub hl [0, 1, 2, 3, 4, 5, 6, 7, 8, 9, 11] rfl)
            · replace h := zf c77 h
              exact loop_258 kt B ih v1 v2 v3 v4 v5 v6 v7 v9 v11 v14 w76 _ _ h (by omega) (by omega) H locs hP hD hS ls (lv_sub hl [0, 1, 2, 3, 4, 5, 6, 7, 8, 9, 11] rfl)
  have loop_179 : ∀ (kt : Int32 → Int32 → Int32 → Int32 → Int32 → Int32 → Int32 → Int32 → Int32 → Int32 → Int32 → zXS → Option (Int32 × zXS)) (B : Nat), (∀ (v1 : Int32) (v2 : Int32) (v3 : Int32) (v4 : Int32) (v5 : Int32) (v6 : Int32) (v7 : Int32) (v8 : Int32) (v9 : Int32) (v10 : Int32) (v11 : Int32) (v : zXS) (cells slots : Nat), kt v1 v2 v3 v4 v5 v6 v7 v8 v9 v10 v11 v = some (r, v') → cells + B ≤ 5967 → slots + 6 * B ≤ 35802 → ∀ (H : Heap) (locs : List Loc), zP g (zXW g h0 u v) H → va_D A (zXW g h0 u v) → va_S A s.heap H locs → ∀ (ls : Array Slot), lv_has ls 18 [(0, .ref h0), (1, .int v1), (2, .int v2), (3, .int v3), (4, .int v4), (5, .int v5), (6, .int v6), (7, .int v7), (8, .int v8), (9, .int v9), (10, .int v10), (11, .int v11)] → W p l e ({ frames := 11, cells := 5967, slots := 35802, locals := 212 } : Room) s m [.ref h0, .int a1].toArray below meth c H locs cells slots (MQ below (zWi g (zXW g h0 u v') r A) [.ref h0, .int a1].toArray s 5967 35802 A) (F0 m 45 ls [])) → ∀ (v1 : Int32) (v2 : Int32) (v3 : Int32) (v4 : Int32) (v5 : Int32) (v6 : Int32) (v7 : Int32) (v11 : Int32) (v12 : Int32) (v13 : Int32) (v14 : Int32) (s0 : Int32) (s1 : Int32) (v : zXS) (cells slots : Nat), fL_holds_179 kt v1 v2 v3 v4 v5 v6 v7 v11 v12 v13 v14 s0 s1 v = some (r, v') → cells + (9 + B) ≤ 5967 → slots + 6 * (9 + B) ≤ 35802 → ∀ (H : Heap) (locs : List Loc), zP g (zXW g h0 u v) H → va_D A (zXW g h0 u v) → va_S A s.heap H locs → ∀ (ls : Array Slot), lv_has ls 18 [(0, .ref h0), (1, .int v1), (2, .int v2), (3, .int v3), (4, .int v4), (5, .int v5), (6, .int v6), (7, .int v7), (11, .int v11), (12, .int v12), (13, .int v13), (14, .int v14)] → W p l e ({ frames := 11, cells := 5967, slots := 35802, locals := 212 } : Room) s m [.ref h0, .int a1].toArray below meth c H locs cells slots (MQ below (zWi g (zXW g h0 u v') r A) [.ref h0, .int a1].toArray s 5967 35802 A) (F0 m 179 ls [.int s1, .int s0]) := by
    intro kt B ih v1 v2 v3 v4 v5 v6 v7 v11 v12 v13 v14 s0 s1 v cells slots h hc hs H locs hP hD hS ls hl
    unfold fL_holds_179 at h
    refine lv_iadd hx hb dL_holds_179 ?_
    refine lv_istore (lv' := [(9, .int (s0 + s1)), (0, .ref h0), (1, .int v1), (2, .int v2), (3, .int v3), (4, .int v4), (5, .int v5), (6, .int v6), (7, .int v7), (11, .int v11), (12, .int v12), (13, .int v13), (14, .int v14)]) hx hb dL_holds_180 hl (by decide) rfl (fun ls hl => ?_)
    refine lv_iload hx hb dL_holds_182 (lv_at hl 10 rfl) ?_
    refine lv_if_eq (tgt := 199) hx hb dL_holds_184 (by decide) (fun c78 => ?_) (fun c78 => ?_)
    · replace h := zt c78 h
      exact loop_199 kt B ih v1 v2 v3 v4 v5 v6 v7 (s0 + s1) v11 v13 v14 v _ _ h (by omega) (by omega) H locs hP hD hS ls (lv_sub hl [1, 2, 3, 4, 5, 6, 7, 8, 0, 9, 11, 12] rfl)
    · replace h := zf c78 h
      refine lv_iload hx hb dL_holds_187 (lv_at hl 11 rfl) ?_
      refine lv_iconst (v := 1) hx hb dL_holds_189 (by decide) ?_
      refine lv_icmp_ne (tgt := 262) hx hb dL_holds_190 (by decide) (fun c79 => ?_) (fun c79 => ?_)
      · replace h := zf c79 h
        exact loop_262 kt B ih v1 v2 v3 v4 v5 v6 v7 (s0 + s1) v11 v14 v _ _ h (by omega) (by omega) H locs hP hD hS ls (lv_sub hl [1, 2, 3, 4, 5, 6, 7, 8, 0, 9, 12] rfl)
      · replace h := zt c79 h
        refine lv_iload hx hb dL_holds_193 (lv_at hl 12 rfl) ?_
        refine lv_iconst (v := (-1)) hx hb dL_holds_195 (by decide) ?_
        refine lv_icmp_ne (tgt := 262) hx hb dL_holds_196 (by decide) (fun c80 => ?_) (fun c80 => ?_)
        · replace h := zf c80 h
          exact loop_262 kt B ih v1 v2 v3 v4 v5 v6 v7 (s0 + s1) v11 v14 v _ _ h (by omega) (by omega) H locs hP hD hS ls (lv_sub hl [1, 2, 3, 4, 5, 6, 7, 8, 0, 9, 12] rfl)
        · replace h := zt c80 h
          exact loop_199 kt B ih v1 v2 v3 v4 v5 v6 v7 (s0 + s1) v11 v13 v14 v _ _ h (by omega) (by omega) H locs hP hD hS ls (lv_sub hl [1, 2, 3, 4, 5, 6, 7, 8, 0, 9, 11, 12] rfl)
  have loop_178 : ∀ (kt : Int32 → Int32 → Int32 → Int32 → Int32 → Int32 → Int32 → Int32 → Int32 → Int32 → Int32 → zXS → Option (Int32 × zXS)) (B : Nat), (∀ (v1 : Int32) (v2 : Int32) (v3 : Int32) (v4 : Int32) (v5 : Int32) (v6 : Int32) (v7 : Int32) (v8 : Int32) (v9 : Int32) (v10 : Int32) (v11 : Int32) (v : zXS) (cells slots : Nat), kt v1 v2 v3 v4 v5 v6 v7 v8 v9 v10 v11 v = some (r, v') → cells + B ≤ 5967 → slots + 6 * B ≤ 35802 → ∀ (H : Heap) (locs : List Loc), zP g (zXW g h0 u v) H → va_D A (zXW g h0 u v) → va_S A s.heap H locs → ∀ (ls : Array Slot), lv_has ls 18 [(0, .ref h0), (1, .int v1), (2, .int v2), (3, .int v3), (4, .int v4), (5, .int v5), (6, .int v6), (7, .int v7), (8, .int v8), (9, .int v9), (10, .int v10), (11, .int v11)] → W p l e ({ frames := 11, cells := 5967, slots := 35802, locals := 212 } : Room) s m [.ref h0, .int a1].toArray below meth c H locs cells slots (MQ below (zWi g (zXW g h0 u v') r A) [.ref h0, .int a1].toArray s 5967 35802 A) (F0 m 45 ls [])) → ∀ (v1 : Int32) (v2 : Int32) (v3 : Int32) (v4 : Int32) (v5 : Int32) (v6 : Int32) (v7 : Int32) (v11 : Int32) (v12 : Int32) (v13 : Int32) (v14 : Int32) (s0 : Int32) (v : zXS) (cells slots : Nat), fL_holds_178 kt v1 v2 v3 v4 v5 v6 v7 v11 v12 v13 v14 s0 v = some (r, v') → cells + (9 + B) ≤ 5967 → slots + 6 * (9 + B) ≤ 35802 → ∀ (H : Heap) (locs : List Loc), zP g (zXW g h0 u v) H → va_D A (zXW g h0 u v) → va_S A s.heap H locs → ∀ (ls : Array Slot), lv_has ls 18 [(0, .ref h0), (1, .int v1), (2, .int v2), (3, .int v3), (4, .int v4), (5, .int v5), (6, .int v6), (7, .int v7), (11, .int v11), (12, .int v12), (13, .int v13), (14, .int v14)] → W p l e ({ frames := 11, cells := 5967, slots := 35802, locals := 212 } : Room) s m [.ref h0, .int a1].toArray below meth c H locs cells slots (MQ below (zWi g (zXW g h0 u v') r A) [.ref h0, .int a1].toArray s 5967 35802 A) (F0 m 178 ls [.int s0]) := by
    intro kt B ih v1 v2 v3 v4 v5 v6 v7 v11 v12 v13 v14 s0 v cells slots h hc hs H locs hP hD hS ls hl
    unfold fL_holds_178 at h
    refine lv_iconst (v := 0) hx hb dL_holds_178 (by decide) ?_
    exact loop_179 kt B ih v1 v2 v3 v4 v5 v6 v7 v11 v12 v13 v14 s0 0 v _ _ h (by omega) (by omega) H locs hP hD hS ls (lv_sub hl [0, 1, 2, 3, 4, 5, 6, 7, 8, 9, 10, 11] rfl)
  have loop_143 : ∀ (kt : Int32 → Int32 → Int32 → Int32 → Int32 → Int32 → Int32 → Int32 → Int32 → Int32 → Int32 → zXS → Option (Int32 × zXS)) (B : Nat), (∀ (v1 : Int32) (v2 : Int32) (v3 : Int32) (v4 : Int32) (v5 : Int32) (v6 : Int32) (v7 : Int32) (v8 : Int32) (v9 : Int32) (v10 : Int32) (v11 : Int32) (v : zXS) (cells slots : Nat), kt v1 v2 v3 v4 v5 v6 v7 v8 v9 v10 v11 v = some (r, v') → cells + B ≤ 5967 → slots + 6 * B ≤ 35802 → ∀ (H : Heap) (locs : List Loc), zP g (zXW g h0 u v) H → va_D A (zXW g h0 u v) → va_S A s.heap H locs → ∀ (ls : Array Slot), lv_has ls 18 [(0, .ref h0), (1, .int v1), (2, .int v2), (3, .int v3), (4, .int v4), (5, .int v5), (6, .int v6), (7, .int v7), (8, .int v8), (9, .int v9), (10, .int v10), (11, .int v11)] → W p l e ({ frames := 11, cells := 5967, slots := 35802, locals := 212 } : Room) s m [.ref h0, .int a1].toArray below meth c H locs cells slots (MQ below (zWi g (zXW g h0 u v') r A) [.ref h0, .int a1].toArray s 5967 35802 A) (F0 m 45 ls [])) → ∀ (v1 : Int32) (v2 : Int32) (v3 : Int32) (v4 : Int32) (v5 : Int32) (v7 : Int32) (v8 : Int32) (v9 : Int32) (v11 : Int32) (v12 : Int32) (v13 : Int32) (v14 : Int32) (s0 : Int32) (s1 : Int32) (v : zXS) (cells slots : Nat), fL_holds_143 kt v1 v2 v3 v4 v5 v7 v8 v9 v11 v12 v13 v14 s0 s1 v = some (r, v') → cells + (12 + B) ≤ 5967 → slots + 6 * (12 + B) ≤ 35802 → ∀ (H : Heap) (locs : List Loc), zP g (zXW g h0 u v) H → va_D A (zXW g h0 u v) → va_S A s.heap H locs → ∀ (ls : Array Slot), lv_has ls 18 [(0, .ref h0), (1, .int v1), (2, .int v2), (3, .int v3), (4, .int v4), (5, .int v5), (7, .int v7), (8, .int v8), (9, .int v9), (11, .int v11), (12, .int v12), (13, .int v13), (14, .int v14)] → W p l e ({ frames := 11, cells := 5967, slots := 35802, locals := 212 } : Room) s m [.ref h0, .int a1].toArray below meth c H locs cells slots (MQ below (zWi g (zXW g h0 u v') r A) [.ref h0, .int a1].toArray s 5967 35802 A) (F0 m 143 ls [.int s1, .int s0]) := by
    intro kt B ih v1 v2 v3 v4 v5 v7 v8 v9 v11 v12 v13 v14 s0 s1 v cells slots h hc hs H locs hP hD hS ls hl
    unfold fL_holds_143 at h
    refine lv_iadd hx hb dL_holds_143 ?_
    refine lv_istore (lv' := [(6, .int (s0 + s1)), (0, .ref h0), (1, .int v1), (2, .int v2), (3, .int v3), (4, .int v4), (5, .int v5), (7, .int v7), (8, .int v8), (9, .int v9), (11, .int v11), (12, .int v12), (13, .int v13), (14, .int v14)]) hx hb dL_holds_144 hl (by decide) rfl (fun ls hl => ?_)
    refine lv_iload hx hb dL_holds_146 (lv_at hl 7 rfl) ?_
    refine lv_aload_n hx hb dL_holds_148 rfl (lv_at hl 1 rfl) ?_
    refine lv_iconst (v := 3) hx hb dL_holds_149 (by decide) ?_
    refine lv_iload hx hb dL_holds_150 (lv_at hl 10 rfl) ?_
    refine lv_iconst (v := 3) hx hb dL_holds_152 (by decide) ?_
    refine lv_iconst (v := 0) hx hb dL_holds_153 (by decide) ?_
    obtain ⟨r81, w81, e81, h⟩ := zb2 h
    refine zLSc (w := (zXW g h0 u v)) (wr := []) (wc := (zXW g h0 u v)) (wq := (zXW g h0 u w81)) (wp := (zXW g h0 u w81)) (As := [.ref h0, .int 3, .int v11, .int 3, .int 0]) (rest := [.int v7]) (zWi_q g _ _) ⟨hx, hb, hml, hown, hts⟩ (kL_call l g h0 u v 3 v11 3 0 htr e81) (va_cwS 5 hts gL_holds_L_call rfl rfl rfl hdS_L_call ⟨Nat.le_of_ble_eq_true rfl, Nat.le_of_ble_eq_true rfl⟩) hK hP hD hS hA hAm hN (zXW_fst g h0 u _ _) (List.Perm.refl _) (List.Perm.refl _) rfl hl.1 rfl (Nat.le_of_ble_eq_true rfl) ⟨by show _ ≤ 5967; omega, by show _ ≤ 35802; omega⟩ dL_holds_154 (fun H locs hP hD hS => ?_)
    replace hP : zP g (zXW g h0 u w81) H := hP
    replace hD : va_D A (zXW g h0 u w81) := hD
    refine lv_iadd hx hb dL_holds_157 ?_
    refine lv_istore (lv' := [(7, .int (v7 + r81)), (6, .int (s0 + s1)), (0, .ref h0), (1, .int v1), (2, .int v2), (3, .int v3), (4, .int v4), (5, .int v5), (8, .int v8), (9, .int v9), (11, .int v11), (12, .int v12), (13, .int v13), (14, .int v14)]) hx hb dL_holds_158 hl (by decide) rfl (fun ls hl => ?_)
    refine lv_iload hx hb dL_holds_160 (lv_at hl 9 rfl) ?_
    refine lv_iload hx hb dL_holds_162 (lv_at hl 13 rfl) ?_
    refine lv_iconst (v := (-1)) hx hb dL_holds_164 (by decide) ?_
    refine lv_icmp_eq (tgt := 178) hx hb dL_holds_165 (by decide) (fun c82 => ?_) (fun c82 => ?_)
    · replace h := zt c82 h
      exact loop_178 kt B ih v1 v2 v3 v4 v5 (s0 + s1) (v7 + r81) v11 v12 v13 v14 v9 w81 _ _ h (by omega) (by omega) H locs hP hD hS ls (lv_sub hl [2, 3, 4, 5, 6, 7, 1, 0, 10, 11, 12, 13] rfl)
    · replace h := zf c82 h
      refine lv_iload hx hb dL_holds_168 (lv_at hl 8 rfl) ?_
      refine lv_iconst (v := (-1)) hx hb dL_holds_170 (by decide) ?_
      refine lv_icmp_ne (tgt := 178) hx hb dL_holds_171 (by decide) (fun c83 => ?_) (fun c83 => ?_)
      · replace h := zf c83 h
        exact loop_178 kt B ih v1 v2 v3 v4 v5 (s0 + s1) (v7 + r81) v11 v12 v13 v14 v9 w81 _ _ h (by omega) (by omega) H locs hP hD hS ls (lv_sub hl [2, 3, 4, 5, 6, 7, 1, 0, 10, 11, 12, 13] rfl)
      · replace h := zt c83 h
        refine lv_iconst (v := 1) hx hb dL_holds_174 (by decide) ?_
        refine lv_goto (tgt := 179) hx hb dL_holds_175 (by decide) ?_
        exact loop_179 kt B ih v1 v2 v3 v4 v5 (s0 + s1) (v7 + r81) v11 v12 v13 v14 v9 1 w81 _ _ h (by omega) (by omega) H locs hP hD hS ls (lv_sub hl [2, 3, 4, 5, 6, 7, 1, 0, 10, 11, 12, 13] rfl)
  have loop_142 : ∀ (kt : Int32 → Int32 → Int32 → Int32 → Int32 → Int32 → Int32 → Int32 → Int32 → Int32 → Int32 → zXS → Option (Int32 × zXS)) (B : Nat), (∀ (v1 : Int32) (v2 : Int32) (v3 : Int32) (v4 : Int32) (v5 : Int32) (v6 : Int32) (v7 : Int32) (v8 : Int32) (v9 : Int32) (v10 : Int32) (v11 : Int32) (v : zXS) (cells slots : Nat), kt v1 v2 v3 v4 v5 v6 v7 v8 v9 v10 v11 v = some (r, v') → cells + B ≤ 5967 → slots + 6 * B ≤ 35802 → ∀ (H : Heap) (locs : List Loc), zP g (zXW g h0 u v) H → va_D A (zXW g h0 u v) → va_S A s.heap H locs → ∀ (ls : Array Slot), lv_has ls 18 [(0, .ref h0), (1, .int v1), (2, .int v2), (3, .int v3), (4, .int v4), (5, .int v5), (6, .int v6), (7, .int v7), (8, .int v8), (9, .int v9), (10, .int v10), (11, .int v11)] → W p l e ({ frames := 11, cells := 5967, slots := 35802, locals := 212 } : Room) s m [.ref h0, .int a1].toArray below meth c H locs cells slots (MQ below (zWi g (zXW g h0 u v') r A) [.ref h0, .int a1].toArray s 5967 35802 A) (F0 m 45 ls [])) → ∀ (v1 : Int32) (v2 : Int32) (v3 : Int32) (v4 : Int32) (v5 : Int32) (v7 : Int32) (v8 : Int32) (v9 : Int32) (v11 : Int32) (v12 : Int32) (v13 : Int32) (v14 : Int32) (s0 : Int32) (v : zXS) (cells slots : Nat), fL_holds_142 kt v1 v2 v3 v4 v5 v7 v8 v9 v11 v12 v13 v14 s0 v = some (r, v') → cells + (12 + B) ≤ 5967 → slots + 6 * (12 + B) ≤ 35802 → ∀ (H : Heap) (locs : List Loc), zP g (zXW g h0 u v) H → va_D A (zXW g h0 u v) → va_S A s.heap H locs → ∀ (ls : Array Slot), lv_has ls 18 [(0, .ref h0), (1, .int v1), (2, .int v2), (3, .int v3), (4, .int v4), (5, .int v5), (7, .int v7), (8, .int v8), (9, .int v9), (11, .int v11), (12, .int v12), (13, .int v13), (14, .int v14)] → W p l e ({ frames := 11, cells := 5967, slots := 35802, locals := 212 } : Room) s m [.ref h0, .int a1].toArray below meth c H locs cells slots (MQ below (zWi g (zXW g h0 u v') r A) [.ref h0, .int a1].toArray s 5967 35802 A) (F0 m 142 ls [.int s0]) := by
    intro kt B ih v1 v2 v3 v4 v5 v7 v8 v9 v11 v12 v13 v14 s0 v cells slots h hc hs H locs hP hD hS ls hl
    unfold fL_holds_142 at h
    refine lv_iconst (v := 0) hx hb dL_holds_142 (by decide) ?_
    exact loop_143 kt B ih v1 v2 v3 v4 v5 v7 v8 v9 v11 v12 v13 v14 s0 0 v _ _ h (by omega) (by omega) H locs hP hD hS ls (lv_sub hl [0, 1, 2, 3, 4, 5, 6, 7, 8, 9, 10, 11, 12] rfl)
  have loop_116 : ∀ (kt : Int32 → Int32 → Int32 → Int32 → Int32 → Int32 → Int32 → Int32 → Int32 → Int32 → Int32 → zXS → Option (Int32 × zXS)) (B : Nat), (∀ (v1 : Int32) (v2 : Int32) (v3 : Int32) (v4 : Int32) (v5 : Int32) (v6 : Int32) (v7 : Int32) (v8 : Int32) (v9 : Int32) (v10 : Int32) (v11 : Int32) (v : zXS) (cells slots : Nat), kt v1 v2 v3 v4 v5 v6 v7 v8 v9 v10 v11 v = some (r, v') → cells + B ≤ 5967 → slots + 6 * B ≤ 35802 → ∀ (H : Heap) (locs : List Loc), zP g (zXW g h0 u v) H → va_D A (zXW g h0 u v) → va_S A s.heap H locs → ∀ (ls : Array Slot), lv_has ls 18 [(0, .ref h0), (1, .int v1), (2, .int v2), (3, .int v3), (4, .int v4), (5, .int v5), (6, .int v6), (7, .int v7), (8, .int v8), (9, .int v9), (10, .int v10), (11, .int v11)] → W p l e ({ frames := 11, cells := 5967, slots := 35802, locals := 212 } : Room) s m [.ref h0, .int a1].toArray below meth c H locs cells slots (MQ below (zWi g (zXW g h0 u v') r A) [.ref h0, .int a1].toArray s 5967 35802 A) (F0 m 45 ls [])) → ∀ (v1 : Int32) (v2 : Int32) (v3 : Int32) (v4 : Int32) (v6 : Int32) (v7 : Int32) (v8 : Int32) (v9 : Int32) (v11 : Int32) (v12 : Int32) (v13 : Int32) (v14 : Int32) (s0 : Int32) (s1 : Int32) (v : zXS) (cells slots : Nat), fL_holds_116 kt v1 v2 v3 v4 v6 v7 v8 v9 v11 v12 v13 v14 s0 s1 v = some (r, v') → cells + (12 + B) ≤ 5967 → slots + 6 * (12 + B) ≤ 35802 → ∀ (H : Heap) (locs : List Loc), zP g (zXW g h0 u v) H → va_D A (zXW g h0 u v) → va_S A s.heap H locs → ∀ (ls : Array Slot), lv_has ls 18 [(0, .ref h0), (1, .int v1), (2, .int v2), (3, .int v3), (4, .int v4), (6, .int v6), (7, .int v7), (8, .int v8), (9, .int v9), (11, .int v11), (12, .int v12), (13, .int v13), (14, .int v14)] → W p l e ({ frames := 11, cells := 5967, slots := 35802, locals := 212 } : Room) s m [.ref h0, .int a1].toArray below meth c H locs cells slots (MQ below (zWi g (zXW g h0 u v') r A) [.ref h0, .int a1].toArray s 5967 35802 A) (F0 m 116 ls [.int s1, .int s0]) := by
    intro kt B ih v1 v2 v3 v4 v6 v7 v8 v9 v11 v12 v13 v14 s0 s1 v cells slots h hc hs H locs hP hD hS ls hl
    unfold fL_holds_116 at h
    refine lv_iadd hx hb dL_holds_116 ?_
    refine lv_istore (lv' := [(5, .int (s0 + s1)), (0, .ref h0), (1, .int v1), (2, .int v2), (3, .int v3), (4, .int v4), (6, .int v6), (7, .int v7), (8, .int v8), (9, .int v9), (11, .int v11), (12, .int v12), (13, .int v13), (14, .int v14)]) hx hb dL_holds_117 hl (by decide) rfl (fun ls hl => ?_)
    refine lv_iload hx hb dL_holds_119 (lv_at hl 6 rfl) ?_
    refine lv_iload hx hb dL_holds_121 (lv_at hl 12 rfl) ?_
    refine lv_iconst (v := 1) hx hb dL_holds_123 (by decide) ?_
    refine lv_icmp_ne (tgt := 142) hx hb dL_holds_124 (by decide) (fun c84 => ?_) (fun c84 => ?_)
    · replace h := zf c84 h
      exact loop_142 kt B ih v1 v2 v3 v4 (s0 + s1) v7 v8 v9 v11 v12 v13 v14 v6 v _ _ h (by omega) (by omega) H locs hP hD hS ls (lv_sub hl [1, 2, 3, 4, 5, 0, 7, 8, 9, 10, 11, 12, 13] rfl)
    · replace h := zt c84 h
      refine lv_iload hx hb dL_holds_127 (lv_at hl 11 rfl) ?_
      refine lv_if_ne (tgt := 142) hx hb dL_holds_129 (by decide) (fun c85 => ?_) (fun c85 => ?_)
      · replace h := zf c85 h
        exact loop_142 kt B ih v1 v2 v3 v4 (s0 + s1) v7 v8 v9 v11 v12 v13 v14 v6 v _ _ h (by omega) (by omega) H locs hP hD hS ls (lv_sub hl [1, 2, 3, 4, 5, 0, 7, 8, 9, 10, 11, 12, 13] rfl)
      · replace h := zt c85 h
        refine lv_iload hx hb dL_holds_132 (lv_at hl 13 rfl) ?_
        refine lv_iconst (v := (-1)) hx hb dL_holds_134 (by decide) ?_
        refine lv_icmp_ne (tgt := 142) hx hb dL_holds_135 (by decide) (fun c86 => ?_) (fun c86 => ?_)
        · replace h := zf c86 h
          exact loop_142 kt B ih v1 v2 v3 v4 (s0 + s1) v7 v8 v9 v11 v12 v13 v14 v6 v _ _ h (by omega) (by omega) H locs hP hD hS ls (lv_sub hl [1, 2, 3, 4, 5, 0, 7, 8, 9, 10, 11, 12, 13] rfl)
        · replace h := zt c86 h
          refine lv_iconst (v := 1) hx hb dL_holds_138 (by decide) ?_
          refine lv_goto (tgt := 143) hx hb dL_holds_139 (by decide) ?_
          exact loop_143 kt B ih v1 v2 v3 v4 (s0 + s1) v7 v8 v9 v11 v12 v13 v14 v6 1 v _ _ h (by omega) (by omega) H locs hP hD hS ls (lv_sub hl [1, 2, 3, 4, 5, 0, 7, 8, 9, 10, 11, 12, 13] rfl)
  have loop_45 : ∀ (n : Nat) (v1 : Int32) (v2 : Int32) (v3 : Int32) (v4 : Int32) (v5 : Int32) (v6 : Int32) (v7 : Int32) (v8 : Int32) (v9 : Int32) (v10 : Int32) (v11 : Int32) (v : zXS) (cells slots : Nat), fL_holds_45 n v1 v2 v3 v4 v5 v6 v7 v8 v9 v10 v11 v = some (r, v') → cells + (n * 21 + 567) ≤ 5967 → slots + 6 * (n * 21 + 567) ≤ 35802 → ∀ (H : Heap) (locs : List Loc), zP g (zXW g h0 u v) H → va_D A (zXW g h0 u v) → va_S A s.heap H locs → ∀ (ls : Array Slot), lv_has ls 18 [(0, .ref h0), (1, .int v1), (2, .int v2), (3, .int v3), (4, .int v4), (5, .int v5), (6, .int v6), (7, .int v7), (8, .int v8), (9, .int v9), (10, .int v10), (11, .int v11)] → W p l e ({ frames := 11, cells := 5967, slots := 35802, locals := 212 } : Room) s m [.ref h0, .int a1].toArray below meth c H locs cells slots (MQ below (zWi g (zXW g h0 u v') r A) [.ref h0, .int a1].toArray s 5967 35802 A) (F0 m 45 ls []) := by
    intro n
    induction n with
    | zero => intro v1 v2 v3 v4 v5 v6 v7 v8 v9 v10 v11 v cells slots h; exact zn h
    | succ n ih =>
      intro v1 v2 v3 v4 v5 v6 v7 v8 v9 v10 v11 v cells slots h hc hs H locs hP hD hS ls hl
      rw [fL_holds_45] at h
      refine lv_iload hx hb dL_holds_45 (lv_at hl 11 rfl) ?_
      refine lv_sipush (v := 256) hx hb dL_holds_47 (by decide) ?_
      refine lv_icmp_ge (tgt := 275) hx hb dL_holds_50 (by decide) (fun c87 => ?_) (fun c87 => ?_)
      · replace h := zt c87 h
        exact loop_275 v1 v2 v3 v4 v5 v6 v7 v9 v10 v _ _ h (by omega) (by omega) H locs hP hD hS ls (lv_sub hl [0, 1, 2, 3, 4, 5, 6, 7, 9, 10] rfl)
      · replace h := zf c87 h
        refine lv_iload hx hb dL_holds_53 (lv_at hl 10 rfl) ?_
        refine lv_if_eq (tgt := 275) hx hb dL_holds_55 (by decide) (fun c88 => ?_) (fun c88 => ?_)
        · replace h := zt c88 h
          exact loop_275 v1 v2 v3 v4 v5 v6 v7 v9 v10 v _ _ h (by omega) (by omega) H locs hP hD hS ls (lv_sub hl [0, 1, 2, 3, 4, 5, 6, 7, 9, 10] rfl)
        · replace h := zf c88 h
          refine lv_aload_n hx hb dL_holds_58 rfl (lv_at hl 0 rfl) ?_
          refine lv_iconst (v := 3) hx hb dL_holds_59 (by decide) ?_
          refine lv_iload hx hb dL_holds_60 (lv_at hl 11 rfl) ?_
          refine lv_iconst (v := 0) hx hb dL_holds_62 (by decide) ?_
          refine lv_iconst (v := 0) hx hb dL_holds_63 (by decide) ?_
          obtain ⟨r89, w89, e89, h⟩ := zb2 h
          refine zLSc (w := (zXW g h0 u v)) (wr := []) (wc := (zXW g h0 u v)) (wq := (zXW g h0 u w89)) (wp := (zXW g h0 u w89)) (As := [.ref h0, .int 3, .int v11, .int 0, .int 0]) (rest := []) (zWi_q g _ _) ⟨hx, hb, hml, hown, hts⟩ (kL_call l g h0 u v 3 v11 0 0 htr e89) (va_cwS 5 hts gL_holds_L_call rfl rfl rfl hdS_L_call ⟨Nat.le_of_ble_eq_true rfl, Nat.le_of_ble_eq_true rfl⟩) hK hP hD hS hA hAm hN (zXW_fst g h0 u _ _) (List.Perm.refl _) (List.Perm.refl _) rfl hl.1 rfl (Nat.le_of_ble_eq_true rfl) ⟨by show _ ≤ 5967; omega, by show _ ≤ 35802; omega⟩ dL_holds_64 (fun H locs hP hD hS => ?_)
          replace hP : zP g (zXW g h0 u w89) H := hP
          replace hD : va_D A (zXW g h0 u w89) := hD
          refine lv_istore (lv' := [(12, .int r89), (0, .ref h0), (1, .int v1), (2, .int v2), (3, .int v3), (4, .int v4), (5, .int v5), (6, .int v6), (7, .int v7), (8, .int v8), (9, .int v9), (10, .int v10), (11, .int v11)]) hx hb dL_holds_67 hl (by decide) rfl (fun ls hl => ?_)
          refine lv_aload_n hx hb dL_holds_69 rfl (lv_at hl 1 rfl) ?_
          refine lv_iconst (v := 3) hx hb dL_holds_70 (by decide) ?_
          refine lv_iload hx hb dL_holds_71 (lv_at hl 12 rfl) ?_
          refine lv_iconst (v := 1) hx hb dL_holds_73 (by decide) ?_
          refine lv_iconst (v := 0) hx hb dL_holds_74 (by decide) ?_
          obtain ⟨r90, w90, e90, h⟩ := zb2 h
          refine zLSc (w := (zXW g h0 u w89)) (wr := []) (wc := (zXW g h0 u w89)) (wq := (zXW g h0 u w90)) (wp := (zXW g h0 u w90)) (As := [.ref h0, .int 3, .int v11, .int 1, .int 0]) (rest := []) (zWi_q g _ _) ⟨hx, hb, hml, hown, hts⟩ (kL_call l g h0 u w89 3 v11 1 0 htr e90) (va_cwS 5 hts gL_holds_L_call rfl rfl rfl hdS_L_call ⟨Nat.le_of_ble_eq_true rfl, Nat.le_of_ble_eq_true rfl⟩) hK hP hD hS hA hAm hN (zXW_fst g h0 u _ _) (List.Perm.refl _) (List.Perm.refl _) rfl hl.1 rfl (Nat.le_of_ble_eq_true rfl) ⟨by show _ ≤ 5967; omega, by show _ ≤ 35802; omega⟩ dL_holds_75 (fun H locs hP hD hS => ?_)
          replace hP : zP g (zXW g h0 u w90) H := hP
          replace hD : va_D A (zXW g h0 u w90) := hD
          refine lv_istore (lv' := [(13, .int r90), (12, .int r89), (0, .ref h0), (1, .int v1), (2, .int v2), (3, .int v3), (4, .int v4), (5, .int v5), (6, .int v6), (7, .int v7), (8, .int v8), (9, .int v9), (10, .int v10), (11, .int v11)]) hx hb dL_holds_78 hl (by decide) rfl (fun ls hl => ?_)
          refine lv_aload_n hx hb dL_holds_80 rfl (lv_at hl 2 rfl) ?_
          refine lv_iconst (v := 3) hx hb dL_holds_81 (by decide) ?_
          refine lv_iload hx hb dL_holds_82 (lv_at hl 13 rfl) ?_
          refine lv_iconst (v := 2) hx hb dL_holds_84 (by decide) ?_
          refine lv_iconst (v := 0) hx hb dL_holds_85 (by decide) ?_
          obtain ⟨r91, w91, e91, h⟩ := zb2 h
          refine zLSc (w := (zXW g h0 u w90)) (wr := []) (wc := (zXW g h0 u w90)) (wq := (zXW g h0 u w91)) (wp := (zXW g h0 u w91)) (As := [.ref h0, .int 3, .int v11, .int 2, .int 0]) (rest := []) (zWi_q g _ _) ⟨hx, hb, hml, hown, hts⟩ (kL_call l g h0 u w90 3 v11 2 0 htr e91) (va_cwS 5 hts gL_holds_L_call rfl rfl rfl hdS_L_call ⟨Nat.le_of_ble_eq_true rfl, Nat.le_of_ble_eq_true rfl⟩) hK hP hD hS hA hAm hN (zXW_fst g h0 u _ _) (List.Perm.refl _) (List.Perm.refl _) rfl hl.1 rfl (Nat.le_of_ble_eq_true rfl) ⟨by show _ ≤ 5967; omega, by show _ ≤ 35802; omega⟩ dL_holds_86 (fun H locs hP hD hS => ?_)
          replace hP : zP g (zXW g h0 u w91) H := hP
          replace hD : va_D A (zXW g h0 u w91) := hD
          refine lv_istore (lv' := [(14, .int r91), (13, .int r90), (12, .int r89), (0, .ref h0), (1, .int v1), (2, .int v2), (3, .int v3), (4, .int v4), (5, .int v5), (6, .int v6), (7, .int v7), (8, .int v8), (9, .int v9), (10, .int v10), (11, .int v11)]) hx hb dL_holds_89 hl (by decide) rfl (fun ls hl => ?_)
          refine lv_iload_n hx hb dL_holds_91 rfl (lv_at hl 6 rfl) ?_
          refine lv_iload hx hb dL_holds_92 (lv_at hl 2 rfl) ?_
          refine lv_iadd hx hb dL_holds_94 ?_
          refine lv_istore_n (lv' := [(3, .int (v3 + r89)), (14, .int r91), (13, .int r90), (12, .int r89), (0, .ref h0), (1, .int v1), (2, .int v2), (4, .int v4), (5, .int v5), (6, .int v6), (7, .int v7), (8, .int v8), (9, .int v9), (10, .int v10), (11, .int v11)]) hx hb dL_holds_95 rfl hl (by decide) rfl (fun ls hl => ?_)
          refine lv_iload hx hb dL_holds_96 (lv_at hl 7 rfl) ?_
          refine lv_iload hx hb dL_holds_98 (lv_at hl 2 rfl) ?_
          refine lv_iadd hx hb dL_holds_100 ?_
          refine lv_istore (lv' := [(4, .int (v4 + r90)), (3, .int (v3 + r89)), (14, .int r91), (13, .int r90), (12, .int r89), (0, .ref h0), (1, .int v1), (2, .int v2), (5, .int v5), (6, .int v6), (7, .int v7), (8, .int v8), (9, .int v9), (10, .int v10), (11, .int v11)]) hx hb dL_holds_101 hl (by decide) rfl (fun ls hl => ?_)
          refine lv_iload hx hb dL_holds_103 (lv_at hl 8 rfl) ?_
          refine lv_iload hx hb dL_holds_105 (lv_at hl 2 rfl) ?_
          refine lv_iconst (v := (-1)) hx hb dL_holds_107 (by decide) ?_
          refine lv_icmp_ne (tgt := 115) hx hb dL_holds_108 (by decide) (fun c92 => ?_) (fun c92 => ?_)
          · replace h := zf c92 h
            refine lv_iconst (v := 1) hx hb dL_holds_115 (by decide) ?_
            exact loop_116 (fun y0 y1 y2 y3 y4 y5 y6 y7 y8 y9 y10 y11 => fL_holds_45 n y0 y1 y2 y3 y4 y5 y6 y7 y8 y9 y10 y11) (n * 21 + 567) ih v1 v2 (v3 + r89) (v4 + r90) v6 v7 v8 v9 v11 r89 r90 r91 v5 1 w91 _ _ h (by omega) (by omega) H locs hP hD hS ls (lv_sub hl [5, 6, 7, 1, 0, 9, 10, 11, 12, 14, 4, 3, 2] rfl)
          · replace h := zt c92 h
            refine lv_iconst (v := 0) hx hb dL_holds_111 (by decide) ?_
            refine lv_goto (tgt := 116) hx hb dL_holds_112 (by decide) ?_
            exact loop_116 (fun y0 y1 y2 y3 y4 y5 y6 y7 y8 y9 y10 y11 => fL_holds_45 n y0 y1 y2 y3 y4 y5 y6 y7 y8 y9 y10 y11) (n * 21 + 567) ih v1 v2 (v3 + r89) (v4 + r90) v6 v7 v8 v9 v11 r89 r90 r91 v5 0 w91 _ _ h (by omega) (by omega) H locs hP hD hS ls (lv_sub hl [5, 6, 7, 1, 0, 9, 10, 11, 12, 14, 4, 3, 2] rfl)
  unfold fL_holds at h
  refine lv_aload_n hx hb dL_holds_0 rfl (lv_at hl 0 rfl) ?_
  refine lv_iconst (v := 2) hx hb dL_holds_1 (by decide) ?_
  refine lv_iconst (v := 2) hx hb dL_holds_2 (by decide) ?_
  refine lv_iconst (v := 0) hx hb dL_holds_3 (by decide) ?_
  refine lv_iconst (v := 0) hx hb dL_holds_4 (by decide) ?_
  obtain ⟨r93, w93, e93, h⟩ := zb2 h
  refine zLSc (w := (zXW g h0 u v)) (wr := []) (wc := (zXW g h0 u v)) (wq := (zXW g h0 u w93)) (wp := (zXW g h0 u w93)) (As := [.ref h0, .int 2, .int 2, .int 0, .int 0]) (rest := []) (zWi_q g _ _) ⟨hx, hb, hml, hown, hts⟩ (kL_call l g h0 u v 2 2 0 0 htr e93) (va_cwS 5 hts gL_holds_L_call rfl rfl rfl hdS_L_call ⟨Nat.le_of_ble_eq_true rfl, Nat.le_of_ble_eq_true rfl⟩) hK hP hD hS hA hAm hN (zXW_fst g h0 u _ _) (List.Perm.refl _) (List.Perm.refl _) rfl hl.1 rfl (Nat.le_of_ble_eq_true rfl) ⟨by show _ ≤ 5967; omega, by show _ ≤ 35802; omega⟩ dL_holds_5 (fun H locs hP hD hS => ?_)
  replace hP : zP g (zXW g h0 u w93) H := hP
  replace hD : va_D A (zXW g h0 u w93) := hD
  refine lv_istore_n (lv' := [(2, .int r93), (0, .ref h0), (1, .int a1)]) hx hb dL_holds_8 rfl hl (by decide) rfl (fun ls hl => ?_)
  refine lv_iconst (v := 0) hx hb dL_holds_9 (by decide) ?_
  refine lv_istore_n (lv' := [(3, .int 0), (2, .int r93), (0, .ref h0), (1, .int a1)]) hx hb dL_holds_10 rfl hl (by decide) rfl (fun ls hl => ?_)
  refine lv_iconst (v := 0) hx hb dL_holds_11 (by decide) ?_
  refine lv_istore (lv' := [(4, .int 0), (3, .int 0), (2, .int r93), (0, .ref h0), (1, .int a1)]) hx hb dL_holds_12 hl (by decide) rfl (fun ls hl => ?_)
  refine lv_iconst (v := 0) hx hb dL_holds_14 (by decide) ?_
  refine lv_istore (lv' := [(5, .int 0), (4, .int 0), (3, .int 0), (2, .int r93), (0, .ref h0), (1, .int a1)]) hx hb dL_holds_15 hl (by decide) rfl (fun ls hl => ?_)
  refine lv_iconst (v := 0) hx hb dL_holds_17 (by decide) ?_
  refine lv_istore (lv' := [(6, .int 0), (5, .int 0), (4, .int 0), (3, .int 0), (2, .int r93), (0, .ref h0), (1, .int a1)]) hx hb dL_holds_18 hl (by decide) rfl (fun ls hl => ?_)
  refine lv_iconst (v := 0) hx hb dL_holds_20 (by decide) ?_
  refine lv_istore (lv' := [(7, .int 0), (6, .int 0), (5, .int 0), (4, .int 0), (3, .int 0), (2, .int r93), (0, .ref h0), (1, .int a1)]) hx hb dL_holds_21 hl (by decide) rfl (fun ls hl => ?_)
  refine lv_iconst (v := (-1)) hx hb dL_holds_23 (by decide) ?_
  refine lv_istore (lv' := [(8, .int (-1)), (7, .int 0), (6, .int 0), (5, .int 0), (4, .int 0), (3, .int 0), (2, .int r93), (0, .ref h0), (1, .int a1)]) hx hb dL_holds_24 hl (by decide) rfl (fun ls hl => ?_)
  refine lv_iconst (v := 0) hx hb dL_holds_26 (by decide) ?_
  refine lv_istore (lv' := [(9, .int 0), (8, .int (-1)), (7, .int 0), (6, .int 0), (5, .int 0), (4, .int 0), (3, .int 0), (2, .int r93), (0, .ref h0), (1, .int a1)]) hx hb dL_holds_27 hl (by decide) rfl (fun ls hl => ?_)
  refine lv_iload_n hx hb dL_holds_29 rfl (lv_at hl 7 rfl) ?_
  refine lv_bipush (v := 16) hx hb dL_holds_30 (by decide) ?_
  refine lv_icmp_gt (tgt := 39) hx hb dL_holds_32 (by decide) (fun c94 => ?_) (fun c94 => ?_)
  · replace h := zt c94 h
    refine lv_iconst (v := 0) hx hb dL_holds_39 (by decide) ?_
    refine lv_istore (lv' := [(10, .int 0), (9, .int 0), (8, .int (-1)), (7, .int 0), (6, .int 0), (5, .int 0), (4, .int 0), (3, .int 0), (2, .int r93), (0, .ref h0), (1, .int a1)]) hx hb dL_holds_40 hl (by decide) rfl (fun ls hl => ?_)
    refine lv_iconst (v := 0) hx hb dL_holds_42 (by decide) ?_
    refine lv_istore (lv' := [(11, .int 0), (10, .int 0), (9, .int 0), (8, .int (-1)), (7, .int 0), (6, .int 0), (5, .int 0), (4, .int 0), (3, .int 0), (2, .int r93), (0, .ref h0), (1, .int a1)]) hx hb dL_holds_43 hl (by decide) rfl (fun ls hl => ?_)
    exact loop_45 257 a1 r93 0 0 0 0 0 (-1) 0 0 0 w93 _ _ h (by omega) (by omega) H locs hP hD hS ls (lv_sub hl [10, 11, 9, 8, 7, 6, 5, 4, 3, 2, 1, 0] rfl)
  · replace h := zf c94 h
    refine lv_iconst (v := 1) hx hb dL_holds_35 (by decide) ?_
    refine lv_goto (tgt := 40) hx hb dL_holds_36 (by decide) ?_
    refine lv_istore (lv' := [(10, .int 1), (9, .int 0), (8, .int (-1)), (7, .int 0), (6, .int 0), (5, .int 0), (4, .int 0), (3, .int 0), (2, .int r93), (0, .ref h0), (1, .int a1)]) hx hb dL_holds_40 hl (by decide) rfl (fun ls hl => ?_)
    refine lv_iconst (v := 0) hx hb dL_holds_42 (by decide) ?_
    refine lv_istore (lv' := [(11, .int 0), (10, .int 1), (9, .int 0), (8, .int (-1)), (7, .int 0), (6, .int 0), (5, .int 0), (4, .int 0), (3, .int 0), (2, .int r93), (0, .ref h0), (1, .int a1)]) hx hb dL_holds_43 hl (by decide) rfl (fun ls hl => ?_)
    exact loop_45 257 a1 r93 0 0 0 0 0 (-1) 0 1 0 w93 _ _ h (by omega) (by omega) H locs hP hD hS ls (lv_sub hl [10, 11, 9, 8, 7, 6, 5, 4, 3, 2, 1, 0] rfl)
