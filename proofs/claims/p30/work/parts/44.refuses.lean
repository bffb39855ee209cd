theorem hdS_L_call : yL_call.cls ≠ "java/lang/invoke/MethodHandle" ∧ yL_call.cls ≠ "java/lang/invoke/VarHandle" ∧ (parseMethodDescriptor yL_call.desc).map (fun d => d.parameters.length) = some 5 := by decide +kernel
theorem hdS_L_tryScript : yL_tryScript.cls ≠ "java/lang/invoke/MethodHandle" ∧ yL_tryScript.cls ≠ "java/lang/invoke/VarHandle" ∧ (parseMethodDescriptor yL_tryScript.desc).map (fun d => d.parameters.length) = some 3 := by decide +kernel
theorem hdS_L_trySimulate : yL_trySimulate.cls ≠ "java/lang/invoke/MethodHandle" ∧ yL_trySimulate.cls ≠ "java/lang/invoke/VarHandle" ∧ (parseMethodDescriptor yL_trySimulate.desc).map (fun d => d.parameters.length) = some 3 := by decide +kernel
def fL_refuses_86 (v1 : Int32) (v2 : Int32) (v3 : Int32) (v4 : Int32) (s1 : Int32) (s2 : Int32) (v : zXS) : Option (Int32 × zXS) :=
    ob2 (fL_call v s1 s2 0 0) fun r1 w1 =>
    if r1 = (-9999002) then
      ob2 (fL_call w1 2 (11 + (irem v1 50)) 0 0) fun r3 w3 =>
      if r3 = (-9999002) then
        ob2 (fL_call w3 3 v2 9 0) fun r5 w5 =>
        if r5 = (-9999001) then
          ob2 (fL_call w5 3 (irem v1 256) (4 + (irem v1 9)) 0) fun r7 w7 =>
          if r7 = (-9999002) then
            ob2 (fL_call w7 4 v3 9 0) fun r9 w9 =>
            if r9 = (-9999001) then
              ob2 (fL_call w9 5 (3 + (irem v1 9)) 9 0) fun r11 w11 =>
              if r11 = (-9999001) then
                ob2 (fL_call w11 6 (6 + (irem v1 9)) 0 0) fun r13 w13 =>
                if r13 = (-9999002) then
                  ob2 (fL_call w13 7 v2 v4 0) fun r15 w15 =>
                  if r15 = (-9999001) then
                    ob2 (fL_call w15 7 (irem v1 256) v4 0) fun r17 w17 =>
                    if r17 = (-9999002) then
                      ob2 (fL_call w17 8 v2 v4 0) fun r19 w19 =>
                      if r19 = (-9999001) then
                        ob2 (fL_call w19 8 (200 + (irem v1 56)) (57 + (irem v1 43)) 0) fun r21 w21 =>
                        if r21 = (-9999003) then
                          ob2 (fL_call w21 9 (3 + (irem v1 9)) v2 v4) fun r23 w23 =>
                          if r23 = (-9999001) then
                            ob2 (fL_call w23 9 (irem v1 3) v2 v4) fun r25 w25 =>
                            if r25 = (-9999001) then
                              ob2 (fL_call w25 9 (irem v1 3) 255 (2 + (irem v1 90))) fun r27 w27 =>
                              if r27 = (-9999003) then
                                ob2 (fL_call w27 10 (3 + (irem v1 9)) 0 0) fun r29 w29 =>
                                if r29 = (-9999001) then
                                  ob2 (fL_call w29 11 (61 + (irem v1 9)) 0 0) fun r31 w31 =>
                                  if r31 = (-9999002) then
                                    ob2 (fL_call w31 12 (irem v1 6) (51 + (irem v1 9)) 0) fun r33 w33 =>
                                    if r33 = (-9999002) then
                                      ob2 (fL_call w33 14 (3 + (irem v1 9)) 0 0) fun r35 w35 =>
                                      if r35 = (-9999002) then
                                        ob2 (fL_call w35 15 v2 0 0) fun r37 w37 =>
                                        if r37 = (-9999001) then
                                          ob2 (fL_call w37 16 (101 + (irem v1 9)) 0 0) fun r39 w39 =>
                                          if r39 = (-9999002) then
                                            ob2 (fL_call w39 17 (61 + (irem v1 9)) 0 0) fun r41 w41 =>
                                            if r41 = (-9999002) then
                                              ob2 (fL_call w41 18 v2 v4 0) fun r43 w43 =>
                                              if r43 = (-9999001) then
                                                ob2 (fL_call w43 19 (2 + (irem v1 50)) 0 0) fun r45 w45 =>
                                                if r45 = (-9999001) then
                                                  ob2 (fL_call w45 20 ((-1) - (irem v1 9)) 0 0) fun r47 w47 =>
                                                  if r47 = (-9999001) then
                                                    ob2 (fL_tryScript w47 0 0) fun r49 w49 =>
                                                    if r49 = (-9999002) then
                                                      ob2 (fL_tryScript w49 1 ((1000000) + v1.toInt64)) fun r51 w51 =>
                                                      if r51 = (-9999002) then
                                                        ob2 (fL_trySimulate w51 v1.toInt64 (61 + (irem v1 9))) fun r53 w53 =>
                                                        if r53 = (-9999002) then
                                                          some (1, w53)
                                                        else
                                                          some (0, w53)
                                                      else
                                                        some (0, w51)
                                                    else
                                                      some (0, w49)
                                                  else
                                                    some (0, w47)
                                                else
                                                  some (0, w45)
                                              else
                                                some (0, w43)
                                            else
                                              some (0, w41)
                                          else
                                            some (0, w39)
                                        else
                                          some (0, w37)
                                      else
                                        some (0, w35)
                                    else
                                      some (0, w33)
                                  else
                                    some (0, w31)
                                else
                                  some (0, w29)
                              else
                                some (0, w27)
                            else
                              some (0, w25)
                          else
                            some (0, w23)
                        else
                          some (0, w21)
                      else
                        some (0, w19)
                    else
                      some (0, w17)
                  else
                    some (0, w15)
                else
                  some (0, w13)
              else
                some (0, w11)
            else
              some (0, w9)
          else
            some (0, w7)
        else
          some (0, w5)
      else
        some (0, w3)
    else
      some (0, w1)
def fL_refuses_59 (v1 : Int32) (v2 : Int32) (v3 : Int32) (s0 : Int32) (v : zXS) : Option (Int32 × zXS) :=
    if (irem v1 2) = 0 then
      fL_refuses_86 v1 v2 v3 s0 0 ((-1) - (irem v1 9)) v
    else
      fL_refuses_86 v1 v2 v3 s0 0 (256 + (irem v1 9)) v
def fL_refuses_23 (v1 : Int32) (s0 : Int32) (v : zXS) : Option (Int32 × zXS) :=
    ob2 (fL_call v 2 2 0 0) fun r56 w56 =>
    if (irem v1 2) = 0 then
      fL_refuses_59 v1 s0 (r56 + (irem v1 50)) (irem (-v1) 99) w56
    else
      fL_refuses_59 v1 s0 (r56 + (irem v1 50)) (100 + (irem v1 99)) w56
def fL_refuses (v : zXS) (a1 : Int32) : Option (Int32 × zXS) :=
  if (irem a1 2) = 0 then
    fL_refuses_23 a1 ((-1) - (irem a1 99)) v
  else
    fL_refuses_23 a1 (256 + (irem a1 99)) v
theorem mL_refuses_15 : Cond.constant RL 15 (-9999002) ∈ wsL_refuses := by decide +kernel
theorem mL_refuses_40 : Cond.constant RL 40 (-9999001) ∈ wsL_refuses := by decide +kernel
theorem mL_refuses_26 : Cond.constant RL 26 (-9999003) ∈ wsL_refuses := by decide +kernel
theorem mL_refuses_172 : Cond.constantLong RL 172 (1000000) ∈ wsL_refuses := by decide +kernel
set_option maxRecDepth 100000 in
set_option maxHeartbeats 8000000 in
theorem kL_refuses (l : Launch) (g : zG) (h0 : Nat) (u : zAd) (v : zXS) (a1 : Int32) (htr : l.stackTraces = false) {r : Int32} {v' : zXS} (h : fL_refuses v a1 = some (r, v')) : Mn l g yL_refuses wsL_refuses { frames := 11, cells := 78, slots := 468, locals := 212 } [.ref h0, .int a1] (zXW g h0 u v) (zWi g (zXW g h0 u v') r) 78 468 := by
  refine zn_in0 (cc := cL_refuses) (maxL := 5) (ret := (some .boolean)) (by decide) rfl (Nat.le_of_ble_eq_true rfl) ?_
  intro p e s m below meth c hx hb hr hml hts hown hlocks hK hN A hA hP hD hS hAm ls hl
  replace hl : lv_has ls 5 [(0, .ref h0), (1, .int a1)] := hl
  have loop_86 : ∀ (v1 : Int32) (v2 : Int32) (v3 : Int32) (v4 : Int32) (s1 : Int32) (s2 : Int32) (v : zXS) (cells slots : Nat), fL_refuses_86 v1 v2 v3 v4 s1 s2 v = some (r, v') → cells + 75 ≤ 78 → slots + 6 * 75 ≤ 468 → ∀ (H : Heap) (locs : List Loc), zP g (zXW g h0 u v) H → va_D A (zXW g h0 u v) → va_S A s.heap H locs → ∀ (ls : Array Slot), lv_has ls 5 [(0, .ref h0), (1, .int v1), (2, .int v2), (3, .int v3), (4, .int v4)] → W p l e ({ frames := 11, cells := 78, slots := 468, locals := 212 } : Room) s m [.ref h0, .int a1].toArray below meth c H locs cells slots (MQ below (zWi g (zXW g h0 u v') r A) [.ref h0, .int a1].toArray s 78 468 A) (F0 m 86 ls [.int s2, .int s1, .ref h0]) := by
    intro v1 v2 v3 v4 s1 s2 v cells slots h hc hs H locs hP hD hS ls hl
    unfold fL_refuses_86 at h
    refine lv_iconst (v := 0) hx hb dL_refuses_86 (by decide) ?_
    refine lv_iconst (v := 0) hx hb dL_refuses_87 (by decide) ?_
    obtain ⟨r1, w1, e1, h⟩ := zb2 h
    refine zLSc (w := (zXW g h0 u v)) (wr := []) (wc := (zXW g h0 u v)) (wq := (zXW g h0 u w1)) (wp := (zXW g h0 u w1)) (As := [.ref h0, .int s1, .int s2, .int 0, .int 0]) (rest := []) (zWi_q g _ _) ⟨hx, hb, hml, hown, hts⟩ (kL_call l g h0 u v s1 s2 0 0 htr e1) (va_cwS 5 hts gL_refuses_L_call rfl rfl rfl hdS_L_call ⟨Nat.le_of_ble_eq_true rfl, Nat.le_of_ble_eq_true rfl⟩) hK hP hD hS hA hAm hN (zXW_fst g h0 u _ _) (List.Perm.refl _) (List.Perm.refl _) rfl hl.1 rfl (Nat.le_of_ble_eq_true rfl) ⟨by show _ ≤ 78; omega, by show _ ≤ 468; omega⟩ dL_refuses_88 (fun H locs hP hD hS => ?_)
    replace hP : zP g (zXW g h0 u w1) H := hP
    replace hD : va_D A (zXW g h0 u w1) := hD
    refine lv_ldc hx hb hown (hts _ mL_refuses_15) dL_refuses_91 ?_
    refine lv_icmp_ne (tgt := 577) hx hb dL_refuses_93 (by decide) (fun c2 => ?_) (fun c2 => ?_)
    · replace h := zf c2 h
      refine lv_iconst (v := 0) hx hb dL_refuses_577 (by decide) ?_
      cases h
      exact W.widen (by omega) (by omega) (zw_z hx hb hr hlocks (by decide) hP hS dL_refuses_578)
    · replace h := zt c2 h
      refine lv_aload_n hx hb dL_refuses_96 rfl (lv_at hl 0 rfl) ?_
      refine lv_iconst (v := 2) hx hb dL_refuses_97 (by decide) ?_
      refine lv_bipush (v := 11) hx hb dL_refuses_98 (by decide) ?_
      refine lv_iload_n hx hb dL_refuses_100 rfl (lv_at hl 1 rfl) ?_
      refine lv_bipush (v := 50) hx hb dL_refuses_101 (by decide) ?_
      refine lv_irem hx hb dL_refuses_103 (by decide) ?_
      refine lv_iadd hx hb dL_refuses_104 ?_
      refine lv_iconst (v := 0) hx hb dL_refuses_105 (by decide) ?_
      refine lv_iconst (v := 0) hx hb dL_refuses_106 (by decide) ?_
      obtain ⟨r3, w3, e3, h⟩ := zb2 h
      refine zLSc (w := (zXW g h0 u w1)) (wr := []) (wc := (zXW g h0 u w1)) (wq := (zXW g h0 u w3)) (wp := (zXW g h0 u w3)) (As := [.ref h0, .int 2, .int (11 + (irem v1 50)), .int 0, .int 0]) (rest := []) (zWi_q g _ _) ⟨hx, hb, hml, hown, hts⟩ (kL_call l g h0 u w1 2 (11 + (irem v1 50)) 0 0 htr e3) (va_cwS 5 hts gL_refuses_L_call rfl rfl rfl hdS_L_call ⟨Nat.le_of_ble_eq_true rfl, Nat.le_of_ble_eq_true rfl⟩) hK hP hD hS hA hAm hN (zXW_fst g h0 u _ _) (List.Perm.refl _) (List.Perm.refl _) rfl hl.1 rfl (Nat.le_of_ble_eq_true rfl) ⟨by show _ ≤ 78; omega, by show _ ≤ 468; omega⟩ dL_refuses_107 (fun H locs hP hD hS => ?_)
      replace hP : zP g (zXW g h0 u w3) H := hP
      replace hD : va_D A (zXW g h0 u w3) := hD
      refine lv_ldc hx hb hown (hts _ mL_refuses_15) dL_refuses_110 ?_
      refine lv_icmp_ne (tgt := 577) hx hb dL_refuses_112 (by decide) (fun c4 => ?_) (fun c4 => ?_)
      · replace h := zf c4 h
        refine lv_iconst (v := 0) hx hb dL_refuses_577 (by decide) ?_
        cases h
        exact W.widen (by omega) (by omega) (zw_z hx hb hr hlocks (by decide) hP hS dL_refuses_578)
      · replace h := zt c4 h
        refine lv_aload_n hx hb dL_refuses_115 rfl (lv_at hl 0 rfl) ?_
        refine lv_iconst (v := 3) hx hb dL_refuses_116 (by decide) ?_
        refine lv_iload_n hx hb dL_refuses_117 rfl (lv_at hl 2 rfl) ?_
        refine lv_bipush (v := 9) hx hb dL_refuses_118 (by decide) ?_
        refine lv_iconst (v := 0) hx hb dL_refuses_120 (by decide) ?_
        obtain ⟨r5, w5, e5, h⟩ := zb2 h
        refine zLSc (w := (zXW g h0 u w3)) (wr := []) (wc := (zXW g h0 u w3)) (wq := (zXW g h0 u w5)) (wp := (zXW g h0 u w5)) (As := [.ref h0, .int 3, .int v2, .int 9, .int 0]) (rest := []) (zWi_q g _ _) ⟨hx, hb, hml, hown, hts⟩ (kL_call l g h0 u w3 3 v2 9 0 htr e5) (va_cwS 5 hts gL_refuses_L_call rfl rfl rfl hdS_L_call ⟨Nat.le_of_ble_eq_true rfl, Nat.le_of_ble_eq_true rfl⟩) hK hP hD hS hA hAm hN (zXW_fst g h0 u _ _) (List.Perm.refl _) (List.Perm.refl _) rfl hl.1 rfl (Nat.le_of_ble_eq_true rfl) ⟨by show _ ≤ 78; omega, by show _ ≤ 468; omega⟩ dL_refuses_121 (fun H locs hP hD hS => ?_)
        replace hP : zP g (zXW g h0 u w5) H := hP
        replace hD : va_D A (zXW g h0 u w5) := hD
        refine lv_ldc hx hb hown (hts _ mL_refuses_40) dL_refuses_124 ?_
        refine lv_icmp_ne (tgt := 577) hx hb dL_refuses_126 (by decide) (fun c6 => ?_) (fun c6 => ?_)
        · replace h := zf c6 h
          refine lv_iconst (v := 0) hx hb dL_refuses_577 (by decide) ?_
          cases h
          exact W.widen (by omega) (by omega) (zw_z hx hb hr hlocks (by decide) hP hS dL_refuses_578)
        · replace h := zt c6 h
          refine lv_aload_n hx hb dL_refuses_129 rfl (lv_at hl 0 rfl) ?_
          refine lv_iconst (v := 3) hx hb dL_refuses_130 (by decide) ?_
          refine lv_iload_n hx hb dL_refuses_131 rfl (lv_at hl 1 rfl) ?_
          refine lv_sipush (v := 256) hx hb dL_refuses_132 (by decide) ?_
          refine lv_irem hx hb dL_refuses_135 (by decide) ?_
          refine lv_iconst (v := 4) hx hb dL_refuses_136 (by decide) ?_
          refine lv_iload_n hx hb dL_refuses_137 rfl (lv_at hl 1 rfl) ?_
          refine lv_bipush (v := 9) hx hb dL_refuses_138 (by decide) ?_
          refine lv_irem hx hb dL_refuses_140 (by decide) ?_
          refine lv_iadd hx hb dL_refuses_141 ?_
          refine lv_iconst (v := 0) hx hb dL_refuses_142 (by decide) ?_
          obtain ⟨r7, w7, e7, h⟩ := zb2 h
          refine zLSc (w := (zXW g h0 u w5)) (wr := []) (wc := (zXW g h0 u w5)) (wq := (zXW g h0 u w7)) (wp := (zXW g h0 u w7)) (As := [.ref h0, .int 3, .int (irem v1 256), .int (4 + (irem v1 9)), .int 0]) (rest := []) (zWi_q g _ _) ⟨hx, hb, hml, hown, hts⟩ (kL_call l g h0 u w5 3 (irem v1 256) (4 + (irem v1 9)) 0 htr e7) (va_cwS 5 hts gL_refuses_L_call rfl rfl rfl hdS_L_call ⟨Nat.le_of_ble_eq_true rfl, Nat.le_of_ble_eq_true rfl⟩) hK hP hD hS hA hAm hN (zXW_fst g h0 u _ _) (List.Perm.refl _) (List.Perm.refl _) rfl hl.1 rfl (Nat.le_of_ble_eq_true rfl) ⟨by show _ ≤ 78; omega, by show _ ≤ 468; omega⟩ dL_refuses_143 (fun H locs hP hD hS => ?_)
          replace hP : zP g (zXW g h0 u w7) H := hP
          replace hD : va_D A (zXW g h0 u w7) := hD
          refine lv_ldc hx hb hown (hts _ mL_refuses_15) dL_refuses_146 ?_
          refine lv_icmp_ne (tgt := 577) hx hb dL_refuses_148 (by decide) (fun c8 => ?_) (fun c8 => ?_)
          · replace h := zf c8 h
            refine lv_iconst (v := 0) hx hb dL_refuses_577 (by decide) ?_
            cases h
            exact W.widen (by omega) (by omega) (zw_z hx hb hr hlocks (by decide) hP hS dL_refuses_578)
          · replace h := zt c8 h
            refine lv_aload_n hx hb dL_refuses_151 rfl (lv_at hl 0 rfl) ?_
            refine lv_iconst (v := 4) hx hb dL_refuses_152 (by decide) ?_
            refine lv_iload_n hx hb dL_refuses_153 rfl (lv_at hl 3 rfl) ?_
            refine lv_bipush (v := 9) hx hb dL_refuses_154 (by decide) ?_
            refine lv_iconst (v := 0) hx hb dL_refuses_156 (by decide) ?_
            obtain ⟨r9, w9, e9, h⟩ := zb2 h
            refine zLSc (w := (zXW g h0 u w7)) (wr := []) (wc := (zXW g h0 u w7)) (wq := (zXW g h0 u w9)) (wp := (zXW g h0 u w9)) (As := [.ref h0, .int 4, .int v3, .int 9, .int 0]) (rest := []) (zWi_q g _ _) ⟨hx, hb, hml, hown, hts⟩ (kL_call l g h0 u w7 4 v3 9 0 htr e9) (va_cwS 5 hts gL_refuses_L_call rfl rfl rfl hdS_L_call ⟨Nat.le_of_ble_eq_true rfl, Nat.le_of_ble_eq_true rfl⟩) hK hP hD hS hA hAm hN (zXW_fst g h0 u _ _) (List.Perm.refl _) (List.Perm.refl _) rfl hl.1 rfl (Nat.le_of_ble_eq_true rfl) ⟨by show _ ≤ 78; omega, by show _ ≤ 468; omega⟩ dL_refuses_157 (fun H locs hP hD hS => ?_)
            replace hP : zP g (zXW g h0 u w9) H := hP
            replace hD : va_D A (zXW g h0 u w9) := hD
            refine lv_ldc hx hb hown (hts _ mL_refuses_40) dL_refuses_160 ?_
            refine lv_icmp_ne (tgt := 577) hx hb dL_refuses_162 (by decide) (fun c10 => ?_) (fun c10 => ?_)
            · replace h := zf c10 h
              refine lv_iconst (v := 0) hx hb dL_refuses_577 (by decide) ?_
              cases h
              exact W.widen (by omega) (by omega) (zw_z hx hb hr hlocks (by decide) hP hS dL_refuses_578)
            · replace h := zt c10 h
              refine lv_aload_n hx hb dL_refuses_165 rfl (lv_at hl 0 rfl) ?_
              refine lv_iconst (v := 5) hx hb dL_refuses_166 (by decide) ?_
              refine lv_iconst (v := 3) hx hb dL_refuses_167 (by decide) ?_
              refine lv_iload_n hx hb dL_refuses_168 rfl (lv_at hl 1 rfl) ?_
              refine lv_bipush (v := 9) hx hb dL_refuses_169 (by decide) ?_
              refine lv_irem hx hb dL_refuses_171 (by decide) ?_
              refine lv_iadd hx hb dL_refuses_172 ?_
              refine lv_bipush (v := 9) hx hb dL_refuses_173 (by decide) ?_
              refine lv_iconst (v := 0) hx hb dL_refuses_175 (by decide) ?_
              obtain ⟨r11, w11, e11, h⟩ := zb2 h
              refine zLSc (w := (zXW g h0 u w9)) (wr := []) (wc := (zXW g h0 u w9)) (wq := (zXW g h0 u w11)) (wp := (zXW g h0 u w11)) (As := [.ref h0, .int 5, .int (3 + (irem v1 9)), .int 9, .int 0]) (rest := []) (zWi_q g _ _) ⟨hx, hb, hml, hown, hts⟩ (kL_call l g h0 u w9 5 (3 + (irem v1 9)) 9 0 htr e11) (va_cwS 5 hts gL_refuses_L_call rfl rfl rfl hdS_L_call ⟨Nat.le_of_ble_eq_true rfl, Nat.le_of_ble_eq_true rfl⟩) hK hP hD hS hA hAm hN (zXW_fst g h0 u _ _) (List.Perm.refl _) (List.Perm.refl _) rfl hl.1 rfl (Nat.le_of_ble_eq_true rfl) ⟨by show _ ≤ 78; omega, by show _ ≤ 468; omega⟩ dL_refuses_176 (fun H locs hP hD hS => ?_)
              replace hP : zP g (zXW g h0 u w11) H := hP
              replace hD : va_D A (zXW g h0 u w11) := hD
              refine lv_ldc hx hb hown (hts _ mL_refuses_40) dL_refuses_179 ?_
              refine lv_icmp_ne (tgt := 577) hx hb dL_refuses_181 (by decide) (fun c12 => ?_) (fun c12 => ?_)
              · replace h := zf c12 h
                refine lv_iconst (v := 0) hx hb dL_refuses_577 (by decide) ?_
                cases h
                exact W.widen (by omega) (by omega) (zw_z hx hb hr hlocks (by decide) hP hS dL_refuses_578)
              · replace h := zt c12 h
                refine lv_aload_n hx hb dL_refuses_184 rfl (lv_at hl 0 rfl) ?_
                refine lv_bipush (v := 6) hx hb dL_refuses_185 (by decide) ?_
                refine lv_bipush (v := 6) hx hb dL_refuses_187 (by decide) ?_
                refine lv_iload_n hx hb dL_refuses_189 rfl (lv_at hl 1 rfl) ?_
                refine lv_bipush (v := 9) hx hb dL_refuses_190 (by decide) ?_
                refine lv_irem hx hb dL_refuses_192 (by decide) ?_
                refine lv_iadd hx hb dL_refuses_193 ?_
                refine lv_iconst (v := 0) hx hb dL_refuses_194 (by decide) ?_
                refine lv_iconst (v := 0) hx hb dL_refuses_195 (by decide) ?_
                obtain ⟨r13, w13, e13, h⟩ := zb2 h
                refine zLSc (w := (zXW g h0 u w11)) (wr := []) (wc := (zXW g h0 u w11)) (wq := (zXW g h0 u w13)) (wp := (zXW g h0 u w13)) (As := [.ref h0, .int 6, .int (6 + (irem v1 9)), .int 0, .int 0]) (rest := []) (zWi_q g _ _) ⟨hx, hb, hml, hown, hts⟩ (kL_call l g h0 u w11 6 (6 + (irem v1 9)) 0 0 htr e13) (va_cwS 5 hts gL_refuses_L_call rfl rfl rfl hdS_L_call ⟨Nat.le_of_ble_eq_true rfl, Nat.le_of_ble_eq_true rfl⟩) hK hP hD hS hA hAm hN (zXW_fst g h0 u _ _) (List.Perm.refl _) (List.Perm.refl _) rfl hl.1 rfl (Nat.le_of_ble_eq_true rfl) ⟨by show _ ≤ 78; omega, by show _ ≤ 468; omega⟩ dL_refuses_196 (fun H locs hP hD hS => ?_)
                replace hP : zP g (zXW g h0 u w13) H := hP
                replace hD : va_D A (zXW g h0 u w13) := hD
                refine lv_ldc hx hb hown (hts _ mL_refuses_15) dL_refuses_199 ?_
                refine lv_icmp_ne (tgt := 577) hx hb dL_refuses_201 (by decide) (fun c14 => ?_) (fun c14 => ?_)
                · replace h := zf c14 h
                  refine lv_iconst (v := 0) hx hb dL_refuses_577 (by decide) ?_
                  cases h
                  exact W.widen (by omega) (by omega) (zw_z hx hb hr hlocks (by decide) hP hS dL_refuses_578)
                · replace h := zt c14 h
                  refine lv_aload_n hx hb dL_refuses_204 rfl (lv_at hl 0 rfl) ?_
                  refine lv_bipush (v := 7) hx hb dL_refuses_205 (by decide) ?_
                  refine lv_iload_n hx hb dL_refuses_207 rfl (lv_at hl 2 rfl) ?_
                  refine lv_iload hx hb dL_refuses_208 (lv_at hl 4 rfl) ?_
                  refine lv_iconst (v := 0) hx hb dL_refuses_210 (by decide) ?_
                  obtain ⟨r15, w15, e15, h⟩ := zb2 h
                  refine zLSc (w := (zXW g h0 u w13)) (wr := []) (wc := (zXW g h0 u w13)) (wq := (zXW g h0 u w15)) (wp := (zXW g h0 u w15)) (As := [.ref h0, .int 7, .int v2, .int v4, .int 0]) (rest := []) (zWi_q g _ _) ⟨hx, hb, hml, hown, hts⟩ (kL_call l g h0 u w13 7 v2 v4 0 htr e15) (va_cwS 5 hts gL_refuses_L_call rfl rfl rfl hdS_L_call ⟨Nat.le_of_ble_eq_true rfl, Nat.le_of_ble_eq_true rfl⟩) hK hP hD hS hA hAm hN (zXW_fst g h0 u _ _) (List.Perm.refl _) (List.Perm.refl _) rfl hl.1 rfl (Nat.le_of_ble_eq_true rfl) ⟨by show _ ≤ 78; omega, by show _ ≤ 468; omega⟩ dL_refuses_211 (fun H locs hP hD hS => ?_)
                  replace hP : zP g (zXW g h0 u w15) H := hP
                  replace hD : va_D A (zXW g h0 u w15) := hD
                  refine lv_ldc hx hb hown (hts _ mL_refuses_40) dL_refuses_214 ?_
                  refine lv_icmp_ne (tgt := 577) hx hb dL_refuses_216 (by decide) (fun c16 => ?_) (fun c16 => ?_)
                  · replace h := zf c16 h
                    refine lv_iconst (v := 0) hx hb dL_refuses_577 (by decide) ?_
                    cases h
                    exact W.widen (by omega) (by omega) (zw_z hx hb hr hlocks (by decide) hP hS dL_refuses_578)
                  · replace h := zt c16 h
                    refine lv_aload_n hx hb dL_refuses_219 rfl (lv_at hl 0 rfl) ?_
                    refine lv_bipush (v := 7) hx hb dL_refuses_220 (by decide) ?_
                    refine lv_iload_n hx hb dL_refuses_222 rfl (lv_at hl 1 rfl) ?_
                    refine lv_sipush (v := 256) hx hb dL_refuses_223 (by decide) ?_
                    refine lv_irem hx hb dL_refuses_226 (by decide) ?_
                    refine lv_iload hx hb dL_refuses_227 (lv_at hl 4 rfl) ?_
                    refine lv_iconst (v := 0) hx hb dL_refuses_229 (by decide) ?_
                    obtain ⟨r17, w17, e17, h⟩ := zb2 h
                    refine zLSc (w := (zXW g h0 u w15)) (wr := []) (wc := (zXW g h0 u w15)) (wq := (zXW g h0 u w17)) (wp := (zXW g h0 u w17)) (As := [.ref h0, .int 7, .int (irem v1 256), .int v4, .int 0]) (rest := []) (zWi_q g _ _) ⟨hx, hb, hml, hown, hts⟩ (kL_call l g h0 u w15 7 (irem v1 256) v4 0 htr e17) (va_cwS 5 hts gL_refuses_L_call rfl rfl rfl hdS_L_call ⟨Nat.le_of_ble_eq_true rfl, Nat.le_of_ble_eq_true rfl⟩) hK hP hD hS hA hAm hN (zXW_fst g h0 u _ _) (List.Perm.refl _) (List.Perm.refl _) rfl hl.1 rfl (Nat.le_of_ble_eq_true rfl) ⟨by show _ ≤ 78; omega, by show _ ≤ 468; omega⟩ dL_refuses_230 (fun H locs hP hD hS => ?_)
                    replace hP : zP g (zXW g h0 u w17) H := hP
                    replace hD : va_D A (zXW g h0 u w17) := hD
                    refine lv_ldc hx hb hown (hts _ mL_refuses_15) dL_refuses_233 ?_
                    refine lv_icmp_ne (tgt := 577) hx hb dL_refuses_235 (by decide) (fun c18 => ?_) (fun c18 => ?_)
                    · replace h := zf c18 h
                      refine lv_iconst (v := 0) hx hb dL_refuses_577 (by decide) ?_
                      cases h
                      exact W.widen (by omega) (by omega) (zw_z hx hb hr hlocks (by decide) hP hS dL_refuses_578)
                    · replace h := zt c18 h
                      refine lv_aload_n hx hb dL_refuses_238 rfl (lv_at hl 0 rfl) ?_
                      refine lv_bipush (v := 8) hx hb dL_refuses_239 (by decide) ?_
                      refine lv_iload_n hx hb dL_refuses_241 rfl (lv_at hl 2 rfl) ?_
                      refine lv_iload hx hb dL_refuses_242 (lv_at hl 4 rfl) ?_
                      refine lv_iconst (v := 0) hx hb dL_refuses_244 (by decide) ?_
                      obtain ⟨r19, w19, e19, h⟩ := zb2 h
                      refine zLSc (w := (zXW g h0 u w17)) (wr := []) (wc := (zXW g h0 u w17)) (wq := (zXW g h0 u w19)) (wp := (zXW g h0 u w19)) (As := [.ref h0, .int 8, .int v2, .int v4, .int 0]) (rest := []) (zWi_q g _ _) ⟨hx, hb, hml, hown, hts⟩ (kL_call l g h0 u w17 8 v2 v4 0 htr e19) (va_cwS 5 hts gL_refuses_L_call rfl rfl rfl hdS_L_call ⟨Nat.le_of_ble_eq_true rfl, Nat.le_of_ble_eq_true rfl⟩) hK hP hD hS hA hAm hN (zXW_fst g h0 u _ _) (List.Perm.refl _) (List.Perm.refl _) rfl hl.1 rfl (Nat.le_of_ble_eq_true rfl) ⟨by show _ ≤ 78; omega, by show _ ≤ 468; omega⟩ dL_refuses_245 (fun H locs hP hD hS => ?_)
                      replace hP : zP g (zXW g h0 u w19) H := hP
                      replace hD : va_D A (zXW g h0 u w19) := hD
                      refine lv_ldc hx hb hown (hts _ mL_refuses_40) dL_refuses_248 ?_
                      refine lv_icmp_ne (tgt := 577) hx hb dL_refuses_250 (by decide) (fun c20 => ?_) (fun c20 => ?_)
                      · replace h := zf c20 h
                        refine lv_iconst (v := 0) hx hb dL_refuses_577 (by decide) ?_
                        cases h
                        exact W.widen (by omega) (by omega) (zw_z hx hb hr hlocks (by decide) hP hS dL_refuses_578)
                      · replace h := zt c20 h
                        refine lv_aload_n hx hb dL_refuses_253 rfl (lv_at hl 0 rfl) ?_
                        refine lv_bipush (v := 8) hx hb dL_refuses_254 (by decide) ?_
                        refine lv_sipush (v := 200) hx hb dL_refuses_256 (by decide) ?_
                        refine lv_iload_n hx hb dL_refuses_259 rfl (lv_at hl 1 rfl) ?_
                        refine lv_bipush (v := 56) hx hb dL_refuses_260 (by decide) ?_
                        refine lv_irem hx hb dL_refuses_262 (by decide) ?_
                        refine lv_iadd hx hb dL_refuses_263 ?_
                        refine lv_bipush (v := 57) hx hb dL_refuses_264 (by decide) ?_
                        refine lv_iload_n hx hb dL_refuses_266 rfl (lv_at hl 1 rfl) ?_
                        refine lv_bipush (v := 43) hx hb dL_refuses_267 (by decide) ?_
                        refine lv_irem hx hb dL_refuses_269 (by decide) ?_
                        refine lv_iadd hx hb dL_refuses_270 ?_
                        refine lv_iconst (v := 0) hx hb dL_refuses_271 (by decide) ?_
                        obtain ⟨r21, w21, e21, h⟩ := zb2 h
                        refine zLSc (w := (zXW g h0 u w19)) (wr := []) (wc := (zXW g h0 u w19)) (wq := (zXW g h0 u w21)) (wp := (zXW g h0 u w21)) (As := [.ref h0, .int 8, .int (200 + (irem v1 56)), .int (57 + (irem v1 43)), .int 0]) (rest := []) (zWi_q g _ _) ⟨hx, hb, hml, hown, hts⟩ (kL_call l g h0 u w19 8 (200 + (irem v1 56)) (57 + (irem v1 43)) 0 htr e21) (va_cwS 5 hts gL_refuses_L_call rfl rfl rfl hdS_L_call ⟨Nat.le_of_ble_eq_true rfl, Nat.le_of_ble_eq_true rfl⟩) hK hP hD hS hA hAm hN (zXW_fst g h0 u _ _) (List.Perm.refl _) (List.Perm.refl _) rfl hl.1 rfl (Nat.le_of_ble_eq_true rfl) ⟨by show _ ≤ 78; omega, by show _ ≤ 468; omega⟩ dL_refuses_272 (fun H locs hP hD hS => ?_)
                        replace hP : zP g (zXW g h0 u w21) H := hP
                        replace hD : va_D A (zXW g h0 u w21) := hD
                        refine lv_ldc hx hb hown (hts _ mL_refuses_26) dL_refuses_275 ?_
                        refine lv_icmp_ne (tgt := 577) hx hb dL_refuses_277 (by decide) (fun c22 => ?_) (fun c22 => ?_)
                        · replace h := zf c22 h
                          refine lv_iconst (v := 0) hx hb dL_refuses_577 (by decide) ?_
                          cases h
                          exact W.widen (by omega) (by omega) (zw_z hx hb hr hlocks (by decide) hP hS dL_refuses_578)
                        · replace h := zt c22 h
                          refine lv_aload_n hx hb dL_refuses_280 rfl (lv_at hl 0 rfl) ?_
                          refine lv_bipush (v := 9) hx hb dL_refuses_281 (by decide) ?_
                          refine lv_iconst (v := 3) hx hb dL_refuses_283 (by decide) ?_
                          refine lv_iload_n hx hb dL_refuses_284 rfl (lv_at hl 1 rfl) ?_
                          refine lv_bipush (v := 9) hx hb dL_refuses_285 (by decide) ?_
                          refine lv_irem hx hb dL_refuses_287 (by decide) ?_
                          refine lv_iadd hx hb dL_refuses_288 ?_
                          refine lv_iload_n hx hb dL_refuses_289 rfl (lv_at hl 2 rfl) ?_
                          refine lv_iload hx hb dL_refuses_290 (lv_at hl 4 rfl) ?_
                          obtain ⟨r23, w23, e23, h⟩ := zb2 h
                          refine zLSc (w := (zXW g h0 u w21)) (wr := []) (wc := (zXW g h0 u w21)) (wq := (zXW g h0 u w23)) (wp := (zXW g h0 u w23)) (As := [.ref h0, .int 9, .int (3 + (irem v1 9)), .int v2, .int v4]) (rest := []) (zWi_q g _ _) ⟨hx, hb, hml, hown, hts⟩ (kL_call l g h0 u w21 9 (3 + (irem v1 9)) v2 v4 htr e23) (va_cwS 5 hts gL_refuses_L_call rfl rfl rfl hdS_L_call ⟨Nat.le_of_ble_eq_true rfl, Nat.le_of_ble_eq_true rfl⟩) hK hP hD hS hA hAm hN (zXW_fst g h0 u _ _) (List.Perm.refl _) (List.Perm.refl _) rfl hl.1 rfl (Nat.le_of_ble_eq_true rfl) ⟨by show _ ≤ 78; omega, by show _ ≤ 468; omega⟩ dL_refuses_292 (fun H locs hP hD hS => ?_)
                          replace hP : zP g (zXW g h0 u w23) H := hP
                          replace hD : va_D A (zXW g h0 u w23) := hD
                          refine lv_ldc hx hb hown (hts _ mL_refuses_40) dL_refuses_295 ?_
                          refine lv_icmp_ne (tgt := 577) hx hb dL_refuses_297 (by decide) (fun c24 => ?_) (fun c24 => ?_)
                          · replace h := zf c24 h
                            refine lv_iconst (v := 0) hx hb dL_refuses_577 (by decide) ?_
                            cases h
                            exact W.widen (by omega) (by omega) (zw_z hx hb hr hlocks (by decide) hP hS dL_refuses_578)
                          · replace h := zt c24 h
                            refine lv_aload_n hx hb dL_refuses_300 rfl (lv_at hl 0 rfl) ?_
                            refine lv_bipush (v := 9) hx hb dL_refuses_301 (by decide) ?_
                            refine lv_iload_n hx hb dL_refuses_303 rfl (lv_at hl 1 rfl) ?_
                            refine lv_iconst (v := 3) hx hb dL_refuses_304 (by decide) ?_
                            refine lv_irem hx hb dL_refuses_305 (by decide) ?_
                            refine lv_iload_n hx hb dL_refuses_306 rfl (lv_at hl 2 rfl) ?_
                            refine lv_iload hx hb dL_refuses_307 (lv_at hl 4 rfl) ?_
                            obtain ⟨r25, w25, e25, h⟩ := zb2 h
                            refine zLSc (w := (zXW g h0 u w23)) (wr := []) (wc := (zXW g h0 u w23)) (wq := (zXW g h0 u w25)) (wp := (zXW g h0 u w25)) (As := [.ref h0, .int 9, .int (irem v1 3), .int v2, .int v4]) (rest := []) (zWi_q g _ _) ⟨hx, hb, hml, hown, hts⟩ (kL_call l g h0 u w23 9 (irem v1 3) v2 v4 htr e25) (va_cwS 5 hts gL_refuses_L_call rfl rfl rfl hdS_L_call ⟨Nat.le_of_ble_eq_true rfl, Nat.le_of_ble_eq_true rfl⟩) hK hP hD hS hA hAm hN (zXW_fst g h0 u _ _) (List.Perm.refl _) (List.Perm.refl _) rfl hl.1 rfl (Nat.le_of_ble_eq_true rfl) ⟨by show _ ≤ 78; omega, by show _ ≤ 468; omega⟩ dL_refuses_309 (fun H locs hP hD hS => ?_)
                            replace hP : zP g (zXW g h0 u w25) H := hP
                            replace hD : va_D A (zXW g h0 u w25) := hD
                            refine lv_ldc hx hb hown (hts _ mL_refuses_40) dL_refuses_312 ?_
                            refine lv_icmp_ne (tgt := 577) hx hb dL_refuses_314 (by decide) (fun c26 => ?_) (fun c26 => ?_)
                            · replace h := zf c26 h
                              refine lv_iconst (v := 0) hx hb dL_refuses_577 (by decide) ?_
                              cases h
                              exact W.widen (by omega) (by omega) (zw_z hx hb hr hlocks (by decide) hP hS dL_refuses_578)
                            · replace h := zt c26 h
                              refine lv_aload_n hx hb dL_refuses_317 rfl (lv_at hl 0 rfl) ?_
                              refine lv_bipush (v := 9) hx hb dL_refuses_318 (by decide) ?_
                              refine lv_iload_n hx hb dL_refuses_320 rfl (lv_at hl 1 rfl) ?_
                              refine lv_iconst (v := 3) hx hb dL_refuses_321 (by decide) ?_
                              refine lv_irem hx hb dL_refuses_322 (by decide) ?_
                              refine lv_sipush (v := 255) hx hb dL_refuses_323 (by decide) ?_
                              refine lv_iconst (v := 2) hx hb dL_refuses_326 (by decide) ?_
                              refine lv_iload_n hx hb dL_refuses_327 rfl (lv_at hl 1 rfl) ?_
                              refine lv_bipush (v := 90) hx hb dL_refuses_328 (by decide) ?_
                              refine lv_irem hx hb dL_refuses_330 (by decide) ?_
                              refine lv_iadd hx hb dL_refuses_331 ?_
                              obtain ⟨r27, w27, e27, h⟩ := zb2 h
                              refine zLSc (w := (zXW g h0 u w25)) (wr := []) (wc := (zXW g h0 u w25)) (wq := (zXW g h0 u w27)) (wp := (zXW g h0 u w27)) (As := [.ref h0, .int 9, .int (irem v1 3), .int 255, .int (2 + (irem v1 90))]) (rest := []) (zWi_q g _ _) ⟨hx, hb, hml, hown, hts⟩ (kL_call l g h0 u w25 9 (irem v1 3) 255 (2 + (irem v1 90)) htr e27) (va_cwS 5 hts gL_refuses_L_call rfl rfl rfl hdS_L_call ⟨Nat.le_of_ble_eq_true rfl, Nat.le_of_ble_eq_true rfl⟩) hK hP hD hS hA hAm hN (zXW_fst g h0 u _ _) (List.Perm.refl _) (List.Perm.refl _) rfl hl.1 rfl (Nat.le_of_ble_eq_true rfl) ⟨by show _ ≤ 78; omega, by show _ ≤ 468; omega⟩ dL_refuses_332 (fun H locs hP hD hS => ?_)
                              replace hP : zP g (zXW g h0 u w27) H := hP
                              replace hD : va_D A (zXW g h0 u w27) := hD
                              refine lv_ldc hx hb hown (hts _ mL_refuses_26) dL_refuses_335 ?_
                              refine lv_icmp_ne (tgt := 577) hx hb dL_refuses_337 (by decide) (fun c28 => ?_) (fun c28 => ?_)
                              · replace h := zf c28 h
                                refine lv_iconst (v := 0) hx hb dL_refuses_577 (by decide) ?_
                                cases h
                                exact W.widen (by omega) (by omega) (zw_z hx hb hr hlocks (by decide) hP hS dL_refuses_578)
                              · replace h := zt c28 h
                                refine lv_aload_n hx hb dL_refuses_340 rfl (lv_at hl 0 rfl) ?_
                                refine lv_bipush (v := 10) hx hb dL_refuses_341 (by decide) ?_
                                refine lv_iconst (v := 3) hx hb dL_refuses_343 (by decide) ?_
                                refine lv_iload_n hx hb dL_refuses_344 rfl (lv_at hl 1 rfl) ?_
                                refine lv_bipush (v := 9) hx hb dL_refuses_345 (by decide) ?_
                                refine lv_irem hx hb dL_refuses_347 (by decide) ?_
                                refine lv_iadd hx hb dL_refuses_348 ?_
                                refine lv_iconst (v := 0) hx hb dL_refuses_349 (by decide) ?_
                                refine lv_iconst (v := 0) hx hb dL_refuses_350 (by decide) ?_
                                obtain ⟨r29, w29, e29, h⟩ := zb2 h
                                refine zLSc (w := (zXW g h0 u w27)) (wr := []) (wc := (zXW g h0 u w27)) (wq := (zXW g h0 u w29)) (wp := (zXW g h0 u w29)) (As := [.ref h0, .int 10, .int (3 + (irem v1 9)), .int 0, .int 0]) (rest := []) (zWi_q g _ _) ⟨hx, hb, hml, hown, hts⟩ (kL_call l g h0 u w27 10 (3 + (irem v1 9)) 0 0 htr e29) (va_cwS 5 hts gL_refuses_L_call rfl rfl rfl hdS_L_call ⟨Nat.le_of_ble_eq_true rfl, Nat.le_of_ble_eq_true rfl⟩) hK hP hD hS hA hAm hN (zXW_fst g h0 u _ _) (List.Perm.refl _) (List.Perm.refl _) rfl hl.1 rfl (Nat.le_of_ble_eq_true rfl) ⟨by show _ ≤ 78; omega, by show _ ≤ 468; omega⟩ dL_refuses_351 (fun H locs hP hD hS => ?_)
                                replace hP : zP g (zXW g h0 u w29) H := hP
                                replace hD : va_D A (zXW g h0 u w29) := hD
                                refine lv_ldc hx hb hown (hts _ mL_refuses_40) dL_refuses_354 ?_
                                refine lv_icmp_ne (tgt := 577) hx hb dL_refuses_356 (by decide) (fun c30 => ?_) (fun c30 => ?_)
                                · replace h := zf c30 h
                                  refine lv_iconst (v := 0) hx hb dL_refuses_577 (by decide) ?_
                                  cases h
                                  exact W.widen (by omega) (by omega) (zw_z hx hb hr hlocks (by decide) hP hS dL_refuses_578)
                                · replace h := zt c30 h
                                  refine lv_aload_n hx hb dL_refuses_359 rfl (lv_at hl 0 rfl) ?_
                                  refine lv_bipush (v := 11) hx hb dL_refuses_360 (by decide) ?_
                                  refine lv_bipush (v := 61) hx hb dL_refuses_362 (by decide) ?_
                                  refine lv_iload_n hx hb dL_refuses_364 rfl (lv_at hl 1 rfl) ?_
                                  refine lv_bipush (v := 9) hx hb dL_refuses_365 (by decide) ?_
                                  refine lv_irem hx hb dL_refuses_367 (by decide) ?_
                                  refine lv_iadd hx hb dL_refuses_368 ?_
                                  refine lv_iconst (v := 0) hx hb dL_refuses_369 (by decide) ?_
                                  refine lv_iconst (v := 0) hx hb dL_refuses_370 (by decide) ?_
                                  obtain ⟨r31, w31, e31, h⟩ := zb2 h
                                  refine zLSc (w := (zXW g h0 u w29)) (wr := []) (wc := (zXW g h0 u w29)) (wq := (zXW g h0 u w31)) (wp := (zXW g h0 u w31)) (As := [.ref h0, .int 11, .int (61 + (irem v1 9)), .int 0, .int 0]) (rest := []) (zWi_q g _ _) ⟨hx, hb, hml, hown, hts⟩ (kL_call l g h0 u w29 11 (61 + (irem v1 9)) 0 0 htr e31) (va_cwS 5 hts gL_refuses_L_call rfl rfl rfl hdS_L_call ⟨Nat.le_of_ble_eq_true rfl, Nat.le_of_ble_eq_true rfl⟩) hK hP hD hS hA hAm hN (zXW_fst g h0 u _ _) (List.Perm.refl _) (List.Perm.refl _) rfl hl.1 rfl (Nat.le_of_ble_eq_true rfl) ⟨by show _ ≤ 78; omega, by show _ ≤ 468; omega⟩ dL_refuses_371 (fun H locs hP hD hS => ?_)
                                  replace hP : zP g (zXW g h0 u w31) H := hP
                                  replace hD : va_D A (zXW g h0 u w31) := hD
                                  refine lv_ldc hx hb hown (hts _ mL_refuses_15) dL_refuses_374 ?_
                                  refine lv_icmp_ne (tgt := 577) hx hb dL_refuses_376 (by decide) (fun c32 => ?_) (fun c32 => ?_)
                                  · replace h := zf c32 h
                                    refine lv_iconst (v := 0) hx hb dL_refuses_577 (by decide) ?_
                                    cases h
                                    exact W.widen (by omega) (by omega) (zw_z hx hb hr hlocks (by decide) hP hS dL_refuses_578)
                                  · replace h := zt c32 h
                                    refine lv_aload_n hx hb dL_refuses_379 rfl (lv_at hl 0 rfl) ?_
                                    refine lv_bipush (v := 12) hx hb dL_refuses_380 (by decide) ?_
                                    refine lv_iload_n hx hb dL_refuses_382 rfl (lv_at hl 1 rfl) ?_
                                    refine lv_bipush (v := 6) hx hb dL_refuses_383 (by decide) ?_
                                    refine lv_irem hx hb dL_refuses_385 (by decide) ?_
                                    refine lv_bipush (v := 51) hx hb dL_refuses_386 (by decide) ?_
                                    refine lv_iload_n hx hb dL_refuses_388 rfl (lv_at hl 1 rfl) ?_
                                    refine lv_bipush (v := 9) hx hb dL_refuses_389 (by decide) ?_
                                    refine lv_irem hx hb dL_refuses_391 (by decide) ?_
                                    refine lv_iadd hx hb dL_refuses_392 ?_
                                    refine lv_iconst (v := 0) hx hb dL_refuses_393 (by decide) ?_
                                    obtain ⟨r33, w33, e33, h⟩ := zb2 h
                                    refine zLSc (w := (zXW g h0 u w31)) (wr := []) (wc := (zXW g h0 u w31)) (wq := (zXW g h0 u w33)) (wp := (zXW g h0 u w33)) (As := [.ref h0, .int 12, .int (irem v1 6), .int (51 + (irem v1 9)), .int 0]) (rest := []) (zWi_q g _ _) ⟨hx, hb, hml, hown, hts⟩ (kL_call l g h0 u w31 12 (irem v1 6) (51 + (irem v1 9)) 0 htr e33) (va_cwS 5 hts gL_refuses_L_call rfl rfl rfl hdS_L_call ⟨Nat.le_of_ble_eq_true rfl, Nat.le_of_ble_eq_true rfl⟩) hK hP hD hS hA hAm hN (zXW_fst g h0 u _ _) (List.Perm.refl _) (List.Perm.refl _) rfl hl.1 rfl (Nat.le_of_ble_eq_true rfl) ⟨by show _ ≤ 78; omega, by show _ ≤ 468; omega⟩ dL_refuses_394 (fun H locs hP hD hS => ?_)
                                    replace hP : zP g (zXW g h0 u w33) H := hP
                                    replace hD : va_D A (zXW g h0 u w33) := hD
                                    refine lv_ldc hx hb hown (hts _ mL_refuses_15) dL_refuses_397 ?_
                                    refine lv_icmp_ne (tgt := 577) hx hb dL_refuses_399 (by decide) (fun c34 => ?_) (fun c34 => ?_)
                                    · replace h := zf c34 h
                                      refine lv_iconst (v := 0) hx hb dL_refuses_577 (by decide) ?_
                                      cases h
                                      exact W.widen (by omega) (by omega) (zw_z hx hb hr hlocks (by decide) hP hS dL_refuses_578)
                                    · replace h := zt c34 h
                                      refine lv_aload_n hx hb dL_refuses_402 rfl (lv_at hl 0 rfl) ?_
                                      refine lv_bipush (v := 14) hx hb dL_refuses_403 (by decide) ?_
                                      refine lv_iconst (v := 3) hx hb dL_refuses_405 (by decide) ?_
                                      refine lv_iload_n hx hb dL_refuses_406 rfl (lv_at hl 1 rfl) ?_
                                      refine lv_bipush (v := 9) hx hb dL_refuses_407 (by decide) ?_
                                      refine lv_irem hx hb dL_refuses_409 (by decide) ?_
                                      refine lv_iadd hx hb dL_refuses_410 ?_
                                      refine lv_iconst (v := 0) hx hb dL_refuses_411 (by decide) ?_
                                      refine lv_iconst (v := 0) hx hb dL_refuses_412 (by decide) ?_
                                      obtain ⟨r35, w35, e35, h⟩ := zb2 h
                                      refine zLSc (w := (zXW g h0 u w33)) (wr := []) (wc := (zXW g h0 u w33)) (wq := (zXW g h0 u w35)) (wp := (zXW g h0 u w35)) (As := [.ref h0, .int 14, .int (3 + (irem v1 9)), .int 0, .int 0]) (rest := []) (zWi_q g _ _) ⟨hx, hb, hml, hown, hts⟩ (kL_call l g h0 u w33 14 (3 + (irem v1 9)) 0 0 htr e35) (va_cwS 5 hts gL_refuses_L_call rfl rfl rfl hdS_L_call ⟨Nat.le_of_ble_eq_true rfl, Nat.le_of_ble_eq_true rfl⟩) hK hP hD hS hA hAm hN (zXW_fst g h0 u _ _) (List.Perm.refl _) (List.Perm.refl _) rfl hl.1 rfl (Nat.le_of_ble_eq_true rfl) ⟨by show _ ≤ 78; omega, by show _ ≤ 468; omega⟩ dL_refuses_413 (fun H locs hP hD hS => ?_)
                                      replace hP : zP g (zXW g h0 u w35) H := hP
                                      replace hD : va_D A (zXW g h0 u w35) := hD
                                      refine lv_ldc hx hb hown (hts _ mL_refuses_15) dL_refuses_416 ?_
                                      refine lv_icmp_ne (tgt := 577) hx hb dL_refuses_418 (by decide) (fun c36 => ?_) (fun c36 => ?_)
                                      · replace h := zf c36 h
                                        refine lv_iconst (v := 0) hx hb dL_refuses_577 (by decide) ?_
                                        cases h
                                        exact W.widen (by omega) (by omega) (zw_z hx hb hr hlocks (by decide) hP hS dL_refuses_578)
                                      · replace h := zt c36 h
                                        refine lv_aload_n hx hb dL_refuses_421 rfl (lv_at hl 0 rfl) ?_
                                        refine lv_bipush (v := 15) hx hb dL_refuses_422 (by decide) ?_
                                        refine lv_iload_n hx hb dL_refuses_424 rfl (lv_at hl 2 rfl) ?_
                                        refine lv_iconst (v := 0) hx hb dL_refuses_425 (by decide) ?_
                                        refine lv_iconst (v := 0) hx hb dL_refuses_426 (by decide) ?_
                                        obtain ⟨r37, w37, e37, h⟩ := zb2 h
                                        refine zLSc (w := (zXW g h0 u w35)) (wr := []) (wc := (zXW g h0 u w35)) (wq := (zXW g h0 u w37)) (wp := (zXW g h0 u w37)) (As := [.ref h0, .int 15, .int v2, .int 0, .int 0]) (rest := []) (zWi_q g _ _) ⟨hx, hb, hml, hown, hts⟩ (kL_call l g h0 u w35 15 v2 0 0 htr e37) (va_cwS 5 hts gL_refuses_L_call rfl rfl rfl hdS_L_call ⟨Nat.le_of_ble_eq_true rfl, Nat.le_of_ble_eq_true rfl⟩) hK hP hD hS hA hAm hN (zXW_fst g h0 u _ _) (List.Perm.refl _) (List.Perm.refl _) rfl hl.1 rfl (Nat.le_of_ble_eq_true rfl) ⟨by show _ ≤ 78; omega, by show _ ≤ 468; omega⟩ dL_refuses_427 (fun H locs hP hD hS => ?_)
                                        replace hP : zP g (zXW g h0 u w37) H := hP
                                        replace hD : va_D A (zXW g h0 u w37) := hD
                                        refine lv_ldc hx hb hown (hts _ mL_refuses_40) dL_refuses_430 ?_
                                        refine lv_icmp_ne (tgt := 577) hx hb dL_refuses_432 (by decide) (fun c38 => ?_) (fun c38 => ?_)
                                        · replace h := zf c38 h
                                          refine lv_iconst (v := 0) hx hb dL_refuses_577 (by decide) ?_
                                          cases h
                                          exact W.widen (by omega) (by omega) (zw_z hx hb hr hlocks (by decide) hP hS dL_refuses_578)
                                        · replace h := zt c38 h
                                          refine lv_aload_n hx hb dL_refuses_435 rfl (lv_at hl 0 rfl) ?_
                                          refine lv_bipush (v := 16) hx hb dL_refuses_436 (by decide) ?_
                                          refine lv_bipush (v := 101) hx hb dL_refuses_438 (by decide) ?_
                                          refine lv_iload_n hx hb dL_refuses_440 rfl (lv_at hl 1 rfl) ?_
                                          refine lv_bipush (v := 9) hx hb dL_refuses_441 (by decide) ?_
                                          refine lv_irem hx hb dL_refuses_443 (by decide) ?_
                                          refine lv_iadd hx hb dL_refuses_444 ?_
                                          refine lv_iconst (v := 0) hx hb dL_refuses_445 (by decide) ?_
                                          refine lv_iconst (v := 0) hx hb dL_refuses_446 (by decide) ?_
                                          obtain ⟨r39, w39, e39, h⟩ := zb2 h
                                          refine zLSc (w := (zXW g h0 u w37)) (wr := []) (wc := (zXW g h0 u w37)) (wq := (zXW g h0 u w39)) (wp := (zXW g h0 u w39)) (As := [.ref h0, .int 16, .int (101 + (irem v1 9)), .int 0, .int 0]) (rest := []) (zWi_q g _ _) ⟨hx, hb, hml, hown, hts⟩ (kL_call l g h0 u w37 16 (101 + (irem v1 9)) 0 0 htr e39) (va_cwS 5 hts gL_refuses_L_call rfl rfl rfl hdS_L_call ⟨Nat.le_of_ble_eq_true rfl, Nat.le_of_ble_eq_true rfl⟩) hK hP hD hS hA hAm hN (zXW_fst g h0 u _ _) (List.Perm.refl _) (List.Perm.refl _) rfl hl.1 rfl (Nat.le_of_ble_eq_true rfl) ⟨by show _ ≤ 78; omega, by show _ ≤ 468; omega⟩ dL_refuses_447 (fun H locs hP hD hS => ?_)
                                          replace hP : zP g (zXW g h0 u w39) H := hP
                                          replace hD : va_D A (zXW g h0 u w39) := hD
                                          refine lv_ldc hx hb hown (hts _ mL_refuses_15) dL_refuses_450 ?_
                                          refine lv_icmp_ne (tgt := 577) hx hb dL_refuses_452 (by decide) (fun c40 => ?_) (fun c40 => ?_)
                                          · replace h := zf c40 h
                                            refine lv_iconst (v := 0) hx hb dL_refuses_577 (by decide) ?_
                                            cases h
                                            exact W.widen (by omega) (by omega) (zw_z hx hb hr hlocks (by decide) hP hS dL_refuses_578)
                                          · replace h := zt c40 h
                                            refine lv_aload_n hx hb dL_refuses_455 rfl (lv_at hl 0 rfl) ?_
                                            refine lv_bipush (v := 17) hx hb dL_refuses_456 (by decide) ?_
                                            refine lv_bipush (v := 61) hx hb dL_refuses_458 (by decide) ?_
                                            refine lv_iload_n hx hb dL_refuses_460 rfl (lv_at hl 1 rfl) ?_
                                            refine lv_bipush (v := 9) hx hb dL_refuses_461 (by decide) ?_
                                            refine lv_irem hx hb dL_refuses_463 (by decide) ?_
                                            refine lv_iadd hx hb dL_refuses_464 ?_
                                            refine lv_iconst (v := 0) hx hb dL_refuses_465 (by decide) ?_
                                            refine lv_iconst (v := 0) hx hb dL_refuses_466 (by decide) ?_
                                            obtain ⟨r41, w41, e41, h⟩ := zb2 h
                                            refine zLSc (w := (zXW g h0 u w39)) (wr := []) (wc := (zXW g h0 u w39)) (wq := (zXW g h0 u w41)) (wp := (zXW g h0 u w41)) (As := [.ref h0, .int 17, .int (61 + (irem v1 9)), .int 0, .int 0]) (rest := []) (zWi_q g _ _) ⟨hx, hb, hml, hown, hts⟩ (kL_call l g h0 u w39 17 (61 + (irem v1 9)) 0 0 htr e41) (va_cwS 5 hts gL_refuses_L_call rfl rfl rfl hdS_L_call ⟨Nat.le_of_ble_eq_true rfl, Nat.le_of_ble_eq_true rfl⟩) hK hP hD hS hA hAm hN (zXW_fst g h0 u _ _) (List.Perm.refl _) (List.Perm.refl _) rfl hl.1 rfl (Nat.le_of_ble_eq_true rfl) ⟨by show _ ≤ 78; omega, by show _ ≤ 468; omega⟩ dL_refuses_467 (fun H locs hP hD hS => ?_)
                                            replace hP : zP g (zXW g h0 u w41) H := hP
                                            replace hD : va_D A (zXW g h0 u w41) := hD
                                            refine lv_ldc hx hb hown (hts _ mL_refuses_15) dL_refuses_470 ?_
                                            refine lv_icmp_ne (tgt := 577) hx hb dL_refuses_472 (by decide) (fun c42 => ?_) (fun c42 => ?_)
                                            · replace h := zf c42 h
                                              refine lv_iconst (v := 0) hx hb dL_refuses_577 (by decide) ?_
                                              cases h
                                              exact W.widen (by omega) (by omega) (zw_z hx hb hr hlocks (by decide) hP hS dL_refuses_578)
                                            · replace h := zt c42 h
                                              refine lv_aload_n hx hb dL_refuses_475 rfl (lv_at hl 0 rfl) ?_
                                              refine lv_bipush (v := 18) hx hb dL_refuses_476 (by decide) ?_
                                              refine lv_iload_n hx hb dL_refuses_478 rfl (lv_at hl 2 rfl) ?_
                                              refine lv_iload hx hb dL_refuses_479 (lv_at hl 4 rfl) ?_
                                              refine lv_iconst (v := 0) hx hb dL_refuses_481 (by decide) ?_
                                              obtain ⟨r43, w43, e43, h⟩ := zb2 h
                                              refine zLSc (w := (zXW g h0 u w41)) (wr := []) (wc := (zXW g h0 u w41)) (wq := (zXW g h0 u w43)) (wp := (zXW g h0 u w43)) (As := [.ref h0, .int 18, .int v2, .int v4, .int 0]) (rest := []) (zWi_q g _ _) ⟨hx, hb, hml, hown, hts⟩ (kL_call l g h0 u w41 18 v2 v4 0 htr e43) (va_cwS 5 hts gL_refuses_L_call rfl rfl rfl hdS_L_call ⟨Nat.le_of_ble_eq_true rfl, Nat.le_of_ble_eq_true rfl⟩) hK hP hD hS hA hAm hN (zXW_fst g h0 u _ _) (List.Perm.refl _) (List.Perm.refl _) rfl hl.1 rfl (Nat.le_of_ble_eq_true rfl) ⟨by show _ ≤ 78; omega, by show _ ≤ 468; omega⟩ dL_refuses_482 (fun H locs hP hD hS => ?_)
                                              replace hP : zP g (zXW g h0 u w43) H := hP
                                              replace hD : va_D A (zXW g h0 u w43) := hD
                                              refine lv_ldc hx hb hown (hts _ mL_refuses_40) dL_refuses_485 ?_
                                              refine lv_icmp_ne (tgt := 577) hx hb dL_refuses_487 (by decide) (fun c44 => ?_) (fun c44 => ?_)
                                              · replace h := zf c44 h
                                                refine lv_iconst (v := 0) hx hb dL_refuses_577 (by decide) ?_
                                                cases h
                                                exact W.widen (by omega) (by omega) (zw_z hx hb hr hlocks (by decide) hP hS dL_refuses_578)
                                              · replace h := zt c44 h
                                                refine lv_aload_n hx hb dL_refuses_490 rfl (lv_at hl 0 rfl) ?_
                                                refine lv_bipush (v := 19) hx hb dL_refuses_491 (by decide) ?_
                                                refine lv_iconst (v := 2) hx hb dL_refuses_493 (by decide) ?_
                                                refine lv_iload_n hx hb dL_refuses_494 rfl (lv_at hl 1 rfl) ?_
                                                refine lv_bipush (v := 50) hx hb dL_refuses_495 (by decide) ?_
                                                refine lv_irem hx hb dL_refuses_497 (by decide) ?_
                                                refine lv_iadd hx hb dL_refuses_498 ?_
                                                refine lv_iconst (v := 0) hx hb dL_refuses_499 (by decide) ?_
                                                refine lv_iconst (v := 0) hx hb dL_refuses_500 (by decide) ?_
                                                obtain ⟨r45, w45, e45, h⟩ := zb2 h
                                                refine zLSc (w := (zXW g h0 u w43)) (wr := []) (wc := (zXW g h0 u w43)) (wq := (zXW g h0 u w45)) (wp := (zXW g h0 u w45)) (As := [.ref h0, .int 19, .int (2 + (irem v1 50)), .int 0, .int 0]) (rest := []) (zWi_q g _ _) ⟨hx, hb, hml, hown, hts⟩ (kL_call l g h0 u w43 19 (2 + (irem v1 50)) 0 0 htr e45) (va_cwS 5 hts gL_refuses_L_call rfl rfl rfl hdS_L_call ⟨Nat.le_of_ble_eq_true rfl, Nat.le_of_ble_eq_true rfl⟩) hK hP hD hS hA hAm hN (zXW_fst g h0 u _ _) (List.Perm.refl _) (List.Perm.refl _) rfl hl.1 rfl (Nat.le_of_ble_eq_true rfl) ⟨by show _ ≤ 78; omega, by show _ ≤ 468; omega⟩ dL_refuses_501 (fun H locs hP hD hS => ?_)
                                                replace hP : zP g (zXW g h0 u w45) H := hP
                                                replace hD : va_D A (zXW g h0 u w45) := hD
                                                refine lv_ldc hx hb hown (hts _ mL_refuses_40) dL_refuses_504 ?_
                                                refine lv_icmp_ne (tgt := 577) hx hb dL_refuses_506 (by decide) (fun c46 => ?_) (fun c46 => ?_)
                                                · replace h := zf c46 h
                                                  refine lv_iconst (v := 0) hx hb dL_refuses_577 (by decide) ?_
                                                  cases h
                                                  exact W.widen (by omega) (by omega) (zw_z hx hb hr hlocks (by decide) hP hS dL_refuses_578)
                                                · replace h := zt c46 h
                                                  refine lv_aload_n hx hb dL_refuses_509 rfl (lv_at hl 0 rfl) ?_
                                                  refine lv_bipush (v := 20) hx hb dL_refuses_510 (by decide) ?_
                                                  refine lv_iconst (v := (-1)) hx hb dL_refuses_512 (by decide) ?_
                                                  refine lv_iload_n hx hb dL_refuses_513 rfl (lv_at hl 1 rfl) ?_
                                                  refine lv_bipush (v := 9) hx hb dL_refuses_514 (by decide) ?_
                                                  refine lv_irem hx hb dL_refuses_516 (by decide) ?_
                                                  refine lv_isub hx hb dL_refuses_517 ?_
                                                  refine lv_iconst (v := 0) hx hb dL_refuses_518 (by decide) ?_
                                                  refine lv_iconst (v := 0) hx hb dL_refuses_519 (by decide) ?_
                                                  obtain ⟨r47, w47, e47, h⟩ := zb2 h
                                                  refine zLSc (w := (zXW g h0 u w45)) (wr := []) (wc := (zXW g h0 u w45)) (wq := (zXW g h0 u w47)) (wp := (zXW g h0 u w47)) (As := [.ref h0, .int 20, .int ((-1) - (irem v1 9)), .int 0, .int 0]) (rest := []) (zWi_q g _ _) ⟨hx, hb, hml, hown, hts⟩ (kL_call l g h0 u w45 20 ((-1) - (irem v1 9)) 0 0 htr e47) (va_cwS 5 hts gL_refuses_L_call rfl rfl rfl hdS_L_call ⟨Nat.le_of_ble_eq_true rfl, Nat.le_of_ble_eq_true rfl⟩) hK hP hD hS hA hAm hN (zXW_fst g h0 u _ _) (List.Perm.refl _) (List.Perm.refl _) rfl hl.1 rfl (Nat.le_of_ble_eq_true rfl) ⟨by show _ ≤ 78; omega, by show _ ≤ 468; omega⟩ dL_refuses_520 (fun H locs hP hD hS => ?_)
                                                  replace hP : zP g (zXW g h0 u w47) H := hP
                                                  replace hD : va_D A (zXW g h0 u w47) := hD
                                                  refine lv_ldc hx hb hown (hts _ mL_refuses_40) dL_refuses_523 ?_
                                                  refine lv_icmp_ne (tgt := 577) hx hb dL_refuses_525 (by decide) (fun c48 => ?_) (fun c48 => ?_)
                                                  · replace h := zf c48 h
                                                    refine lv_iconst (v := 0) hx hb dL_refuses_577 (by decide) ?_
                                                    cases h
                                                    exact W.widen (by omega) (by omega) (zw_z hx hb hr hlocks (by decide) hP hS dL_refuses_578)
                                                  · replace h := zt c48 h
                                                    refine lv_aload_n hx hb dL_refuses_528 rfl (lv_at hl 0 rfl) ?_
                                                    refine lv_iconst (v := 0) hx hb dL_refuses_529 (by decide) ?_
                                                    refine lv_lconst (v := 0) hx hb dL_refuses_530 (by decide) ?_
                                                    obtain ⟨r49, w49, e49, h⟩ := zb2 h
                                                    refine zLSw (w := (zXW g h0 u w47)) (wr := []) (wc := (zXW g h0 u w47)) (wq := (zXW g h0 u w49)) (wp := (zXW g h0 u w49)) (As := [.ref h0, .int 0, .long 0]) (rest := []) (zWi_q g _ _) ⟨hx, hb, hml, hown, hts⟩ (kL_tryScript l g h0 u w47 0 0 htr e49) (vx_cwSW 3 hts gL_refuses_L_tryScript rfl rfl rfl hdS_L_tryScript ⟨Nat.le_of_ble_eq_true rfl, Nat.le_of_ble_eq_true rfl⟩) hK hP hD hS hA hAm hN (zXW_fst g h0 u _ _) (List.Perm.refl _) (List.Perm.refl _) rfl hl.1 rfl (Nat.le_of_ble_eq_true rfl) ⟨by show _ ≤ 78; omega, by show _ ≤ 468; omega⟩ dL_refuses_531 (fun H locs hP hD hS => ?_)
                                                    replace hP : zP g (zXW g h0 u w49) H := hP
                                                    replace hD : va_D A (zXW g h0 u w49) := hD
                                                    refine lv_ldc hx hb hown (hts _ mL_refuses_15) dL_refuses_534 ?_
                                                    refine lv_icmp_ne (tgt := 577) hx hb dL_refuses_536 (by decide) (fun c50 => ?_) (fun c50 => ?_)
                                                    · replace h := zf c50 h
                                                      refine lv_iconst (v := 0) hx hb dL_refuses_577 (by decide) ?_
                                                      cases h
                                                      exact W.widen (by omega) (by omega) (zw_z hx hb hr hlocks (by decide) hP hS dL_refuses_578)
                                                    · replace h := zt c50 h
                                                      refine lv_aload_n hx hb dL_refuses_539 rfl (lv_at hl 0 rfl) ?_
                                                      refine lv_iconst (v := 1) hx hb dL_refuses_540 (by decide) ?_
                                                      refine lv_ldc2 hx hb hown (hts _ mL_refuses_172) dL_refuses_541 ?_
                                                      refine lv_iload_n hx hb dL_refuses_544 rfl (lv_at hl 1 rfl) ?_
                                                      refine lv_i2l (v := v1.toInt64) hx hb dL_refuses_545 rfl ?_
                                                      refine lv_ladd hx hb dL_refuses_546 ?_
                                                      obtain ⟨r51, w51, e51, h⟩ := zb2 h
                                                      refine zLSw (w := (zXW g h0 u w49)) (wr := []) (wc := (zXW g h0 u w49)) (wq := (zXW g h0 u w51)) (wp := (zXW g h0 u w51)) (As := [.ref h0, .int 1, .long ((1000000) + v1.toInt64)]) (rest := []) (zWi_q g _ _) ⟨hx, hb, hml, hown, hts⟩ (kL_tryScript l g h0 u w49 1 ((1000000) + v1.toInt64) htr e51) (vx_cwSW 3 hts gL_refuses_L_tryScript rfl rfl rfl hdS_L_tryScript ⟨Nat.le_of_ble_eq_true rfl, Nat.le_of_ble_eq_true rfl⟩) hK hP hD hS hA hAm hN (zXW_fst g h0 u _ _) (List.Perm.refl _) (List.Perm.refl _) rfl hl.1 rfl (Nat.le_of_ble_eq_true rfl) ⟨by show _ ≤ 78; omega, by show _ ≤ 468; omega⟩ dL_refuses_547 (fun H locs hP hD hS => ?_)
                                                      replace hP : zP g (zXW g h0 u w51) H := hP
                                                      replace hD : va_D A (zXW g h0 u w51) := hD
                                                      refine lv_ldc hx hb hown (hts _ mL_refuses_15) dL_refuses_550 ?_
                                                      refine lv_icmp_ne (tgt := 577) hx hb dL_refuses_552 (by decide) (fun c52 => ?_) (fun c52 => ?_)
                                                      · replace h := zf c52 h
                                                        refine lv_iconst (v := 0) hx hb dL_refuses_577 (by decide) ?_
                                                        cases h
                                                        exact W.widen (by omega) (by omega) (zw_z hx hb hr hlocks (by decide) hP hS dL_refuses_578)
                                                      · replace h := zt c52 h
                                                        refine lv_aload_n hx hb dL_refuses_555 rfl (lv_at hl 0 rfl) ?_
                                                        refine lv_iload_n hx hb dL_refuses_556 rfl (lv_at hl 1 rfl) ?_
                                                        refine lv_i2l (v := v1.toInt64) hx hb dL_refuses_557 rfl ?_
                                                        refine lv_bipush (v := 61) hx hb dL_refuses_558 (by decide) ?_
                                                        refine lv_iload_n hx hb dL_refuses_560 rfl (lv_at hl 1 rfl) ?_
                                                        refine lv_bipush (v := 9) hx hb dL_refuses_561 (by decide) ?_
                                                        refine lv_irem hx hb dL_refuses_563 (by decide) ?_
                                                        refine lv_iadd hx hb dL_refuses_564 ?_
                                                        obtain ⟨r53, w53, e53, h⟩ := zb2 h
                                                        refine zLSw (w := (zXW g h0 u w51)) (wr := []) (wc := (zXW g h0 u w51)) (wq := (zXW g h0 u w53)) (wp := (zXW g h0 u w53)) (As := [.ref h0, .long v1.toInt64, .int (61 + (irem v1 9))]) (rest := []) (zWi_q g _ _) ⟨hx, hb, hml, hown, hts⟩ (kL_trySimulate l g h0 u w51 v1.toInt64 (61 + (irem v1 9)) htr e53) (vx_cwSW 3 hts gL_refuses_L_trySimulate rfl rfl rfl hdS_L_trySimulate ⟨Nat.le_of_ble_eq_true rfl, Nat.le_of_ble_eq_true rfl⟩) hK hP hD hS hA hAm hN (zXW_fst g h0 u _ _) (List.Perm.refl _) (List.Perm.refl _) rfl hl.1 rfl (Nat.le_of_ble_eq_true rfl) ⟨by show _ ≤ 78; omega, by show _ ≤ 468; omega⟩ dL_refuses_565 (fun H locs hP hD hS => ?_)
                                                        replace hP : zP g (zXW g h0 u w53) H := hP
                                                        replace hD : va_D A (zXW g h0 u w53) := hD
                                                        refine lv_ldc hx hb hown (hts _ mL_refuses_15) dL_refuses_568 ?_
                                                        refine lv_icmp_ne (tgt := 577) hx hb dL_refuses_570 (by decide) (fun c54 => ?_) (fun c54 => ?_)
                                                        · replace h := zf c54 h
                                                          refine lv_iconst (v := 0) hx hb dL_refuses_577 (by decide) ?_
                                                          cases h
                                                          exact W.widen (by omega) (by omega) (zw_z hx hb hr hlocks (by decide) hP hS dL_refuses_578)
                                                        · replace h := zt c54 h
                                                          refine lv_iconst (v := 1) hx hb dL_refuses_573 (by decide) ?_
                                                          refine lv_goto (tgt := 578) hx hb dL_refuses_574 (by decide) ?_
                                                          cases h
                                                          exact W.widen (by omega) (by omega) (zw_z hx hb hr hlocks (by decide) hP hS dL_refuses_578)
  have loop_59 : ∀ (v1 : Int32) (v2 : Int32) (v3 : Int32) (s0 : Int32) (v : zXS) (cells slots : Nat), fL_refuses_59 v1 v2 v3 s0 v = some (r, v') → cells + 75 ≤ 78 → slots + 6 * 75 ≤ 468 → ∀ (H : Heap) (locs : List Loc), zP g (zXW g h0 u v) H → va_D A (zXW g h0 u v) → va_S A s.heap H locs → ∀ (ls : Array Slot), lv_has ls 5 [(0, .ref h0), (1, .int v1), (2, .int v2), (3, .int v3)] → W p l e ({ frames := 11, cells := 78, slots := 468, locals := 212 } : Room) s m [.ref h0, .int a1].toArray below meth c H locs cells slots (MQ below (zWi g (zXW g h0 u v') r A) [.ref h0, .int a1].toArray s 78 468 A) (F0 m 59 ls [.int s0]) := by
    intro v1 v2 v3 s0 v cells slots h hc hs H locs hP hD hS ls hl
    unfold fL_refuses_59 at h
    refine lv_istore (lv' := [(4, .int s0), (0, .ref h0), (1, .int v1), (2, .int v2), (3, .int v3)]) hx hb dL_refuses_59 hl (by decide) rfl (fun ls hl => ?_)
    refine lv_aload_n hx hb dL_refuses_61 rfl (lv_at hl 1 rfl) ?_
    refine lv_iconst (v := 0) hx hb dL_refuses_62 (by decide) ?_
    refine lv_iload_n hx hb dL_refuses_63 rfl (lv_at hl 2 rfl) ?_
    refine lv_iconst (v := 2) hx hb dL_refuses_64 (by decide) ?_
    refine lv_irem hx hb dL_refuses_65 (by decide) ?_
    refine lv_if_ne (tgt := 78) hx hb dL_refuses_66 (by decide) (fun c55 => ?_) (fun c55 => ?_)
    · replace h := zf c55 h
      refine lv_sipush (v := 256) hx hb dL_refuses_78 (by decide) ?_
      refine lv_iload_n hx hb dL_refuses_81 rfl (lv_at hl 2 rfl) ?_
      refine lv_bipush (v := 9) hx hb dL_refuses_82 (by decide) ?_
      refine lv_irem hx hb dL_refuses_84 (by decide) ?_
      refine lv_iadd hx hb dL_refuses_85 ?_
      exact loop_86 v1 v2 v3 s0 0 (256 + (irem v1 9)) v _ _ h (by omega) (by omega) H locs hP hD hS ls (lv_sub hl [1, 2, 3, 4, 0] rfl)
    · replace h := zt c55 h
      refine lv_iconst (v := (-1)) hx hb dL_refuses_69 (by decide) ?_
      refine lv_iload_n hx hb dL_refuses_70 rfl (lv_at hl 2 rfl) ?_
      refine lv_bipush (v := 9) hx hb dL_refuses_71 (by decide) ?_
      refine lv_irem hx hb dL_refuses_73 (by decide) ?_
      refine lv_isub hx hb dL_refuses_74 ?_
      refine lv_goto (tgt := 86) hx hb dL_refuses_75 (by decide) ?_
      exact loop_86 v1 v2 v3 s0 0 ((-1) - (irem v1 9)) v _ _ h (by omega) (by omega) H locs hP hD hS ls (lv_sub hl [1, 2, 3, 4, 0] rfl)
  have loop_23 : ∀ (v1 : Int32) (s0 : Int32) (v : zXS) (cells slots : Nat), fL_refuses_23 v1 s0 v = some (r, v') → cells + 78 ≤ 78 → slots + 6 * 78 ≤ 468 → ∀ (H : Heap) (locs : List Loc), zP g (zXW g h0 u v) H → va_D A (zXW g h0 u v) → va_S A s.heap H locs → ∀ (ls : Array Slot), lv_has ls 5 [(0, .ref h0), (1, .int v1)] → W p l e ({ frames := 11, cells := 78, slots := 468, locals := 212 } : Room) s m [.ref h0, .int a1].toArray below meth c H locs cells slots (MQ below (zWi g (zXW g h0 u v') r A) [.ref h0, .int a1].toArray s 78 468 A) (F0 m 23 ls [.int s0]) := by
    intro v1 s0 v cells slots h hc hs H locs hP hD hS ls hl
    unfold fL_refuses_23 at h
    refine lv_istore_n (lv' := [(2, .int s0), (0, .ref h0), (1, .int v1)]) hx hb dL_refuses_23 rfl hl (by decide) rfl (fun ls hl => ?_)
    refine lv_aload_n hx hb dL_refuses_24 rfl (lv_at hl 1 rfl) ?_
    refine lv_iconst (v := 2) hx hb dL_refuses_25 (by decide) ?_
    refine lv_iconst (v := 2) hx hb dL_refuses_26 (by decide) ?_
    refine lv_iconst (v := 0) hx hb dL_refuses_27 (by decide) ?_
    refine lv_iconst (v := 0) hx hb dL_refuses_28 (by decide) ?_
    obtain ⟨r56, w56, e56, h⟩ := zb2 h
    refine zLSc (w := (zXW g h0 u v)) (wr := []) (wc := (zXW g h0 u v)) (wq := (zXW g h0 u w56)) (wp := (zXW g h0 u w56)) (As := [.ref h0, .int 2, .int 2, .int 0, .int 0]) (rest := []) (zWi_q g _ _) ⟨hx, hb, hml, hown, hts⟩ (kL_call l g h0 u v 2 2 0 0 htr e56) (va_cwS 5 hts gL_refuses_L_call rfl rfl rfl hdS_L_call ⟨Nat.le_of_ble_eq_true rfl, Nat.le_of_ble_eq_true rfl⟩) hK hP hD hS hA hAm hN (zXW_fst g h0 u _ _) (List.Perm.refl _) (List.Perm.refl _) rfl hl.1 rfl (Nat.le_of_ble_eq_true rfl) ⟨by show _ ≤ 78; omega, by show _ ≤ 468; omega⟩ dL_refuses_29 (fun H locs hP hD hS => ?_)
    replace hP : zP g (zXW g h0 u w56) H := hP
    replace hD : va_D A (zXW g h0 u w56) := hD
    refine lv_iload_n hx hb dL_refuses_32 rfl (lv_at hl 2 rfl) ?_
    refine lv_bipush (v := 50) hx hb dL_refuses_33 (by decide) ?_
    refine lv_irem hx hb dL_refuses_35 (by decide) ?_
    refine lv_iadd hx hb dL_refuses_36 ?_
    refine lv_istore_n (lv' := [(3, .int (r56 + (irem v1 50))), (2, .int s0), (0, .ref h0), (1, .int v1)]) hx hb dL_refuses_37 rfl hl (by decide) rfl (fun ls hl => ?_)
    refine lv_iload_n hx hb dL_refuses_38 rfl (lv_at hl 3 rfl) ?_
    refine lv_iconst (v := 2) hx hb dL_refuses_39 (by decide) ?_
    refine lv_irem hx hb dL_refuses_40 (by decide) ?_
    refine lv_if_ne (tgt := 52) hx hb dL_refuses_41 (by decide) (fun c57 => ?_) (fun c57 => ?_)
    · replace h := zf c57 h
      refine lv_bipush (v := 100) hx hb dL_refuses_52 (by decide) ?_
      refine lv_iload_n hx hb dL_refuses_54 rfl (lv_at hl 3 rfl) ?_
      refine lv_bipush (v := 99) hx hb dL_refuses_55 (by decide) ?_
      refine lv_irem hx hb dL_refuses_57 (by decide) ?_
      refine lv_iadd hx hb dL_refuses_58 ?_
      exact loop_59 v1 s0 (r56 + (irem v1 50)) (100 + (irem v1 99)) w56 _ _ h (by omega) (by omega) H locs hP hD hS ls (lv_sub hl [2, 3, 1, 0] rfl)
    · replace h := zt c57 h
      refine lv_iload_n hx hb dL_refuses_44 rfl (lv_at hl 3 rfl) ?_
      refine lv_ineg hx hb dL_refuses_45 ?_
      refine lv_bipush (v := 99) hx hb dL_refuses_46 (by decide) ?_
      refine lv_irem hx hb dL_refuses_48 (by decide) ?_
      refine lv_goto (tgt := 59) hx hb dL_refuses_49 (by decide) ?_
      exact loop_59 v1 s0 (r56 + (irem v1 50)) (irem (-v1) 99) w56 _ _ h (by omega) (by omega) H locs hP hD hS ls (lv_sub hl [2, 3, 1, 0] rfl)
  unfold fL_refuses at h
  refine lv_iload_n hx hb dL_refuses_0 rfl (lv_at hl 1 rfl) ?_
  refine lv_iconst (v := 2) hx hb dL_refuses_1 (by decide) ?_
  refine lv_irem hx hb dL_refuses_2 (by decide) ?_
  refine lv_if_ne (tgt := 15) hx hb dL_refuses_3 (by decide) (fun c58 => ?_) (fun c58 => ?_)
  · replace h := zf c58 h
    refine lv_sipush (v := 256) hx hb dL_refuses_15 (by decide) ?_
    refine lv_iload_n hx hb dL_refuses_18 rfl (lv_at hl 1 rfl) ?_
    refine lv_bipush (v := 99) hx hb dL_refuses_19 (by decide) ?_
    refine lv_irem hx hb dL_refuses_21 (by decide) ?_
    refine lv_iadd hx hb dL_refuses_22 ?_
    exact loop_23 a1 (256 + (irem a1 99)) v _ _ h (by omega) (by omega) s.heap [] hP hD hS ls (lv_sub hl [0, 1] rfl)
  · replace h := zt c58 h
    refine lv_iconst (v := (-1)) hx hb dL_refuses_6 (by decide) ?_
    refine lv_iload_n hx hb dL_refuses_7 rfl (lv_at hl 1 rfl) ?_
    refine lv_bipush (v := 99) hx hb dL_refuses_8 (by decide) ?_
    refine lv_irem hx hb dL_refuses_10 (by decide) ?_
    refine lv_isub hx hb dL_refuses_11 ?_
    refine lv_goto (tgt := 23) hx hb dL_refuses_12 (by decide) ?_
    exact loop_23 a1 ((-1) - (irem a1 99)) v _ _ h (by omega) (by omega) s.heap [] hP hD hS ls (lv_sub hl [0, 1] rfl)
