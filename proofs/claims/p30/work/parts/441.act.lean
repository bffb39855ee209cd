theorem hdV_X3_flush : yX3_flush.cls = RX3 ∧ yX3_flush.cls ≠ "java/lang/invoke/MethodHandle" ∧ yX3_flush.cls ≠ "java/lang/invoke/VarHandle" ∧ (parseMethodDescriptor yX3_flush.desc).map (fun d => d.parameters.length) = some 0 := by decide +kernel
def fL_act (v : zXS) (a1 : Int32) : Option (Int32 × zXS) :=
  if (irem a1 16) = 0 then
    ob2 (fL_call v 7 (irem (a1 / 16) 256) (1 + (irem (a1 / 4096) 20)) 0) fun r2 w2 =>
    some (r2, w2)
  else if (irem a1 16) = 1 then
    ob2 (fL_call v 7 (irem (a1 / 16) 256) (1 + (irem (a1 / 4096) 20)) 0) fun r4 w4 =>
    some (r4, w4)
  else if (irem a1 16) = 2 then
    ob2 (fL_call v 7 (irem (a1 / 16) 256) (1 + (irem (a1 / 4096) 20)) 0) fun r6 w6 =>
    some (r6, w6)
  else if (irem a1 16) = 3 then
    ob2 (fL_call v 8 (irem (a1 / 16) 256) (1 + (irem (a1 / 4096) 20)) 0) fun r8 w8 =>
    some (r8, w8)
  else if (irem a1 16) = 4 then
    ob2 (fL_call v 8 (irem (a1 / 16) 256) (1 + (irem (a1 / 4096) 20)) 0) fun r10 w10 =>
    some (r10, w10)
  else if (irem a1 16) = 5 then
    ob2 (fL_call v 8 (irem (a1 / 16) 256) (1 + (irem (a1 / 4096) 20)) 0) fun r12 w12 =>
    some (r12, w12)
  else if (irem a1 16) = 6 then
    ob2 (fL_call v 8 (irem (a1 / 16) 256) (1 + (irem (a1 / 4096) 20)) 0) fun r14 w14 =>
    some (r14, w14)
  else if (irem a1 16) = 7 then
    ob2 (fL_call v 9 (irem (a1 / 16) 3) (irem (a1 / 16) 256) (1 + (irem (a1 / 4096) 20))) fun r16 w16 =>
    some (r16, w16)
  else if (irem a1 16) = 8 then
    ob2 (fL_call v 10 (irem (a1 / 16) 3) 0 0) fun r18 w18 =>
    some (r18, w18)
  else if (irem a1 16) = 9 then
    ob2 (fL_call v 12 (irem (a1 / 16) 6) (irem (a1 / 128) 9) 0) fun r20 w20 =>
    some (r20, w20)
  else if (irem a1 16) = 10 then
    ob2 (fL_call v 13 0 0 0) fun r22 w22 =>
    some (r22, w22)
  else if (irem a1 16) = 11 then
    ob2 (fL_call v 19 (irem (a1 / 16) 2) 0 0) fun r24 w24 =>
    some (r24, w24)
  else if (irem a1 16) = 12 then
    ob2 (fL_call v 20 (irem (a1 / 16) 2) 0 0) fun r26 w26 =>
    some (r26, w26)
  else if (irem a1 16) = 13 then
    if (irem (a1 / 16) 4) = 0 then
      ob2 (fO_flush v) fun r30 w30 =>
      some (r30, w30)
    else
      ob2 (fL_call v 11 (1 + (irem (a1 / 64) 20)) 0 0) fun r29 w29 =>
      some (r29, w29)
  else ob2 (fL_call v 11 (1 + (irem (a1 / 16) 6)) 0 0) fun r31 w31 =>
  some (r31, w31)
set_option maxRecDepth 100000 in
set_option maxHeartbeats 8000000 in
theorem kL_act (l : Launch) (g : zG) (h0 : Nat) (u : zAd) (v : zXS) (a1 : Int32) (htr : l.stackTraces = false) {r : Int32} {v' : zXS} (h : fL_act v a1 = some (r, v')) : Mn l g yL_act wsL_act { frames := 11, cells := 3, slots := 18, locals := 212 } [.ref h0, .int a1] (zXW g h0 u v) (zWi g (zXW g h0 u v') r) 3 18 := by
  refine zn_in0 (cc := cL_act) (maxL := 4) (ret := (some .int)) (by decide) rfl (Nat.le_of_ble_eq_true rfl) ?_
  intro p e s m below meth c hx hb hr hml hts hown hlocks hK hN A hA hP hD hS hAm ls hl
  replace hl : lv_has ls 4 [(0, .ref h0), (1, .int a1)] := hl
  unfold fL_act at h
  refine lv_iload_n hx hb dL_act_0 rfl (lv_at hl 1 rfl) ?_
  refine lv_bipush (v := 16) hx hb dL_act_1 (by decide) ?_
  refine lv_idiv hx hb dL_act_3 (by decide) ?_
  refine lv_sipush (v := 256) hx hb dL_act_4 (by decide) ?_
  refine lv_irem hx hb dL_act_7 (by decide) ?_
  refine lv_istore_n (lv' := [(2, .int (irem (a1 / 16) 256)), (0, .ref h0), (1, .int a1)]) hx hb dL_act_8 rfl hl (by decide) rfl (fun ls hl => ?_)
  refine lv_iconst (v := 1) hx hb dL_act_9 (by decide) ?_
  refine lv_iload_n hx hb dL_act_10 rfl (lv_at hl 2 rfl) ?_
  refine lv_sipush (v := 4096) hx hb dL_act_11 (by decide) ?_
  refine lv_idiv hx hb dL_act_14 (by decide) ?_
  refine lv_bipush (v := 20) hx hb dL_act_15 (by decide) ?_
  refine lv_irem hx hb dL_act_17 (by decide) ?_
  refine lv_iadd hx hb dL_act_18 ?_
  refine lv_istore_n (lv' := [(3, .int (1 + (irem (a1 / 4096) 20))), (2, .int (irem (a1 / 16) 256)), (0, .ref h0), (1, .int a1)]) hx hb dL_act_19 rfl hl (by decide) rfl (fun ls hl => ?_)
  refine lv_iload_n hx hb dL_act_20 rfl (lv_at hl 3 rfl) ?_
  refine lv_bipush (v := 16) hx hb dL_act_21 (by decide) ?_
  refine lv_irem hx hb dL_act_23 (by decide) ?_
  change W p l e _ s m _ below meth c _ _ _ _ _ (F0 m 24 ls [.int (irem a1 16)])
  by_cases c1 : (irem a1 16) = 0
  · replace h := zt c1 h
    refine lv_tableIn (tgt := 96) (off := 72) hx hb dL_act_24 (by rw [c1]; decide) (by rw [c1]; decide) (by rw [c1]; rfl) (by decide) ?_
    refine lv_aload_n hx hb dL_act_96 rfl (lv_at hl 2 rfl) ?_
    refine lv_bipush (v := 7) hx hb dL_act_97 (by decide) ?_
    refine lv_iload_n hx hb dL_act_99 rfl (lv_at hl 1 rfl) ?_
    refine lv_iload_n hx hb dL_act_100 rfl (lv_at hl 0 rfl) ?_
    refine lv_iconst (v := 0) hx hb dL_act_101 (by decide) ?_
    obtain ⟨r2, w2, e2, h⟩ := zb2 h
    refine zLSc (w := (zXW g h0 u v)) (wr := []) (wc := (zXW g h0 u v)) (wq := (zXW g h0 u w2)) (wp := (zXW g h0 u w2)) (As := [.ref h0, .int 7, .int (irem (a1 / 16) 256), .int (1 + (irem (a1 / 4096) 20)), .int 0]) (rest := []) (zWi_q g _ _) ⟨hx, hb, hml, hown, hts⟩ (kL_call l g h0 u v 7 (irem (a1 / 16) 256) (1 + (irem (a1 / 4096) 20)) 0 htr e2) (va_cwS 5 hts gL_act_L_call rfl rfl rfl hdS_L_call ⟨Nat.le_of_ble_eq_true rfl, Nat.le_of_ble_eq_true rfl⟩) hK hP hD hS hA hAm hN (zXW_fst g h0 u _ _) (List.Perm.refl _) (List.Perm.refl _) rfl hl.1 rfl (Nat.le_of_ble_eq_true rfl) ⟨by show _ ≤ 3; omega, by show _ ≤ 18; omega⟩ dL_act_102 (fun H locs hP hD hS => ?_)
    replace hP : zP g (zXW g h0 u w2) H := hP
    replace hD : va_D A (zXW g h0 u w2) := hD
    cases h
    exact W.widen (by omega) (by omega) (zw_i hx hb hr hlocks hP hS dL_act_105)
  replace h := zf c1 h
  by_cases c3 : (irem a1 16) = 1
  · replace h := zt c3 h
    refine lv_tableIn (tgt := 96) (off := 72) hx hb dL_act_24 (by rw [c3]; decide) (by rw [c3]; decide) (by rw [c3]; rfl) (by decide) ?_
    refine lv_aload_n hx hb dL_act_96 rfl (lv_at hl 2 rfl) ?_
    refine lv_bipush (v := 7) hx hb dL_act_97 (by decide) ?_
    refine lv_iload_n hx hb dL_act_99 rfl (lv_at hl 1 rfl) ?_
    refine lv_iload_n hx hb dL_act_100 rfl (lv_at hl 0 rfl) ?_
    refine lv_iconst (v := 0) hx hb dL_act_101 (by decide) ?_
    obtain ⟨r4, w4, e4, h⟩ := zb2 h
    refine zLSc (w := (zXW g h0 u v)) (wr := []) (wc := (zXW g h0 u v)) (wq := (zXW g h0 u w4)) (wp := (zXW g h0 u w4)) (As := [.ref h0, .int 7, .int (irem (a1 / 16) 256), .int (1 + (irem (a1 / 4096) 20)), .int 0]) (rest := []) (zWi_q g _ _) ⟨hx, hb, hml, hown, hts⟩ (kL_call l g h0 u v 7 (irem (a1 / 16) 256) (1 + (irem (a1 / 4096) 20)) 0 htr e4) (va_cwS 5 hts gL_act_L_call rfl rfl rfl hdS_L_call ⟨Nat.le_of_ble_eq_true rfl, Nat.le_of_ble_eq_true rfl⟩) hK hP hD hS hA hAm hN (zXW_fst g h0 u _ _) (List.Perm.refl _) (List.Perm.refl _) rfl hl.1 rfl (Nat.le_of_ble_eq_true rfl) ⟨by show _ ≤ 3; omega, by show _ ≤ 18; omega⟩ dL_act_102 (fun H locs hP hD hS => ?_)
    replace hP : zP g (zXW g h0 u w4) H := hP
    replace hD : va_D A (zXW g h0 u w4) := hD
    cases h
    exact W.widen (by omega) (by omega) (zw_i hx hb hr hlocks hP hS dL_act_105)
  replace h := zf c3 h
  by_cases c5 : (irem a1 16) = 2
  · replace h := zt c5 h
    refine lv_tableIn (tgt := 96) (off := 72) hx hb dL_act_24 (by rw [c5]; decide) (by rw [c5]; decide) (by rw [c5]; rfl) (by decide) ?_
    refine lv_aload_n hx hb dL_act_96 rfl (lv_at hl 2 rfl) ?_
    refine lv_bipush (v := 7) hx hb dL_act_97 (by decide) ?_
    refine lv_iload_n hx hb dL_act_99 rfl (lv_at hl 1 rfl) ?_
    refine lv_iload_n hx hb dL_act_100 rfl (lv_at hl 0 rfl) ?_
    refine lv_iconst (v := 0) hx hb dL_act_101 (by decide) ?_
    obtain ⟨r6, w6, e6, h⟩ := zb2 h
    refine zLSc (w := (zXW g h0 u v)) (wr := []) (wc := (zXW g h0 u v)) (wq := (zXW g h0 u w6)) (wp := (zXW g h0 u w6)) (As := [.ref h0, .int 7, .int (irem (a1 / 16) 256), .int (1 + (irem (a1 / 4096) 20)), .int 0]) (rest := []) (zWi_q g _ _) ⟨hx, hb, hml, hown, hts⟩ (kL_call l g h0 u v 7 (irem (a1 / 16) 256) (1 + (irem (a1 / 4096) 20)) 0 htr e6) (va_cwS 5 hts gL_act_L_call rfl rfl rfl hdS_L_call ⟨Nat.le_of_ble_eq_true rfl, Nat.le_of_ble_eq_true rfl⟩) hK hP hD hS hA hAm hN (zXW_fst g h0 u _ _) (List.Perm.refl _) (List.Perm.refl _) rfl hl.1 rfl (Nat.le_of_ble_eq_true rfl) ⟨by show _ ≤ 3; omega, by show _ ≤ 18; omega⟩ dL_act_102 (fun H locs hP hD hS => ?_)
    replace hP : zP g (zXW g h0 u w6) H := hP
    replace hD : va_D A (zXW g h0 u w6) := hD
    cases h
    exact W.widen (by omega) (by omega) (zw_i hx hb hr hlocks hP hS dL_act_105)
  replace h := zf c5 h
  by_cases c7 : (irem a1 16) = 3
  · replace h := zt c7 h
    refine lv_tableIn (tgt := 106) (off := 82) hx hb dL_act_24 (by rw [c7]; decide) (by rw [c7]; decide) (by rw [c7]; rfl) (by decide) ?_
    refine lv_aload_n hx hb dL_act_106 rfl (lv_at hl 2 rfl) ?_
    refine lv_bipush (v := 8) hx hb dL_act_107 (by decide) ?_
    refine lv_iload_n hx hb dL_act_109 rfl (lv_at hl 1 rfl) ?_
    refine lv_iload_n hx hb dL_act_110 rfl (lv_at hl 0 rfl) ?_
    refine lv_iconst (v := 0) hx hb dL_act_111 (by decide) ?_
    obtain ⟨r8, w8, e8, h⟩ := zb2 h
    refine zLSc (w := (zXW g h0 u v)) (wr := []) (wc := (zXW g h0 u v)) (wq := (zXW g h0 u w8)) (wp := (zXW g h0 u w8)) (As := [.ref h0, .int 8, .int (irem (a1 / 16) 256), .int (1 + (irem (a1 / 4096) 20)), .int 0]) (rest := []) (zWi_q g _ _) ⟨hx, hb, hml, hown, hts⟩ (kL_call l g h0 u v 8 (irem (a1 / 16) 256) (1 + (irem (a1 / 4096) 20)) 0 htr e8) (va_cwS 5 hts gL_act_L_call rfl rfl rfl hdS_L_call ⟨Nat.le_of_ble_eq_true rfl, Nat.le_of_ble_eq_true rfl⟩) hK hP hD hS hA hAm hN (zXW_fst g h0 u _ _) (List.Perm.refl _) (List.Perm.refl _) rfl hl.1 rfl (Nat.le_of_ble_eq_true rfl) ⟨by show _ ≤ 3; omega, by show _ ≤ 18; omega⟩ dL_act_112 (fun H locs hP hD hS => ?_)
    replace hP : zP g (zXW g h0 u w8) H := hP
    replace hD : va_D A (zXW g h0 u w8) := hD
    cases h
    exact W.widen (by omega) (by omega) (zw_i hx hb hr hlocks hP hS dL_act_115)
  replace h := zf c7 h
  by_cases c9 : (irem a1 16) = 4
  · replace h := zt c9 h
    refine lv_tableIn (tgt := 106) (off := 82) hx hb dL_act_24 (by rw [c9]; decide) (by rw [c9]; decide) (by rw [c9]; rfl) (by decide) ?_
    refine lv_aload_n hx hb dL_act_106 rfl (lv_at hl 2 rfl) ?_
    refine lv_bipush (v := 8) hx hb dL_act_107 (by decide) ?_
    refine lv_iload_n hx hb dL_act_109 rfl (lv_at hl 1 rfl) ?_
    refine lv_iload_n hx hb dL_act_110 rfl (lv_at hl 0 rfl) ?_
    refine lv_iconst (v := 0) hx hb dL_act_111 (by decide) ?_
    obtain ⟨r10, w10, e10, h⟩ := zb2 h
    refine zLSc (w := (zXW g h0 u v)) (wr := []) (wc := (zXW g h0 u v)) (wq := (zXW g h0 u w10)) (wp := (zXW g h0 u w10)) (As := [.ref h0, .int 8, .int (irem (a1 / 16) 256), .int (1 + (irem (a1 / 4096) 20)), .int 0]) (rest := []) (zWi_q g _ _) ⟨hx, hb, hml, hown, hts⟩ (kL_call l g h0 u v 8 (irem (a1 / 16) 256) (1 + (irem (a1 / 4096) 20)) 0 htr e10) (va_cwS 5 hts gL_act_L_call rfl rfl rfl hdS_L_call ⟨Nat.le_of_ble_eq_true rfl, Nat.le_of_ble_eq_true rfl⟩) hK hP hD hS hA hAm hN (zXW_fst g h0 u _ _) (List.Perm.refl _) (List.Perm.refl _) rfl hl.1 rfl (Nat.le_of_ble_eq_true rfl) ⟨by show _ ≤ 3; omega, by show _ ≤ 18; omega⟩ dL_act_112 (fun H locs hP hD hS => ?_)
    replace hP : zP g (zXW g h0 u w10) H := hP
    replace hD : va_D A (zXW g h0 u w10) := hD
    cases h
    exact W.widen (by omega) (by omega) (zw_i hx hb hr hlocks hP hS dL_act_115)
  replace h := zf c9 h
  by_cases c11 : (irem a1 16) = 5
  · replace h := zt c11 h
    refine lv_tableIn (tgt := 106) (off := 82) hx hb dL_act_24 (by rw [c11]; decide) (by rw [c11]; decide) (by rw [c11]; rfl) (by decide) ?_
    refine lv_aload_n hx hb dL_act_106 rfl (lv_at hl 2 rfl) ?_
    refine lv_bipush (v := 8) hx hb dL_act_107 (by decide) ?_
    refine lv_iload_n hx hb dL_act_109 rfl (lv_at hl 1 rfl) ?_
    refine lv_iload_n hx hb dL_act_110 rfl (lv_at hl 0 rfl) ?_
    refine lv_iconst (v := 0) hx hb dL_act_111 (by decide) ?_
    obtain ⟨r12, w12, e12, h⟩ := zb2 h
    refine zLSc (w := (zXW g h0 u v)) (wr := []) (wc := (zXW g h0 u v)) (wq := (zXW g h0 u w12)) (wp := (zXW g h0 u w12)) (As := [.ref h0, .int 8, .int (irem (a1 / 16) 256), .int (1 + (irem (a1 / 4096) 20)), .int 0]) (rest := []) (zWi_q g _ _) ⟨hx, hb, hml, hown, hts⟩ (kL_call l g h0 u v 8 (irem (a1 / 16) 256) (1 + (irem (a1 / 4096) 20)) 0 htr e12) (va_cwS 5 hts gL_act_L_call rfl rfl rfl hdS_L_call ⟨Nat.le_of_ble_eq_true rfl, Nat.le_of_ble_eq_true rfl⟩) hK hP hD hS hA hAm hN (zXW_fst g h0 u _ _) (List.Perm.refl _) (List.Perm.refl _) rfl hl.1 rfl (Nat.le_of_ble_eq_true rfl) ⟨by show _ ≤ 3; omega, by show _ ≤ 18; omega⟩ dL_act_112 (fun H locs hP hD hS => ?_)
    replace hP : zP g (zXW g h0 u w12) H := hP
    replace hD : va_D A (zXW g h0 u w12) := hD
    cases h
    exact W.widen (by omega) (by omega) (zw_i hx hb hr hlocks hP hS dL_act_115)
  replace h := zf c11 h
  by_cases c13 : (irem a1 16) = 6
  · replace h := zt c13 h
    refine lv_tableIn (tgt := 106) (off := 82) hx hb dL_act_24 (by rw [c13]; decide) (by rw [c13]; decide) (by rw [c13]; rfl) (by decide) ?_
    refine lv_aload_n hx hb dL_act_106 rfl (lv_at hl 2 rfl) ?_
    refine lv_bipush (v := 8) hx hb dL_act_107 (by decide) ?_
    refine lv_iload_n hx hb dL_act_109 rfl (lv_at hl 1 rfl) ?_
    refine lv_iload_n hx hb dL_act_110 rfl (lv_at hl 0 rfl) ?_
    refine lv_iconst (v := 0) hx hb dL_act_111 (by decide) ?_
    obtain ⟨r14, w14, e14, h⟩ := zb2 h
    refine zLSc (w := (zXW g h0 u v)) (wr := []) (wc := (zXW g h0 u v)) (wq := (zXW g h0 u w14)) (wp := (zXW g h0 u w14)) (As := [.ref h0, .int 8, .int (irem (a1 / 16) 256), .int (1 + (irem (a1 / 4096) 20)), .int 0]) (rest := []) (zWi_q g _ _) ⟨hx, hb, hml, hown, hts⟩ (kL_call l g h0 u v 8 (irem (a1 / 16) 256) (1 + (irem (a1 / 4096) 20)) 0 htr e14) (va_cwS 5 hts gL_act_L_call rfl rfl rfl hdS_L_call ⟨Nat.le_of_ble_eq_true rfl, Nat.le_of_ble_eq_true rfl⟩) hK hP hD hS hA hAm hN (zXW_fst g h0 u _ _) (List.Perm.refl _) (List.Perm.refl _) rfl hl.1 rfl (Nat.le_of_ble_eq_true rfl) ⟨by show _ ≤ 3; omega, by show _ ≤ 18; omega⟩ dL_act_112 (fun H locs hP hD hS => ?_)
    replace hP : zP g (zXW g h0 u w14) H := hP
    replace hD : va_D A (zXW g h0 u w14) := hD
    cases h
    exact W.widen (by omega) (by omega) (zw_i hx hb hr hlocks hP hS dL_act_115)
  replace h := zf c13 h
  by_cases c15 : (irem a1 16) = 7
  · replace h := zt c15 h
    refine lv_tableIn (tgt := 116) (off := 92) hx hb dL_act_24 (by rw [c15]; decide) (by rw [c15]; decide) (by rw [c15]; rfl) (by decide) ?_
    refine lv_aload_n hx hb dL_act_116 rfl (lv_at hl 2 rfl) ?_
    refine lv_bipush (v := 9) hx hb dL_act_117 (by decide) ?_
    refine lv_iload_n hx hb dL_act_119 rfl (lv_at hl 3 rfl) ?_
    refine lv_bipush (v := 16) hx hb dL_act_120 (by decide) ?_
    refine lv_idiv hx hb dL_act_122 (by decide) ?_
    refine lv_iconst (v := 3) hx hb dL_act_123 (by decide) ?_
    refine lv_irem hx hb dL_act_124 (by decide) ?_
    refine lv_iload_n hx hb dL_act_125 rfl (lv_at hl 1 rfl) ?_
    refine lv_iload_n hx hb dL_act_126 rfl (lv_at hl 0 rfl) ?_
    obtain ⟨r16, w16, e16, h⟩ := zb2 h
    refine zLSc (w := (zXW g h0 u v)) (wr := []) (wc := (zXW g h0 u v)) (wq := (zXW g h0 u w16)) (wp := (zXW g h0 u w16)) (As := [.ref h0, .int 9, .int (irem (a1 / 16) 3), .int (irem (a1 / 16) 256), .int (1 + (irem (a1 / 4096) 20))]) (rest := []) (zWi_q g _ _) ⟨hx, hb, hml, hown, hts⟩ (kL_call l g h0 u v 9 (irem (a1 / 16) 3) (irem (a1 / 16) 256) (1 + (irem (a1 / 4096) 20)) htr e16) (va_cwS 5 hts gL_act_L_call rfl rfl rfl hdS_L_call ⟨Nat.le_of_ble_eq_true rfl, Nat.le_of_ble_eq_true rfl⟩) hK hP hD hS hA hAm hN (zXW_fst g h0 u _ _) (List.Perm.refl _) (List.Perm.refl _) rfl hl.1 rfl (Nat.le_of_ble_eq_true rfl) ⟨by show _ ≤ 3; omega, by show _ ≤ 18; omega⟩ dL_act_127 (fun H locs hP hD hS => ?_)
    replace hP : zP g (zXW g h0 u w16) H := hP
    replace hD : va_D A (zXW g h0 u w16) := hD
    cases h
    exact W.widen (by omega) (by omega) (zw_i hx hb hr hlocks hP hS dL_act_130)
  replace h := zf c15 h
  by_cases c17 : (irem a1 16) = 8
  · replace h := zt c17 h
    refine lv_tableIn (tgt := 131) (off := 107) hx hb dL_act_24 (by rw [c17]; decide) (by rw [c17]; decide) (by rw [c17]; rfl) (by decide) ?_
    refine lv_aload_n hx hb dL_act_131 rfl (lv_at hl 2 rfl) ?_
    refine lv_bipush (v := 10) hx hb dL_act_132 (by decide) ?_
    refine lv_iload_n hx hb dL_act_134 rfl (lv_at hl 3 rfl) ?_
    refine lv_bipush (v := 16) hx hb dL_act_135 (by decide) ?_
    refine lv_idiv hx hb dL_act_137 (by decide) ?_
    refine lv_iconst (v := 3) hx hb dL_act_138 (by decide) ?_
    refine lv_irem hx hb dL_act_139 (by decide) ?_
    refine lv_iconst (v := 0) hx hb dL_act_140 (by decide) ?_
    refine lv_iconst (v := 0) hx hb dL_act_141 (by decide) ?_
    obtain ⟨r18, w18, e18, h⟩ := zb2 h
    refine zLSc (w := (zXW g h0 u v)) (wr := []) (wc := (zXW g h0 u v)) (wq := (zXW g h0 u w18)) (wp := (zXW g h0 u w18)) (As := [.ref h0, .int 10, .int (irem (a1 / 16) 3), .int 0, .int 0]) (rest := []) (zWi_q g _ _) ⟨hx, hb, hml, hown, hts⟩ (kL_call l g h0 u v 10 (irem (a1 / 16) 3) 0 0 htr e18) (va_cwS 5 hts gL_act_L_call rfl rfl rfl hdS_L_call ⟨Nat.le_of_ble_eq_true rfl, Nat.le_of_ble_eq_true rfl⟩) hK hP hD hS hA hAm hN (zXW_fst g h0 u _ _) (List.Perm.refl _) (List.Perm.refl _) rfl hl.1 rfl (Nat.le_of_ble_eq_true rfl) ⟨by show _ ≤ 3; omega, by show _ ≤ 18; omega⟩ dL_act_142 (fun H locs hP hD hS => ?_)
    replace hP : zP g (zXW g h0 u w18) H := hP
    replace hD : va_D A (zXW g h0 u w18) := hD
    cases h
    exact W.widen (by omega) (by omega) (zw_i hx hb hr hlocks hP hS dL_act_145)
  replace h := zf c17 h
  by_cases c19 : (irem a1 16) = 9
  · replace h := zt c19 h
    refine lv_tableIn (tgt := 146) (off := 122) hx hb dL_act_24 (by rw [c19]; decide) (by rw [c19]; decide) (by rw [c19]; rfl) (by decide) ?_
    refine lv_aload_n hx hb dL_act_146 rfl (lv_at hl 2 rfl) ?_
    refine lv_bipush (v := 12) hx hb dL_act_147 (by decide) ?_
    refine lv_iload_n hx hb dL_act_149 rfl (lv_at hl 3 rfl) ?_
    refine lv_bipush (v := 16) hx hb dL_act_150 (by decide) ?_
    refine lv_idiv hx hb dL_act_152 (by decide) ?_
    refine lv_bipush (v := 6) hx hb dL_act_153 (by decide) ?_
    refine lv_irem hx hb dL_act_155 (by decide) ?_
    refine lv_iload_n hx hb dL_act_156 rfl (lv_at hl 3 rfl) ?_
    refine lv_sipush (v := 128) hx hb dL_act_157 (by decide) ?_
    refine lv_idiv hx hb dL_act_160 (by decide) ?_
    refine lv_bipush (v := 9) hx hb dL_act_161 (by decide) ?_
    refine lv_irem hx hb dL_act_163 (by decide) ?_
    refine lv_iconst (v := 0) hx hb dL_act_164 (by decide) ?_
    obtain ⟨r20, w20, e20, h⟩ := zb2 h
    refine zLSc (w := (zXW g h0 u v)) (wr := []) (wc := (zXW g h0 u v)) (wq := (zXW g h0 u w20)) (wp := (zXW g h0 u w20)) (As := [.ref h0, .int 12, .int (irem (a1 / 16) 6), .int (irem (a1 / 128) 9), .int 0]) (rest := []) (zWi_q g _ _) ⟨hx, hb, hml, hown, hts⟩ (kL_call l g h0 u v 12 (irem (a1 / 16) 6) (irem (a1 / 128) 9) 0 htr e20) (va_cwS 5 hts gL_act_L_call rfl rfl rfl hdS_L_call ⟨Nat.le_of_ble_eq_true rfl, Nat.le_of_ble_eq_true rfl⟩) hK hP hD hS hA hAm hN (zXW_fst g h0 u _ _) (List.Perm.refl _) (List.Perm.refl _) rfl hl.1 rfl (Nat.le_of_ble_eq_true rfl) ⟨by show _ ≤ 3; omega, by show _ ≤ 18; omega⟩ dL_act_165 (fun H locs hP hD hS => ?_)
    replace hP : zP g (zXW g h0 u w20) H := hP
    replace hD : va_D A (zXW g h0 u w20) := hD
    cases h
    exact W.widen (by omega) (by omega) (zw_i hx hb hr hlocks hP hS dL_act_168)
  replace h := zf c19 h
  by_cases c21 : (irem a1 16) = 10
  · replace h := zt c21 h
    refine lv_tableIn (tgt := 169) (off := 145) hx hb dL_act_24 (by rw [c21]; decide) (by rw [c21]; decide) (by rw [c21]; rfl) (by decide) ?_
    refine lv_aload_n hx hb dL_act_169 rfl (lv_at hl 2 rfl) ?_
    refine lv_bipush (v := 13) hx hb dL_act_170 (by decide) ?_
    refine lv_iconst (v := 0) hx hb dL_act_172 (by decide) ?_
    refine lv_iconst (v := 0) hx hb dL_act_173 (by decide) ?_
    refine lv_iconst (v := 0) hx hb dL_act_174 (by decide) ?_
    obtain ⟨r22, w22, e22, h⟩ := zb2 h
    refine zLSc (w := (zXW g h0 u v)) (wr := []) (wc := (zXW g h0 u v)) (wq := (zXW g h0 u w22)) (wp := (zXW g h0 u w22)) (As := [.ref h0, .int 13, .int 0, .int 0, .int 0]) (rest := []) (zWi_q g _ _) ⟨hx, hb, hml, hown, hts⟩ (kL_call l g h0 u v 13 0 0 0 htr e22) (va_cwS 5 hts gL_act_L_call rfl rfl rfl hdS_L_call ⟨Nat.le_of_ble_eq_true rfl, Nat.le_of_ble_eq_true rfl⟩) hK hP hD hS hA hAm hN (zXW_fst g h0 u _ _) (List.Perm.refl _) (List.Perm.refl _) rfl hl.1 rfl (Nat.le_of_ble_eq_true rfl) ⟨by show _ ≤ 3; omega, by show _ ≤ 18; omega⟩ dL_act_175 (fun H locs hP hD hS => ?_)
    replace hP : zP g (zXW g h0 u w22) H := hP
    replace hD : va_D A (zXW g h0 u w22) := hD
    cases h
    exact W.widen (by omega) (by omega) (zw_i hx hb hr hlocks hP hS dL_act_178)
  replace h := zf c21 h
  by_cases c23 : (irem a1 16) = 11
  · replace h := zt c23 h
    refine lv_tableIn (tgt := 179) (off := 155) hx hb dL_act_24 (by rw [c23]; decide) (by rw [c23]; decide) (by rw [c23]; rfl) (by decide) ?_
    refine lv_aload_n hx hb dL_act_179 rfl (lv_at hl 2 rfl) ?_
    refine lv_bipush (v := 19) hx hb dL_act_180 (by decide) ?_
    refine lv_iload_n hx hb dL_act_182 rfl (lv_at hl 3 rfl) ?_
    refine lv_bipush (v := 16) hx hb dL_act_183 (by decide) ?_
    refine lv_idiv hx hb dL_act_185 (by decide) ?_
    refine lv_iconst (v := 2) hx hb dL_act_186 (by decide) ?_
    refine lv_irem hx hb dL_act_187 (by decide) ?_
    refine lv_iconst (v := 0) hx hb dL_act_188 (by decide) ?_
    refine lv_iconst (v := 0) hx hb dL_act_189 (by decide) ?_
    obtain ⟨r24, w24, e24, h⟩ := zb2 h
    refine zLSc (w := (zXW g h0 u v)) (wr := []) (wc := (zXW g h0 u v)) (wq := (zXW g h0 u w24)) (wp := (zXW g h0 u w24)) (As := [.ref h0, .int 19, .int (irem (a1 / 16) 2), .int 0, .int 0]) (rest := []) (zWi_q g _ _) ⟨hx, hb, hml, hown, hts⟩ (kL_call l g h0 u v 19 (irem (a1 / 16) 2) 0 0 htr e24) (va_cwS 5 hts gL_act_L_call rfl rfl rfl hdS_L_call ⟨Nat.le_of_ble_eq_true rfl, Nat.le_of_ble_eq_true rfl⟩) hK hP hD hS hA hAm hN (zXW_fst g h0 u _ _) (List.Perm.refl _) (List.Perm.refl _) rfl hl.1 rfl (Nat.le_of_ble_eq_true rfl) ⟨by show _ ≤ 3; omega, by show _ ≤ 18; omega⟩ dL_act_190 (fun H locs hP hD hS => ?_)
    replace hP : zP g (zXW g h0 u w24) H := hP
    replace hD : va_D A (zXW g h0 u w24) := hD
    cases h
    exact W.widen (by omega) (by omega) (zw_i hx hb hr hlocks hP hS dL_act_193)
  replace h := zf c23 h
  by_cases c25 : (irem a1 16) = 12
  · replace h := zt c25 h
    refine lv_tableIn (tgt := 194) (off := 170) hx hb dL_act_24 (by rw [c25]; decide) (by rw [c25]; decide) (by rw [c25]; rfl) (by decide) ?_
    refine lv_aload_n hx hb dL_act_194 rfl (lv_at hl 2 rfl) ?_
    refine lv_bipush (v := 20) hx hb dL_act_195 (by decide) ?_
    refine lv_iload_n hx hb dL_act_197 rfl (lv_at hl 3 rfl) ?_
    refine lv_bipush (v := 16) hx hb dL_act_198 (by decide) ?_
    refine lv_idiv hx hb dL_act_200 (by decide) ?_
    refine lv_iconst (v := 2) hx hb dL_act_201 (by decide) ?_
    refine lv_irem hx hb dL_act_202 (by decide) ?_
    refine lv_iconst (v := 0) hx hb dL_act_203 (by decide) ?_
    refine lv_iconst (v := 0) hx hb dL_act_204 (by decide) ?_
    obtain ⟨r26, w26, e26, h⟩ := zb2 h
    refine zLSc (w := (zXW g h0 u v)) (wr := []) (wc := (zXW g h0 u v)) (wq := (zXW g h0 u w26)) (wp := (zXW g h0 u w26)) (As := [.ref h0, .int 20, .int (irem (a1 / 16) 2), .int 0, .int 0]) (rest := []) (zWi_q g _ _) ⟨hx, hb, hml, hown, hts⟩ (kL_call l g h0 u v 20 (irem (a1 / 16) 2) 0 0 htr e26) (va_cwS 5 hts gL_act_L_call rfl rfl rfl hdS_L_call ⟨Nat.le_of_ble_eq_true rfl, Nat.le_of_ble_eq_true rfl⟩) hK hP hD hS hA hAm hN (zXW_fst g h0 u _ _) (List.Perm.refl _) (List.Perm.refl _) rfl hl.1 rfl (Nat.le_of_ble_eq_true rfl) ⟨by show _ ≤ 3; omega, by show _ ≤ 18; omega⟩ dL_act_205 (fun H locs hP hD hS => ?_)
    replace hP : zP g (zXW g h0 u w26) H := hP
    replace hD : va_D A (zXW g h0 u w26) := hD
    cases h
    exact W.widen (by omega) (by omega) (zw_i hx hb hr hlocks hP hS dL_act_208)
  replace h := zf c25 h
  by_cases c27 : (irem a1 16) = 13
  · replace h := zt c27 h
    refine lv_tableIn (tgt := 209) (off := 185) hx hb dL_act_24 (by rw [c27]; decide) (by rw [c27]; decide) (by rw [c27]; rfl) (by decide) ?_
    refine lv_iload_n hx hb dL_act_209 rfl (lv_at hl 3 rfl) ?_
    refine lv_bipush (v := 16) hx hb dL_act_210 (by decide) ?_
    refine lv_idiv hx hb dL_act_212 (by decide) ?_
    refine lv_iconst (v := 4) hx hb dL_act_213 (by decide) ?_
    refine lv_irem hx hb dL_act_214 (by decide) ?_
    refine lv_if_ne (tgt := 225) hx hb dL_act_215 (by decide) (fun c28 => ?_) (fun c28 => ?_)
    · replace h := zf c28 h
      refine lv_aload_n hx hb dL_act_225 rfl (lv_at hl 2 rfl) ?_
      refine lv_bipush (v := 11) hx hb dL_act_226 (by decide) ?_
      refine lv_iconst (v := 1) hx hb dL_act_228 (by decide) ?_
      refine lv_iload_n hx hb dL_act_229 rfl (lv_at hl 3 rfl) ?_
      refine lv_bipush (v := 64) hx hb dL_act_230 (by decide) ?_
      refine lv_idiv hx hb dL_act_232 (by decide) ?_
      refine lv_bipush (v := 20) hx hb dL_act_233 (by decide) ?_
      refine lv_irem hx hb dL_act_235 (by decide) ?_
      refine lv_iadd hx hb dL_act_236 ?_
      refine lv_iconst (v := 0) hx hb dL_act_237 (by decide) ?_
      refine lv_iconst (v := 0) hx hb dL_act_238 (by decide) ?_
      obtain ⟨r29, w29, e29, h⟩ := zb2 h
      refine zLSc (w := (zXW g h0 u v)) (wr := []) (wc := (zXW g h0 u v)) (wq := (zXW g h0 u w29)) (wp := (zXW g h0 u w29)) (As := [.ref h0, .int 11, .int (1 + (irem (a1 / 64) 20)), .int 0, .int 0]) (rest := []) (zWi_q g _ _) ⟨hx, hb, hml, hown, hts⟩ (kL_call l g h0 u v 11 (1 + (irem (a1 / 64) 20)) 0 0 htr e29) (va_cwS 5 hts gL_act_L_call rfl rfl rfl hdS_L_call ⟨Nat.le_of_ble_eq_true rfl, Nat.le_of_ble_eq_true rfl⟩) hK hP hD hS hA hAm hN (zXW_fst g h0 u _ _) (List.Perm.refl _) (List.Perm.refl _) rfl hl.1 rfl (Nat.le_of_ble_eq_true rfl) ⟨by show _ ≤ 3; omega, by show _ ≤ 18; omega⟩ dL_act_239 (fun H locs hP hD hS => ?_)
      replace hP : zP g (zXW g h0 u w29) H := hP
      replace hD : va_D A (zXW g h0 u w29) := hD
      cases h
      exact W.widen (by omega) (by omega) (zw_i hx hb hr hlocks hP hS dL_act_242)
    · replace h := zt c28 h
      refine lv_aload_n hx hb dL_act_218 rfl (lv_at hl 2 rfl) ?_
      obtain ⟨r30, w30, e30, h⟩ := zb2 h
      refine zLVp (w := (zXW g h0 u v)) (wr := []) (wc := (zXW g h0 u v)) (wq := (zXW g h0 u w30)) (wp := (zXW g h0 u w30)) (As := []) (rest := []) (zWi_q g _ _) ⟨hx, hb, hml, hown, hts⟩ (kO_flush l g h0 u v e30) (cwV 0 hts gL_act_X3_flush rfl rfl rfl hdV_X3_flush ⟨Nat.le_of_ble_eq_true rfl, Nat.le_of_ble_eq_true rfl⟩) hK hP hD hS hA hAm (zXW_fst g h0 u _ _) (List.Perm.refl _) (List.Perm.refl _) rfl rfl rfl hl.1 rfl (Nat.le_of_ble_eq_true rfl) ⟨by show _ ≤ 3; omega, by show _ ≤ 18; omega⟩ dL_act_219 (fun H locs hP hD hS => ?_)
      replace hP : zP g (zXW g h0 u w30) H := hP
      replace hD : va_D A (zXW g h0 u w30) := hD
      refine lv_goto (tgt := 242) hx hb dL_act_222 (by decide) ?_
      cases h
      exact W.widen (by omega) (by omega) (zw_i hx hb hr hlocks hP hS dL_act_242)
  replace h := zf c27 h
  refine lv_tableOut (tgt := 243) hx hb dL_act_24 (by have n1 := lv_neT (a := 0) c1 (by decide); have n3 := lv_neT (a := 1) c3 (by decide); have n5 := lv_neT (a := 2) c5 (by decide); have n7 := lv_neT (a := 3) c7 (by decide); have n9 := lv_neT (a := 4) c9 (by decide); have n11 := lv_neT (a := 5) c11 (by decide); have n13 := lv_neT (a := 6) c13 (by decide); have n15 := lv_neT (a := 7) c15 (by decide); have n17 := lv_neT (a := 8) c17 (by decide); have n19 := lv_neT (a := 9) c19 (by decide); have n21 := lv_neT (a := 10) c21 (by decide); have n23 := lv_neT (a := 11) c23 (by decide); have n25 := lv_neT (a := 12) c25 (by decide); have n27 := lv_neT (a := 13) c27 (by decide); omega) (by decide) ?_
  refine lv_aload_n hx hb dL_act_243 rfl (lv_at hl 2 rfl) ?_
  refine lv_bipush (v := 11) hx hb dL_act_244 (by decide) ?_
  refine lv_iconst (v := 1) hx hb dL_act_246 (by decide) ?_
  refine lv_iload_n hx hb dL_act_247 rfl (lv_at hl 3 rfl) ?_
  refine lv_bipush (v := 16) hx hb dL_act_248 (by decide) ?_
  refine lv_idiv hx hb dL_act_250 (by decide) ?_
  refine lv_bipush (v := 6) hx hb dL_act_251 (by decide) ?_
  refine lv_irem hx hb dL_act_253 (by decide) ?_
  refine lv_iadd hx hb dL_act_254 ?_
  refine lv_iconst (v := 0) hx hb dL_act_255 (by decide) ?_
  refine lv_iconst (v := 0) hx hb dL_act_256 (by decide) ?_
  obtain ⟨r31, w31, e31, h⟩ := zb2 h
  refine zLSc (w := (zXW g h0 u v)) (wr := []) (wc := (zXW g h0 u v)) (wq := (zXW g h0 u w31)) (wp := (zXW g h0 u w31)) (As := [.ref h0, .int 11, .int (1 + (irem (a1 / 16) 6)), .int 0, .int 0]) (rest := []) (zWi_q g _ _) ⟨hx, hb, hml, hown, hts⟩ (kL_call l g h0 u v 11 (1 + (irem (a1 / 16) 6)) 0 0 htr e31) (va_cwS 5 hts gL_act_L_call rfl rfl rfl hdS_L_call ⟨Nat.le_of_ble_eq_true rfl, Nat.le_of_ble_eq_true rfl⟩) hK hP hD hS hA hAm hN (zXW_fst g h0 u _ _) (List.Perm.refl _) (List.Perm.refl _) rfl hl.1 rfl (Nat.le_of_ble_eq_true rfl) ⟨by show _ ≤ 3; omega, by show _ ≤ 18; omega⟩ dL_act_257 (fun H locs hP hD hS => ?_)
  replace hP : zP g (zXW g h0 u w31) H := hP
  replace hD : va_D A (zXW g h0 u w31) := hD
  cases h
  exact W.widen (by omega) (by omega) (zw_i hx hb hr hlocks hP hS dL_act_260)
