theorem hdV_X4_readText : yX4_readText.cls = RX4 ∧ yX4_readText.cls ≠ "java/lang/invoke/MethodHandle" ∧ yX4_readText.cls ≠ "java/lang/invoke/VarHandle" ∧ (parseMethodDescriptor yX4_readText.desc).map (fun d => d.parameters.length) = some 1 := by decide +kernel
def fX4_errorPosition (sz : Int32) (sF : Int32) (sB : Int32) (tx : Nat → Int32) (tr : Nat → Int32) : Option (Int32 × (Int32) × (Int32) × (Int32) × (Int32) × (Int32) × (Nat → Int32)) :=
  ob6 (fX4_readText sz sF sB tx tr) fun r1 sF1 sB1 sp1 ou1 tr1 =>
  some (r1, 0, sF1, sB1, sp1, ou1, tr1)
theorem mX4_errorPosition_33 : Cond.fieldLink RX4 33 "IdleDiscardsModel" "refusal" "I" ∈ wsX4_errorPosition := by decide +kernel
theorem uX4_errorPosition_X4 : ∀ w ∈ wsX40, w ∈ wsX4_errorPosition := by decide +kernel
theorem mX4_errorPosition_16 : Cond.fieldLink RX4 16 "IdleDiscardsModel" "trial" "[I" ∈ wsX4_errorPosition := by decide +kernel
set_option maxRecDepth 100000 in
set_option maxHeartbeats 4000000 in
theorem kX4_errorPosition (l : Launch) (g : zG) (h0 h1 h2 h3 h4 h5 h6 : Nat) (rf : Int32) (sz : Int32) (ac : Int32) (sF : Int32) (sB : Int32) (sp : Int32) (ou : Int32) (tx : Nat → Int32) (nw : Nat → Int32) (tr : Nat → Int32) (di : Nat → Int32) (ke : Nat → Int32) (ik : Nat → Int32) {r : Int32} {rf' : Int32} {sF' : Int32} {sB' : Int32} {sp' : Int32} {ou' : Int32} {tr' : Nat → Int32} (h : fX4_errorPosition sz sF sB tx tr = some (r, rf', sF', sB', sp', ou', tr')) : Mw l g yX4_errorPosition wsX4_errorPosition { frames := 11, cells := 0, slots := 0, locals := 252 } [.ref h0] (zMA g h0 h1 h2 h3 h4 h5 h6 rf sz ac sF sB sp ou tx nw tr di ke ik) (zWi g (zMA g h0 h1 h2 h3 h4 h5 h6 rf' sz ac sF' sB' sp' ou' tx nw tr' di ke ik) r) := by
  refine zw_in (cc := cX4_errorPosition) (maxL := 1) (ret := (some .int)) (by decide) rfl (Nat.le_of_ble_eq_true rfl) ?_
  intro p e s m below meth c hx hb hr hml hts hown hlocks hK A hA hP hD hS ls hl
  replace hl : lv_has ls 1 [(0, .ref h0)] := hl
  unfold fX4_errorPosition at h
  refine lv_aload_n hx hb dX4_errorPosition_0 rfl (lv_at hl 0 rfl) ?_
  refine lv_iconst (v := 0) hx hb dX4_errorPosition_1 (by decide) ?_
  refine va_put (ci := 4) (v := .int 0) (ty := .int) (C := RX4) (T := TX4) (N := 13) hx hb hts uX4_errorPosition_X4 tyX4 tyX4_ok nmX4 hown hK hP hD hS 0 rfl rfl 0 (by decide) (hts _ mX4_errorPosition_33) (fun _ h9 => h9) rfl (by decide +kernel) rfl rfl (Nat.le_of_ble_eq_true rfl) dX4_errorPosition_2 (fun H locs hP hD hS => ?_)
  replace hP : zP g (zMA g h0 h1 h2 h3 h4 h5 h6 0 sz ac sF sB sp ou tx nw tr di ke ik) H := hP
  replace hD : va_D A (zMA g h0 h1 h2 h3 h4 h5 h6 0 sz ac sF sB sp ou tx nw tr di ke ik) := hD
  refine lv_aload_n hx hb dX4_errorPosition_5 rfl (lv_at hl 0 rfl) ?_
  refine lv_aload_n hx hb dX4_errorPosition_6 rfl (lv_at hl 0 rfl) ?_
  refine va_get (ci := 4) (v := .ref h3) (C := RX4) (T := TX4) (N := 13) hx hb hts uX4_errorPosition_X4 hown hK hP 0 rfl rfl 4 (by decide) (hts _ mX4_errorPosition_16) (fun _ h9 => h9) rfl dX4_errorPosition_7 ?_
  obtain ⟨r1, sF1, sB1, sp1, ou1, tr1, e1, h⟩ := zb6 h
  refine zVw (As := [.ref h3]) (rest := []) (zWi_q g _ _) ⟨hx, hb, hml, hown, hts⟩ (kX4_readText l g h0 h1 h3 (.ref h2) (.ref h3) (.ref h4) (.ref h5) (.ref h6) 0 sz ac sF sB sp ou tx tr e1) (cwV 1 hts gX4_errorPosition_X4_readText rfl rfl rfl hdV_X4_readText ⟨Nat.le_of_ble_eq_true rfl, Nat.le_of_ble_eq_true rfl⟩) hK hP hD hS hA [0, 1, 3] (by decide) rfl rfl 0 rfl rfl rfl hl.1 rfl (Nat.le_of_ble_eq_true rfl) ⟨Nat.zero_le _, Nat.zero_le _⟩ dX4_errorPosition_10 (fun H locs hP hD hS => ?_)
  replace hP : zP g (zMA g h0 h1 h2 h3 h4 h5 h6 0 sz ac sF1 sB1 sp1 ou1 tx nw tr1 di ke ik) H := hP
  replace hD : va_D A (zMA g h0 h1 h2 h3 h4 h5 h6 0 sz ac sF1 sB1 sp1 ou1 tx nw tr1 di ke ik) := hD
  cases h
  exact zw_i hx hb hr hlocks hP hS dX4_errorPosition_13
theorem hdS_X4_copyState : yX4_copyState.cls ≠ "java/lang/invoke/MethodHandle" ∧ yX4_copyState.cls ≠ "java/lang/invoke/VarHandle" ∧ (parseMethodDescriptor yX4_copyState.desc).map (fun d => d.parameters.length) = some 4 := by decide +kernel
def fX4_load (sz : Int32) (ac : Int32) (sF : Int32) (sB : Int32) (tx : Nat → Int32) (nw : Nat → Int32) (tr : Nat → Int32) (ik : Nat → Int32) : Option (Int32 × (Int32) × (Int32) × (Int32) × (Int32) × (Int32) × (Int32) × (Nat → Int32) × (Nat → Int32) × (Nat → Int32)) :=
  ob6 (fX4_readText sz sF sB tx tr) fun r1 sF1 sB1 sp1 ou1 tr1 =>
  if r1 = (-1) then
    ob2 (fX4_refused 0) fun r6 rf6 =>
    if r6 = 0 then
      ob (fX4_copyState 785 785 tr1 nw 0 0) fun nw8 =>
      some (ou1, rf6, 0, sF1, sB1, sp1, ou1, nw8, tr1, (upd (upd ik 0 (vp_nar .boolean 0)) 1 (vp_nar .boolean 0)))
    else
      some (0, rf6, ac, sF1, sB1, sp1, ou1, nw, tr1, ik)
  else
    ob2 (fX4_refused 1) fun r3 rf3 =>
    if r3 = 0 then
      ob (fX4_copyState 785 785 tr1 nw 0 0) fun nw5 =>
      some (ou1, rf3, 0, sF1, sB1, sp1, ou1, nw5, tr1, (upd (upd ik 0 (vp_nar .boolean 0)) 1 (vp_nar .boolean 0)))
    else
      some (0, rf3, ac, sF1, sB1, sp1, ou1, nw, tr1, ik)
theorem mX4_load_16 : Cond.fieldLink RX4 16 "IdleDiscardsModel" "trial" "[I" ∈ wsX4_load := by decide +kernel
theorem uX4_load_X4 : ∀ w ∈ wsX40, w ∈ wsX4_load := by decide +kernel
theorem mX4_load_13 : Cond.fieldLink RX4 13 "IdleDiscardsModel" "now" "[I" ∈ wsX4_load := by decide +kernel
theorem mX4_load_172 : Cond.fieldLink RX4 172 "IdleDiscardsModel" "acts" "I" ∈ wsX4_load := by decide +kernel
theorem mX4_load_25 : Cond.fieldLink RX4 25 "IdleDiscardsModel" "isKept" "[Z" ∈ wsX4_load := by decide +kernel
theorem mX4_load_126 : Cond.fieldLink RX4 126 "IdleDiscardsModel" "out" "I" ∈ wsX4_load := by decide +kernel
set_option maxRecDepth 100000 in
set_option maxHeartbeats 4000000 in
theorem kX4_load (l : Launch) (g : zG) (h0 h1 h2 h3 h4 h5 h6 : Nat) (rf : Int32) (sz : Int32) (ac : Int32) (sF : Int32) (sB : Int32) (sp : Int32) (ou : Int32) (tx : Nat → Int32) (nw : Nat → Int32) (tr : Nat → Int32) (di : Nat → Int32) (ke : Nat → Int32) (ik : Nat → Int32) {r : Int32} {rf' : Int32} {ac' : Int32} {sF' : Int32} {sB' : Int32} {sp' : Int32} {ou' : Int32} {nw' : Nat → Int32} {tr' : Nat → Int32} {ik' : Nat → Int32} (h : fX4_load sz ac sF sB tx nw tr ik = some (r, rf', ac', sF', sB', sp', ou', nw', tr', ik')) : Mw l g yX4_load wsX4_load { frames := 11, cells := 0, slots := 0, locals := 252 } [.ref h0] (zMA g h0 h1 h2 h3 h4 h5 h6 rf sz ac sF sB sp ou tx nw tr di ke ik) (zWi g (zMA g h0 h1 h2 h3 h4 h5 h6 rf' sz ac' sF' sB' sp' ou' tx nw' tr' di ke ik') r) := by
  refine zw_in (cc := cX4_load) (maxL := 1) (ret := (some .int)) (by decide) rfl (Nat.le_of_ble_eq_true rfl) ?_
  intro p e s m below meth c hx hb hr hml hts hown hlocks hK A hA hP hD hS ls hl
  replace hl : lv_has ls 1 [(0, .ref h0)] := hl
  unfold fX4_load at h
  refine lv_aload_n hx hb dX4_load_0 rfl (lv_at hl 0 rfl) ?_
  refine lv_aload_n hx hb dX4_load_1 rfl (lv_at hl 0 rfl) ?_
  refine lv_aload_n hx hb dX4_load_2 rfl (lv_at hl 0 rfl) ?_
  refine va_get (ci := 4) (v := .ref h3) (C := RX4) (T := TX4) (N := 13) hx hb hts uX4_load_X4 hown hK hP 0 rfl rfl 4 (by decide) (hts _ mX4_load_16) (fun _ h9 => h9) rfl dX4_load_3 ?_
  obtain ⟨r1, sF1, sB1, sp1, ou1, tr1, e1, h⟩ := zb6 h
  refine zVw (As := [.ref h3]) (rest := [.ref h0]) (zWi_q g _ _) ⟨hx, hb, hml, hown, hts⟩ (kX4_readText l g h0 h1 h3 (.ref h2) (.ref h3) (.ref h4) (.ref h5) (.ref h6) rf sz ac sF sB sp ou tx tr e1) (cwV 1 hts gX4_load_X4_readText rfl rfl rfl hdV_X4_readText ⟨Nat.le_of_ble_eq_true rfl, Nat.le_of_ble_eq_true rfl⟩) hK hP hD hS hA [0, 1, 3] (by decide) rfl rfl 0 rfl rfl rfl hl.1 rfl (Nat.le_of_ble_eq_true rfl) ⟨Nat.zero_le _, Nat.zero_le _⟩ dX4_load_6 (fun H locs hP hD hS => ?_)
  replace hP : zP g (zMA g h0 h1 h2 h3 h4 h5 h6 rf sz ac sF1 sB1 sp1 ou1 tx nw tr1 di ke ik) H := hP
  replace hD : va_D A (zMA g h0 h1 h2 h3 h4 h5 h6 rf sz ac sF1 sB1 sp1 ou1 tx nw tr1 di ke ik) := hD
  refine lv_iconst (v := (-1)) hx hb dX4_load_9 (by decide) ?_
  refine lv_icmp_ne (tgt := 17) hx hb dX4_load_10 (by decide) (fun c2 => ?_) (fun c2 => ?_)
  · replace h := zf c2 h
    refine lv_iconst (v := 1) hx hb dX4_load_17 (by decide) ?_
    obtain ⟨r3, rf3, e3, h⟩ := zb2 h
    refine zVw (As := [.int 1]) (rest := []) (zWi_q g _ _) ⟨hx, hb, hml, hown, hts⟩ (kX4_refused l g h0 h1 (.ref h2) (.ref h3) (.ref h4) (.ref h5) (.ref h6) rf sz ac sF1 sB1 sp1 ou1 tx 1 e3) (cwV 1 hts gX4_load_X4_refused rfl rfl rfl hdV_X4_refused ⟨Nat.le_of_ble_eq_true rfl, Nat.le_of_ble_eq_true rfl⟩) hK hP hD hS hA [0, 1] (by decide) rfl rfl 0 rfl rfl rfl hl.1 rfl (Nat.le_of_ble_eq_true rfl) ⟨Nat.zero_le _, Nat.zero_le _⟩ dX4_load_18 (fun H locs hP hD hS => ?_)
    replace hP : zP g (zMA g h0 h1 h2 h3 h4 h5 h6 rf3 sz ac sF1 sB1 sp1 ou1 tx nw tr1 di ke ik) H := hP
    replace hD : va_D A (zMA g h0 h1 h2 h3 h4 h5 h6 rf3 sz ac sF1 sB1 sp1 ou1 tx nw tr1 di ke ik) := hD
    refine lv_if_eq (tgt := 26) hx hb dX4_load_21 (by decide) (fun c4 => ?_) (fun c4 => ?_)
    · replace h := zt c4 h
      refine lv_aload_n hx hb dX4_load_26 rfl (lv_at hl 0 rfl) ?_
      refine va_get (ci := 4) (v := .ref h3) (C := RX4) (T := TX4) (N := 13) hx hb hts uX4_load_X4 hown hK hP 0 rfl rfl 4 (by decide) (hts _ mX4_load_16) (fun _ h9 => h9) rfl dX4_load_27 ?_
      refine lv_iconst (v := 0) hx hb dX4_load_30 (by decide) ?_
      refine lv_aload_n hx hb dX4_load_31 rfl (lv_at hl 0 rfl) ?_
      refine va_get (ci := 4) (v := .ref h2) (C := RX4) (T := TX4) (N := 13) hx hb hts uX4_load_X4 hown hK hP 0 rfl rfl 3 (by decide) (hts _ mX4_load_13) (fun _ h9 => h9) rfl dX4_load_32 ?_
      refine lv_iconst (v := 0) hx hb dX4_load_35 (by decide) ?_
      obtain ⟨nw5, e5, h⟩ := zb h
      refine zSw (As := [.ref h3, .int 0, .ref h2, .int 0]) (rest := []) (zWv_q g _) ⟨hx, hb, hml, hown, hts⟩ (kX4_copyState l g 785 785 h3 h2 tr1 nw 0 0 e5) (va_cwS 4 hts gX4_load_X4_copyState rfl rfl rfl hdS_X4_copyState ⟨Nat.le_of_ble_eq_true rfl, Nat.le_of_ble_eq_true rfl⟩) hK hP hD hS hA [3, 2] (by decide) rfl rfl rfl hl.1 rfl (Nat.le_of_ble_eq_true rfl) ⟨Nat.zero_le _, Nat.zero_le _⟩ dX4_load_36 (fun H locs hP hD hS => ?_)
      replace hP : zP g (zMA g h0 h1 h2 h3 h4 h5 h6 rf3 sz ac sF1 sB1 sp1 ou1 tx nw5 tr1 di ke ik) H := hP
      replace hD : va_D A (zMA g h0 h1 h2 h3 h4 h5 h6 rf3 sz ac sF1 sB1 sp1 ou1 tx nw5 tr1 di ke ik) := hD
      refine lv_aload_n hx hb dX4_load_39 rfl (lv_at hl 0 rfl) ?_
      refine lv_iconst (v := 0) hx hb dX4_load_40 (by decide) ?_
      refine va_put (ci := 4) (v := .int 0) (ty := .int) (C := RX4) (T := TX4) (N := 13) hx hb hts uX4_load_X4 tyX4 tyX4_ok nmX4 hown hK hP hD hS 0 rfl rfl 6 (by decide) (hts _ mX4_load_172) (fun _ h9 => h9) rfl (by decide +kernel) rfl rfl (Nat.le_of_ble_eq_true rfl) dX4_load_41 (fun H locs hP hD hS => ?_)
      replace hP : zP g (zMA g h0 h1 h2 h3 h4 h5 h6 rf3 sz 0 sF1 sB1 sp1 ou1 tx nw5 tr1 di ke ik) H := hP
      replace hD : va_D A (zMA g h0 h1 h2 h3 h4 h5 h6 rf3 sz 0 sF1 sB1 sp1 ou1 tx nw5 tr1 di ke ik) := hD
      refine lv_aload_n hx hb dX4_load_44 rfl (lv_at hl 0 rfl) ?_
      refine va_get (ci := 4) (v := .ref h6) (C := RX4) (T := TX4) (N := 13) hx hb hts uX4_load_X4 hown hK hP 0 rfl rfl 8 (by decide) (hts _ mX4_load_25) (fun _ h9 => h9) rfl dX4_load_45 ?_
      refine lv_iconst (v := 0) hx hb dX4_load_48 (by decide) ?_
      refine lv_iconst (v := 0) hx hb dX4_load_49 (by decide) ?_
      refine za_zst hx hb hK hP hD hS 6 rfl 0 (by decide) (by decide) dX4_load_50 (fun H locs hP hD hS => ?_)
      replace hP : zP g (zMA g h0 h1 h2 h3 h4 h5 h6 rf3 sz 0 sF1 sB1 sp1 ou1 tx nw5 tr1 di ke (upd ik 0 (vp_nar .boolean 0))) H := hP
      replace hD : va_D A (zMA g h0 h1 h2 h3 h4 h5 h6 rf3 sz 0 sF1 sB1 sp1 ou1 tx nw5 tr1 di ke (upd ik 0 (vp_nar .boolean 0))) := hD
      refine lv_aload_n hx hb dX4_load_51 rfl (lv_at hl 0 rfl) ?_
      refine va_get (ci := 4) (v := .ref h6) (C := RX4) (T := TX4) (N := 13) hx hb hts uX4_load_X4 hown hK hP 0 rfl rfl 8 (by decide) (hts _ mX4_load_25) (fun _ h9 => h9) rfl dX4_load_52 ?_
      refine lv_iconst (v := 1) hx hb dX4_load_55 (by decide) ?_
      refine lv_iconst (v := 0) hx hb dX4_load_56 (by decide) ?_
      refine za_zst hx hb hK hP hD hS 6 rfl 1 (by decide) (by decide) dX4_load_57 (fun H locs hP hD hS => ?_)
      replace hP : zP g (zMA g h0 h1 h2 h3 h4 h5 h6 rf3 sz 0 sF1 sB1 sp1 ou1 tx nw5 tr1 di ke (upd (upd ik 0 (vp_nar .boolean 0)) 1 (vp_nar .boolean 0))) H := hP
      replace hD : va_D A (zMA g h0 h1 h2 h3 h4 h5 h6 rf3 sz 0 sF1 sB1 sp1 ou1 tx nw5 tr1 di ke (upd (upd ik 0 (vp_nar .boolean 0)) 1 (vp_nar .boolean 0))) := hD
      refine lv_aload_n hx hb dX4_load_58 rfl (lv_at hl 0 rfl) ?_
      refine va_get (ci := 4) (v := .int ou1) (C := RX4) (T := TX4) (N := 13) hx hb hts uX4_load_X4 hown hK hP 0 rfl rfl 12 (by decide) (hts _ mX4_load_126) (fun _ h9 => h9) rfl dX4_load_59 ?_
      cases h
      exact zw_i hx hb hr hlocks hP hS dX4_load_62
    · replace h := zf c4 h
      refine lv_iconst (v := 0) hx hb dX4_load_24 (by decide) ?_
      cases h
      exact zw_i hx hb hr hlocks hP hS dX4_load_25
  · replace h := zt c2 h
    refine lv_iconst (v := 0) hx hb dX4_load_13 (by decide) ?_
    refine lv_goto (tgt := 18) hx hb dX4_load_14 (by decide) ?_
    obtain ⟨r6, rf6, e6, h⟩ := zb2 h
    refine zVw (As := [.int 0]) (rest := []) (zWi_q g _ _) ⟨hx, hb, hml, hown, hts⟩ (kX4_refused l g h0 h1 (.ref h2) (.ref h3) (.ref h4) (.ref h5) (.ref h6) rf sz ac sF1 sB1 sp1 ou1 tx 0 e6) (cwV 1 hts gX4_load_X4_refused rfl rfl rfl hdV_X4_refused ⟨Nat.le_of_ble_eq_true rfl, Nat.le_of_ble_eq_true rfl⟩) hK hP hD hS hA [0, 1] (by decide) rfl rfl 0 rfl rfl rfl hl.1 rfl (Nat.le_of_ble_eq_true rfl) ⟨Nat.zero_le _, Nat.zero_le _⟩ dX4_load_18 (fun H locs hP hD hS => ?_)
    replace hP : zP g (zMA g h0 h1 h2 h3 h4 h5 h6 rf6 sz ac sF1 sB1 sp1 ou1 tx nw tr1 di ke ik) H := hP
    replace hD : va_D A (zMA g h0 h1 h2 h3 h4 h5 h6 rf6 sz ac sF1 sB1 sp1 ou1 tx nw tr1 di ke ik) := hD
    refine lv_if_eq (tgt := 26) hx hb dX4_load_21 (by decide) (fun c7 => ?_) (fun c7 => ?_)
    · replace h := zt c7 h
      refine lv_aload_n hx hb dX4_load_26 rfl (lv_at hl 0 rfl) ?_
      refine va_get (ci := 4) (v := .ref h3) (C := RX4) (T := TX4) (N := 13) hx hb hts uX4_load_X4 hown hK hP 0 rfl rfl 4 (by decide) (hts _ mX4_load_16) (fun _ h9 => h9) rfl dX4_load_27 ?_
      refine lv_iconst (v := 0) hx hb dX4_load_30 (by decide) ?_
      refine lv_aload_n hx hb dX4_load_31 rfl (lv_at hl 0 rfl) ?_
      refine va_get (ci := 4) (v := .ref h2) (C := RX4) (T := TX4) (N := 13) hx hb hts uX4_load_X4 hown hK hP 0 rfl rfl 3 (by decide) (hts _ mX4_load_13) (fun _ h9 => h9) rfl dX4_load_32 ?_
      refine lv_iconst (v := 0) hx hb dX4_load_35 (by decide) ?_
      obtain ⟨nw8, e8, h⟩ := zb h
      refine zSw (As := [.ref h3, .int 0, .ref h2, .int 0]) (rest := []) (zWv_q g _) ⟨hx, hb, hml, hown, hts⟩ (kX4_copyState l g 785 785 h3 h2 tr1 nw 0 0 e8) (va_cwS 4 hts gX4_load_X4_copyState rfl rfl rfl hdS_X4_copyState ⟨Nat.le_of_ble_eq_true rfl, Nat.le_of_ble_eq_true rfl⟩) hK hP hD hS hA [3, 2] (by decide) rfl rfl rfl hl.1 rfl (Nat.le_of_ble_eq_true rfl) ⟨Nat.zero_le _, Nat.zero_le _⟩ dX4_load_36 (fun H locs hP hD hS => ?_)
      replace hP : zP g (zMA g h0 h1 h2 h3 h4 h5 h6 rf6 sz ac sF1 sB1 sp1 ou1 tx nw8 tr1 di ke ik) H := hP
      replace hD : va_D A (zMA g h0 h1 h2 h3 h4 h5 h6 rf6 sz ac sF1 sB1 sp1 ou1 tx nw8 tr1 di ke ik) := hD
      refine lv_aload_n hx hb dX4_load_39 rfl (lv_at hl 0 rfl) ?_
      refine lv_iconst (v := 0) hx hb dX4_load_40 (by decide) ?_
      refine va_put (ci := 4) (v := .int 0) (ty := .int) (C := RX4) (T := TX4) (N := 13) hx hb hts uX4_load_X4 tyX4 tyX4_ok nmX4 hown hK hP hD hS 0 rfl rfl 6 (by decide) (hts _ mX4_load_172) (fun _ h9 => h9) rfl (by decide +kernel) rfl rfl (Nat.le_of_ble_eq_true rfl) dX4_load_41 (fun H locs hP hD hS => ?_)
      replace hP : zP g (zMA g h0 h1 h2 h3 h4 h5 h6 rf6 sz 0 sF1 sB1 sp1 ou1 tx nw8 tr1 di ke ik) H := hP
      replace hD : va_D A (zMA g h0 h1 h2 h3 h4 h5 h6 rf6 sz 0 sF1 sB1 sp1 ou1 tx nw8 tr1 di ke ik) := hD
      refine lv_aload_n hx hb dX4_load_44 rfl (lv_at hl 0 rfl) ?_
      refine va_get (ci := 4) (v := .ref h6) (C := RX4) (T := TX4) (N := 13) hx hb hts uX4_load_X4 hown hK hP 0 rfl rfl 8 (by decide) (hts _ mX4_load_25) (fun _ h9 => h9) rfl dX4_load_45 ?_
      refine lv_iconst (v := 0) hx hb dX4_load_48 (by decide) ?_
      refine lv_iconst (v := 0) hx hb dX4_load_49 (by decide) ?_
      refine za_zst hx hb hK hP hD hS 6 rfl 0 (by decide) (by decide) dX4_load_50 (fun H locs hP hD hS => ?_)
      replace hP : zP g (zMA g h0 h1 h2 h3 h4 h5 h6 rf6 sz 0 sF1 sB1 sp1 ou1 tx nw8 tr1 di ke (upd ik 0 (vp_nar .boolean 0))) H := hP
      replace hD : va_D A (zMA g h0 h1 h2 h3 h4 h5 h6 rf6 sz 0 sF1 sB1 sp1 ou1 tx nw8 tr1 di ke (upd ik 0 (vp_nar .boolean 0))) := hD
      refine lv_aload_n hx hb dX4_load_51 rfl (lv_at hl 0 rfl) ?_
      refine va_get (ci := 4) (v := .ref h6) (C := RX4) (T := TX4) (N := 13) hx hb hts uX4_load_X4 hown hK hP 0 rfl rfl 8 (by decide) (hts _ mX4_load_25) (fun _ h9 => h9) rfl dX4_load_52 ?_
      refine lv_iconst (v := 1) hx hb dX4_load_55 (by decide) ?_
      refine lv_iconst (v := 0) hx hb dX4_load_56 (by decide) ?_
      refine za_zst hx hb hK hP hD hS 6 rfl 1 (by decide) (by decide) dX4_load_57 (fun H locs hP hD hS => ?_)
      replace hP : zP g (zMA g h0 h1 h2 h3 h4 h5 h6 rf6 sz 0 sF1 sB1 sp1 ou1 tx nw8 tr1 di ke (upd (upd ik 0 (vp_nar .boolean 0)) 1 (vp_nar .boolean 0))) H := hP
      replace hD : va_D A (zMA g h0 h1 h2 h3 h4 h5 h6 rf6 sz 0 sF1 sB1 sp1 ou1 tx nw8 tr1 di ke (upd (upd ik 0 (vp_nar .boolean 0)) 1 (vp_nar .boolean 0))) := hD
      refine lv_aload_n hx hb dX4_load_58 rfl (lv_at hl 0 rfl) ?_
      refine va_get (ci := 4) (v := .int ou1) (C := RX4) (T := TX4) (N := 13) hx hb hts uX4_load_X4 hown hK hP 0 rfl rfl 12 (by decide) (hts _ mX4_load_126) (fun _ h9 => h9) rfl dX4_load_59 ?_
      cases h
      exact zw_i hx hb hr hlocks hP hS dX4_load_62
    · replace h := zf c7 h
      refine lv_iconst (v := 0) hx hb dX4_load_24 (by decide) ?_
      cases h
      exact zw_i hx hb hr hlocks hP hS dX4_load_25
theorem hdS_X4_lost : yX4_lost.cls ≠ "java/lang/invoke/MethodHandle" ∧ yX4_lost.cls ≠ "java/lang/invoke/VarHandle" ∧ (parseMethodDescriptor yX4_lost.desc).map (fun d => d.parameters.length) = some 1 := by decide +kernel
theorem hdS_X4_queuedBlocks : yX4_queuedBlocks.cls ≠ "java/lang/invoke/MethodHandle" ∧ yX4_queuedBlocks.cls ≠ "java/lang/invoke/VarHandle" ∧ (parseMethodDescriptor yX4_queuedBlocks.desc).map (fun d => d.parameters.length) = some 1 := by decide +kernel
theorem hdS_X4_sum : yX4_sum.cls ≠ "java/lang/invoke/MethodHandle" ∧ yX4_sum.cls ≠ "java/lang/invoke/VarHandle" ∧ (parseMethodDescriptor yX4_sum.desc).map (fun d => d.parameters.length) = some 2 := by decide +kernel
def fX4_about (nw : Nat → Int32) (a1 : Int32) : Option (Int32 × (Int32)) :=
  ob (fX4_in a1.toInt64 0 (10)) fun r1 =>
  if r1 = 0 then
    ob2 (fX4_refused 1) fun r3 rf3 =>
    if r3 = 0 then
      if a1 = 0 then
        ob (fX4_sum nw 0) fun r6 =>
        some (r6, rf3)
      else if a1 = 1 then
        ob (fX4_sum nw 256) fun r8 =>
        some (r8, rf3)
      else if a1 = 2 then
        ob (fX4_ranges nw) fun r10 =>
        some (r10, rf3)
      else if a1 = 3 then
        ob (fX4_queuedBlocks nw) fun r12 =>
        some (r12, rf3)
      else if a1 = 9 then
        ob (fX4_allPinned nw) fun r14 =>
        some (r14, rf3)
      else if a1 = 10 then
        ob (fX4_lost nw) fun r16 =>
        some (r16, rf3)
      else if ((768 + a1) - 4) < 0 ∨ 785 ≤ ((768 + a1) - 4).toNatClampNeg then none else
        some ((nw ((768 + a1) - 4).toNatClampNeg), rf3)
    else
      some (0, rf3)
  else
    ob2 (fX4_refused 0) fun r21 rf21 =>
    if r21 = 0 then
      if a1 = 0 then
        ob (fX4_sum nw 0) fun r24 =>
        some (r24, rf21)
      else if a1 = 1 then
        ob (fX4_sum nw 256) fun r26 =>
        some (r26, rf21)
      else if a1 = 2 then
        ob (fX4_ranges nw) fun r28 =>
        some (r28, rf21)
      else if a1 = 3 then
        ob (fX4_queuedBlocks nw) fun r30 =>
        some (r30, rf21)
      else if a1 = 9 then
        ob (fX4_allPinned nw) fun r32 =>
        some (r32, rf21)
      else if a1 = 10 then
        ob (fX4_lost nw) fun r34 =>
        some (r34, rf21)
      else if ((768 + a1) - 4) < 0 ∨ 785 ≤ ((768 + a1) - 4).toNatClampNeg then none else
        some ((nw ((768 + a1) - 4).toNatClampNeg), rf21)
    else
      some (0, rf21)
theorem mX4_about_175 : Cond.constantLong RX4 175 (10) ∈ wsX4_about := by decide +kernel
theorem mX4_about_13 : Cond.fieldLink RX4 13 "IdleDiscardsModel" "now" "[I" ∈ wsX4_about := by decide +kernel
theorem uX4_about_X4 : ∀ w ∈ wsX40, w ∈ wsX4_about := by decide +kernel
set_option maxRecDepth 100000 in
set_option maxHeartbeats 4000000 in
theorem kX4_about (l : Launch) (g : zG) (h0 h1 h2 h3 h4 h5 h6 : Nat) (rf : Int32) (sz : Int32) (ac : Int32) (sF : Int32) (sB : Int32) (sp : Int32) (ou : Int32) (tx : Nat → Int32) (nw : Nat → Int32) (tr : Nat → Int32) (di : Nat → Int32) (ke : Nat → Int32) (ik : Nat → Int32) (a1 : Int32) {r : Int32} {rf' : Int32} (h : fX4_about nw a1 = some (r, rf')) : Mw l g yX4_about wsX4_about { frames := 5, cells := 0, slots := 0, locals := 109 } [.ref h0, .int a1] (zMA g h0 h1 h2 h3 h4 h5 h6 rf sz ac sF sB sp ou tx nw tr di ke ik) (zWi g (zMA g h0 h1 h2 h3 h4 h5 h6 rf' sz ac sF sB sp ou tx nw tr di ke ik) r) := by
  refine zw_in (cc := cX4_about) (maxL := 2) (ret := (some .int)) (by decide) rfl (Nat.le_of_ble_eq_true rfl) ?_
  intro p e s m below meth c hx hb hr hml hts hown hlocks hK A hA hP hD hS ls hl
  replace hl : lv_has ls 2 [(0, .ref h0), (1, .int a1)] := hl
  unfold fX4_about at h
  refine lv_aload_n hx hb dX4_about_0 rfl (lv_at hl 0 rfl) ?_
  refine lv_iload_n hx hb dX4_about_1 rfl (lv_at hl 1 rfl) ?_
  refine lv_i2l (v := a1.toInt64) hx hb dX4_about_2 rfl ?_
  refine lv_lconst (v := 0) hx hb dX4_about_3 (by decide) ?_
  refine lv_ldc2 hx hb hown (hts _ mX4_about_175) dX4_about_4 ?_
  obtain ⟨r1, e1, h⟩ := zb h
  refine zS (As := [.long a1.toInt64, .long 0, .long (10)]) (rest := [.ref h0]) (zQi_q _) ⟨hx, hb, hml, hown, hts⟩ (kX4_in l g a1.toInt64 0 (10) e1) (va_cwS 3 hts gX4_about_X4_in rfl rfl rfl hdS_X4_in ⟨Nat.le_of_ble_eq_true rfl, Nat.le_of_ble_eq_true rfl⟩) hK hP [] rfl rfl hl.1 rfl (Nat.le_of_ble_eq_true rfl) ⟨Nat.zero_le _, Nat.zero_le _⟩ dX4_about_7 ?_
  refine lv_if_eq (tgt := 17) hx hb dX4_about_10 (by decide) (fun c2 => ?_) (fun c2 => ?_)
  · replace h := zt c2 h
    refine lv_iconst (v := 1) hx hb dX4_about_17 (by decide) ?_
    obtain ⟨r3, rf3, e3, h⟩ := zb2 h
    refine zVw (As := [.int 1]) (rest := []) (zWi_q g _ _) ⟨hx, hb, hml, hown, hts⟩ (kX4_refused l g h0 h1 (.ref h2) (.ref h3) (.ref h4) (.ref h5) (.ref h6) rf sz ac sF sB sp ou tx 1 e3) (cwV 1 hts gX4_about_X4_refused rfl rfl rfl hdV_X4_refused ⟨Nat.le_of_ble_eq_true rfl, Nat.le_of_ble_eq_true rfl⟩) hK hP hD hS hA [0, 1] (by decide) rfl rfl 0 rfl rfl rfl hl.1 rfl (Nat.le_of_ble_eq_true rfl) ⟨Nat.zero_le _, Nat.zero_le _⟩ dX4_about_18 (fun H locs hP hD hS => ?_)
    replace hP : zP g (zMA g h0 h1 h2 h3 h4 h5 h6 rf3 sz ac sF sB sp ou tx nw tr di ke ik) H := hP
    replace hD : va_D A (zMA g h0 h1 h2 h3 h4 h5 h6 rf3 sz ac sF sB sp ou tx nw tr di ke ik) := hD
    refine lv_if_eq (tgt := 26) hx hb dX4_about_21 (by decide) (fun c4 => ?_) (fun c4 => ?_)
    · replace h := zt c4 h
      refine lv_iload_n hx hb dX4_about_26 rfl (lv_at hl 1 rfl) ?_
      by_cases c5 : a1 = 0
      · replace h := zt c5 h
        refine lv_tableIn (tgt := 84) (off := 57) hx hb dX4_about_27 (by rw [c5]; decide) (by rw [c5]; decide) (by rw [c5]; rfl) (by decide) ?_
        refine lv_aload_n hx hb dX4_about_84 rfl (lv_at hl 0 rfl) ?_
        refine va_get (ci := 4) (v := .ref h2) (C := RX4) (T := TX4) (N := 13) hx hb hts uX4_about_X4 hown hK hP 0 rfl rfl 3 (by decide) (hts _ mX4_about_13) (fun _ h9 => h9) rfl dX4_about_85 ?_
        refine lv_iconst (v := 0) hx hb dX4_about_88 (by decide) ?_
        obtain ⟨r6, e6, h⟩ := zb h
        refine zS (As := [.ref h2, .int 0]) (rest := []) (zQi_q _) ⟨hx, hb, hml, hown, hts⟩ (kX4_sum l g h2 nw 0 e6) (va_cwS 2 hts gX4_about_X4_sum rfl rfl rfl hdS_X4_sum ⟨Nat.le_of_ble_eq_true rfl, Nat.le_of_ble_eq_true rfl⟩) hK hP [2] rfl rfl hl.1 rfl (Nat.le_of_ble_eq_true rfl) ⟨Nat.zero_le _, Nat.zero_le _⟩ dX4_about_89 ?_
        cases h
        exact zw_i hx hb hr hlocks hP hS dX4_about_92
      replace h := zf c5 h
      by_cases c7 : a1 = 1
      · replace h := zt c7 h
        refine lv_tableIn (tgt := 93) (off := 66) hx hb dX4_about_27 (by rw [c7]; decide) (by rw [c7]; decide) (by rw [c7]; rfl) (by decide) ?_
        refine lv_aload_n hx hb dX4_about_93 rfl (lv_at hl 0 rfl) ?_
        refine va_get (ci := 4) (v := .ref h2) (C := RX4) (T := TX4) (N := 13) hx hb hts uX4_about_X4 hown hK hP 0 rfl rfl 3 (by decide) (hts _ mX4_about_13) (fun _ h9 => h9) rfl dX4_about_94 ?_
        refine lv_sipush (v := 256) hx hb dX4_about_97 (by decide) ?_
        obtain ⟨r8, e8, h⟩ := zb h
        refine zS (As := [.ref h2, .int 256]) (rest := []) (zQi_q _) ⟨hx, hb, hml, hown, hts⟩ (kX4_sum l g h2 nw 256 e8) (va_cwS 2 hts gX4_about_X4_sum rfl rfl rfl hdS_X4_sum ⟨Nat.le_of_ble_eq_true rfl, Nat.le_of_ble_eq_true rfl⟩) hK hP [2] rfl rfl hl.1 rfl (Nat.le_of_ble_eq_true rfl) ⟨Nat.zero_le _, Nat.zero_le _⟩ dX4_about_100 ?_
        cases h
        exact zw_i hx hb hr hlocks hP hS dX4_about_103
      replace h := zf c7 h
      by_cases c9 : a1 = 2
      · replace h := zt c9 h
        refine lv_tableIn (tgt := 104) (off := 77) hx hb dX4_about_27 (by rw [c9]; decide) (by rw [c9]; decide) (by rw [c9]; rfl) (by decide) ?_
        refine lv_aload_n hx hb dX4_about_104 rfl (lv_at hl 0 rfl) ?_
        refine va_get (ci := 4) (v := .ref h2) (C := RX4) (T := TX4) (N := 13) hx hb hts uX4_about_X4 hown hK hP 0 rfl rfl 3 (by decide) (hts _ mX4_about_13) (fun _ h9 => h9) rfl dX4_about_105 ?_
        obtain ⟨r10, e10, h⟩ := zb h
        refine zS (As := [.ref h2]) (rest := []) (zQi_q _) ⟨hx, hb, hml, hown, hts⟩ (kX4_ranges l g h2 nw e10) (va_cwS 1 hts gX4_about_X4_ranges rfl rfl rfl hdS_X4_ranges ⟨Nat.le_of_ble_eq_true rfl, Nat.le_of_ble_eq_true rfl⟩) hK hP [2] rfl rfl hl.1 rfl (Nat.le_of_ble_eq_true rfl) ⟨Nat.zero_le _, Nat.zero_le _⟩ dX4_about_108 ?_
        cases h
        exact zw_i hx hb hr hlocks hP hS dX4_about_111
      replace h := zf c9 h
      by_cases c11 : a1 = 3
      · replace h := zt c11 h
        refine lv_tableIn (tgt := 112) (off := 85) hx hb dX4_about_27 (by rw [c11]; decide) (by rw [c11]; decide) (by rw [c11]; rfl) (by decide) ?_
        refine lv_aload_n hx hb dX4_about_112 rfl (lv_at hl 0 rfl) ?_
        refine va_get (ci := 4) (v := .ref h2) (C := RX4) (T := TX4) (N := 13) hx hb hts uX4_about_X4 hown hK hP 0 rfl rfl 3 (by decide) (hts _ mX4_about_13) (fun _ h9 => h9) rfl dX4_about_113 ?_
        obtain ⟨r12, e12, h⟩ := zb h
        refine zS (As := [.ref h2]) (rest := []) (zQi_q _) ⟨hx, hb, hml, hown, hts⟩ (kX4_queuedBlocks l g h2 nw e12) (va_cwS 1 hts gX4_about_X4_queuedBlocks rfl rfl rfl hdS_X4_queuedBlocks ⟨Nat.le_of_ble_eq_true rfl, Nat.le_of_ble_eq_true rfl⟩) hK hP [2] rfl rfl hl.1 rfl (Nat.le_of_ble_eq_true rfl) ⟨Nat.zero_le _, Nat.zero_le _⟩ dX4_about_116 ?_
        cases h
        exact zw_i hx hb hr hlocks hP hS dX4_about_119
      replace h := zf c11 h
      by_cases c13 : a1 = 9
      · replace h := zt c13 h
        refine lv_tableIn (tgt := 120) (off := 93) hx hb dX4_about_27 (by rw [c13]; decide) (by rw [c13]; decide) (by rw [c13]; rfl) (by decide) ?_
        refine lv_aload_n hx hb dX4_about_120 rfl (lv_at hl 0 rfl) ?_
        refine va_get (ci := 4) (v := .ref h2) (C := RX4) (T := TX4) (N := 13) hx hb hts uX4_about_X4 hown hK hP 0 rfl rfl 3 (by decide) (hts _ mX4_about_13) (fun _ h9 => h9) rfl dX4_about_121 ?_
        obtain ⟨r14, e14, h⟩ := zb h
        refine zS (As := [.ref h2]) (rest := []) (zQi_q _) ⟨hx, hb, hml, hown, hts⟩ (kX4_allPinned l g h2 nw e14) (va_cwS 1 hts gX4_about_X4_allPinned rfl rfl rfl hdS_X4_allPinned ⟨Nat.le_of_ble_eq_true rfl, Nat.le_of_ble_eq_true rfl⟩) hK hP [2] rfl rfl hl.1 rfl (Nat.le_of_ble_eq_true rfl) ⟨Nat.zero_le _, Nat.zero_le _⟩ dX4_about_124 ?_
        cases h
        exact zw_i hx hb hr hlocks hP hS dX4_about_127
      replace h := zf c13 h
      by_cases c15 : a1 = 10
      · replace h := zt c15 h
        refine lv_tableIn (tgt := 128) (off := 101) hx hb dX4_about_27 (by rw [c15]; decide) (by rw [c15]; decide) (by rw [c15]; rfl) (by decide) ?_
        refine lv_aload_n hx hb dX4_about_128 rfl (lv_at hl 0 rfl) ?_
        refine va_get (ci := 4) (v := .ref h2) (C := RX4) (T := TX4) (N := 13) hx hb hts uX4_about_X4 hown hK hP 0 rfl rfl 3 (by decide) (hts _ mX4_about_13) (fun _ h9 => h9) rfl dX4_about_129 ?_
        obtain ⟨r16, e16, h⟩ := zb h
        refine zS (As := [.ref h2]) (rest := []) (zQi_q _) ⟨hx, hb, hml, hown, hts⟩ (kX4_lost l g h2 nw e16) (va_cwS 1 hts gX4_about_X4_lost rfl rfl rfl hdS_X4_lost ⟨Nat.le_of_ble_eq_true rfl, Nat.le_of_ble_eq_true rfl⟩) hK hP [2] rfl rfl hl.1 rfl (Nat.le_of_ble_eq_true rfl) ⟨Nat.zero_le _, Nat.zero_le _⟩ dX4_about_132 ?_
        cases h
        exact zw_i hx hb hr hlocks hP hS dX4_about_135
      replace h := zf c15 h
      by_cases c18 : a1.toInt < 0 ∨ 10 < a1.toInt
      · refine lv_tableOut (tgt := 136) hx hb dX4_about_27 c18 (by decide) ?_
        refine lv_aload_n hx hb dX4_about_136 rfl (lv_at hl 0 rfl) ?_
        refine va_get (ci := 4) (v := .ref h2) (C := RX4) (T := TX4) (N := 13) hx hb hts uX4_about_X4 hown hK hP 0 rfl rfl 3 (by decide) (hts _ mX4_about_13) (fun _ h9 => h9) rfl dX4_about_137 ?_
        refine lv_sipush (v := 768) hx hb dX4_about_140 (by decide) ?_
        refine lv_iload_n hx hb dX4_about_143 rfl (lv_at hl 1 rfl) ?_
        refine lv_iadd hx hb dX4_about_144 ?_
        refine lv_iconst (v := 4) hx hb dX4_about_145 (by decide) ?_
        refine lv_isub hx hb dX4_about_146 ?_
        obtain ⟨i19, h⟩ := zi h
        refine za_ild hx hb hK hP 2 rfl _ rfl i19 dX4_about_147 ?_
        cases h
        exact zw_i hx hb hr hlocks hP hS dX4_about_148
      · have w18 : a1.toInt = 4 ∨ a1.toInt = 5 ∨ a1.toInt = 6 ∨ a1.toInt = 7 ∨ a1.toInt = 8 := by have n5 := lv_neT (a := 0) c5 (by decide); have n7 := lv_neT (a := 1) c7 (by decide); have n9 := lv_neT (a := 2) c9 (by decide); have n11 := lv_neT (a := 3) c11 (by decide); have n13 := lv_neT (a := 9) c13 (by decide); have n15 := lv_neT (a := 10) c15 (by decide); omega
        refine lv_tableIn (tgt := 136) (off := 109) hx hb dX4_about_27 (by omega) (by omega) (by rcases w18 with w18 | w18 | w18 | w18 | w18 <;> (rw [w18]; rfl)) (by decide) ?_
        refine lv_aload_n hx hb dX4_about_136 rfl (lv_at hl 0 rfl) ?_
        refine va_get (ci := 4) (v := .ref h2) (C := RX4) (T := TX4) (N := 13) hx hb hts uX4_about_X4 hown hK hP 0 rfl rfl 3 (by decide) (hts _ mX4_about_13) (fun _ h9 => h9) rfl dX4_about_137 ?_
        refine lv_sipush (v := 768) hx hb dX4_about_140 (by decide) ?_
        refine lv_iload_n hx hb dX4_about_143 rfl (lv_at hl 1 rfl) ?_
        refine lv_iadd hx hb dX4_about_144 ?_
        refine lv_iconst (v := 4) hx hb dX4_about_145 (by decide) ?_
        refine lv_isub hx hb dX4_about_146 ?_
        obtain ⟨i20, h⟩ := zi h
        refine za_ild hx hb hK hP 2 rfl _ rfl i20 dX4_about_147 ?_
        cases h
        exact zw_i hx hb hr hlocks hP hS dX4_about_148
    · replace h := zf c4 h
      refine lv_iconst (v := 0) hx hb dX4_about_24 (by decide) ?_
      cases h
      exact zw_i hx hb hr hlocks hP hS dX4_about_25
  · replace h := zf c2 h
    refine lv_iconst (v := 0) hx hb dX4_about_13 (by decide) ?_
    refine lv_goto (tgt := 18) hx hb dX4_about_14 (by decide) ?_
    obtain ⟨r21, rf21, e21, h⟩ := zb2 h
    refine zVw (As := [.int 0]) (rest := []) (zWi_q g _ _) ⟨hx, hb, hml, hown, hts⟩ (kX4_refused l g h0 h1 (.ref h2) (.ref h3) (.ref h4) (.ref h5) (.ref h6) rf sz ac sF sB sp ou tx 0 e21) (cwV 1 hts gX4_about_X4_refused rfl rfl rfl hdV_X4_refused ⟨Nat.le_of_ble_eq_true rfl, Nat.le_of_ble_eq_true rfl⟩) hK hP hD hS hA [0, 1] (by decide) rfl rfl 0 rfl rfl rfl hl.1 rfl (Nat.le_of_ble_eq_true rfl) ⟨Nat.zero_le _, Nat.zero_le _⟩ dX4_about_18 (fun H locs hP hD hS => ?_)
    replace hP : zP g (zMA g h0 h1 h2 h3 h4 h5 h6 rf21 sz ac sF sB sp ou tx nw tr di ke ik) H := hP
    replace hD : va_D A (zMA g h0 h1 h2 h3 h4 h5 h6 rf21 sz ac sF sB sp ou tx nw tr di ke ik) := hD
    refine lv_if_eq (tgt := 26) hx hb dX4_about_21 (by decide) (fun c22 => ?_) (fun c22 => ?_)
    · replace h := zt c22 h
      refine lv_iload_n hx hb dX4_about_26 rfl (lv_at hl 1 rfl) ?_
      by_cases c23 : a1 = 0
      · replace h := zt c23 h
        refine lv_tableIn (tgt := 84) (off := 57) hx hb dX4_about_27 (by rw [c23]; decide) (by rw [c23]; decide) (by rw [c23]; rfl) (by decide) ?_
        refine lv_aload_n hx hb dX4_about_84 rfl (lv_at hl 0 rfl) ?_
        refine va_get (ci := 4) (v := .ref h2) (C := RX4) (T := TX4) (N := 13) hx hb hts uX4_about_X4 hown hK hP 0 rfl rfl 3 (by decide) (hts _ mX4_about_13) (fun _ h9 => h9) rfl dX4_about_85 ?_
        refine lv_iconst (v := 0) hx hb dX4_about_88 (by decide) ?_
        obtain ⟨r24, e24, h⟩ := zb h
        refine zS (As := [.ref h2, .int 0]) (rest := []) (zQi_q _) ⟨hx, hb, hml, hown, hts⟩ (kX4_sum l g h2 nw 0 e24) (va_cwS 2 hts gX4_about_X4_sum rfl rfl rfl hdS_X4_sum ⟨Nat.le_of_ble_eq_true rfl, Nat.le_of_ble_eq_true rfl⟩) hK hP [2] rfl rfl hl.1 rfl (Nat.le_of_ble_eq_true rfl) ⟨Nat.zero_le _, Nat.zero_le _⟩ dX4_about_89 ?_
        cases h
        exact zw_i hx hb hr hlocks hP hS dX4_about_92
      replace h := zf c23 h
      by_cases c25 : a1 = 1
      · replace h := zt c25 h
        refine lv_tableIn (tgt := 93) (off := 66) hx hb dX4_about_27 (by rw [c25]; decide) (by rw [c25]; decide) (by rw [c25]; rfl) (by decide) ?_
        refine lv_aload_n hx hb dX4_about_93 rfl (lv_at hl 0 rfl) ?_
        refine va_get (ci := 4) (v := .ref h2) (C := RX4) (T := TX4) (N := 13) hx hb hts uX4_about_X4 hown hK hP 0 rfl rfl 3 (by decide) (hts _ mX4_about_13) (fun _ h9 => h9) rfl dX4_about_94 ?_
        refine lv_sipush (v := 256) hx hb dX4_about_97 (by decide) ?_
        obtain ⟨r26, e26, h⟩ := zb h
        refine zS (As := [.ref h2, .int 256]) (rest := []) (zQi_q _) ⟨hx, hb, hml, hown, hts⟩ (kX4_sum l g h2 nw 256 e26) (va_cwS 2 hts gX4_about_X4_sum rfl rfl rfl hdS_X4_sum ⟨Nat.le_of_ble_eq_true rfl, Nat.le_of_ble_eq_true rfl⟩) hK hP [2] rfl rfl hl.1 rfl (Nat.le_of_ble_eq_true rfl) ⟨Nat.zero_le _, Nat.zero_le _⟩ dX4_about_100 ?_
        cases h
        exact zw_i hx hb hr hlocks hP hS dX4_about_103
      replace h := zf c25 h
      by_cases c27 : a1 = 2
      · replace h := zt c27 h
        refine lv_tableIn (tgt := 104) (off := 77) hx hb dX4_about_27 (by rw [c27]; decide) (by rw [c27]; decide) (by rw [c27]; rfl) (by decide) ?_
        refine lv_aload_n hx hb dX4_about_104 rfl (lv_at hl 0 rfl) ?_
        refine va_get (ci := 4) (v := .ref h2) (C := RX4) (T := TX4) (N := 13) hx hb hts uX4_about_X4 hown hK hP 0 rfl rfl 3 (by decide) (hts _ mX4_about_13) (fun _ h9 => h9) rfl dX4_about_105 ?_
        obtain ⟨r28, e28, h⟩ := zb h
        refine zS (As := [.ref h2]) (rest := []) (zQi_q _) ⟨hx, hb, hml, hown, hts⟩ (kX4_ranges l g h2 nw e28) (va_cwS 1 hts gX4_about_X4_ranges rfl rfl rfl hdS_X4_ranges ⟨Nat.le_of_ble_eq_true rfl, Nat.le_of_ble_eq_true rfl⟩) hK hP [2] rfl rfl hl.1 rfl (Nat.le_of_ble_eq_true rfl) ⟨Nat.zero_le _, Nat.zero_le _⟩ dX4_about_108 ?_
        cases h
        exact zw_i hx hb hr hlocks hP hS dX4_about_111
      replace h := zf c27 h
      by_cases c29 : a1 = 3
      · replace h := zt c29 h
        refine lv_tableIn (tgt := 112) (off := 85) hx hb dX4_about_27 (by rw [c29]; decide) (by rw [c29]; decide) (by rw [c29]; rfl) (by decide) ?_
        refine lv_aload_n hx hb dX4_about_112 rfl (lv_at hl 0 rfl) ?_
        refine va_get (ci := 4) (v := .ref h2) (C := RX4) (T := TX4) (N := 13) hx hb hts uX4_about_X4 hown hK hP 0 rfl rfl 3 (by decide) (hts _ mX4_about_13) (fun _ h9 => h9) rfl dX4_about_113 ?_
        obtain ⟨r30, e30, h⟩ := zb h
        refine zS (As := [.ref h2]) (rest := []) (zQi_q _) ⟨hx, hb, hml, hown, hts⟩ (kX4_queuedBlocks l g h2 nw e30) (va_cwS 1 hts gX4_about_X4_queuedBlocks rfl rfl rfl hdS_X4_queuedBlocks ⟨Nat.le_of_ble_eq_true rfl, Nat.le_of_ble_eq_true rfl⟩) hK hP [2] rfl rfl hl.1 rfl (Nat.le_of_ble_eq_true rfl) ⟨Nat.zero_le _, Nat.zero_le _⟩ dX4_about_116 ?_
        cases h
        exact zw_i hx hb hr hlocks hP hS dX4_about_119
      replace h := zf c29 h
      by_cases c31 : a1 = 9
      · replace h := zt c31 h
        refine lv_tableIn (tgt := 120) (off := 93) hx hb dX4_about_27 (by rw [c31]; decide) (by rw [c31]; decide) (by rw [c31]; rfl) (by decide) ?_
        refine lv_aload_n hx hb dX4_about_120 rfl (lv_at hl 0 rfl) ?_
        refine va_get (ci := 4) (v := .ref h2) (C := RX4) (T := TX4) (N := 13) hx hb hts uX4_about_X4 hown hK hP 0 rfl rfl 3 (by decide) (hts _ mX4_about_13) (fun _ h9 => h9) rfl dX4_about_121 ?_
        obtain ⟨r32, e32, h⟩ := zb h
        refine zS (As := [.ref h2]) (rest := []) (zQi_q _) ⟨hx, hb, hml, hown, hts⟩ (kX4_allPinned l g h2 nw e32) (va_cwS 1 hts gX4_about_X4_allPinned rfl rfl rfl hdS_X4_allPinned ⟨Nat.le_of_ble_eq_true rfl, Nat.le_of_ble_eq_true rfl⟩) hK hP [2] rfl rfl hl.1 rfl (Nat.le_of_ble_eq_true rfl) ⟨Nat.zero_le _, Nat.zero_le _⟩ dX4_about_124 ?_
        cases h
        exact zw_i hx hb hr hlocks hP hS dX4_about_127
      replace h := zf c31 h
      by_cases c33 : a1 = 10
      · replace h := zt c33 h
        refine lv_tableIn (tgt := 128) (off := 101) hx hb dX4_about_27 (by rw [c33]; decide) (by rw [c33]; decide) (by rw [c33]; rfl) (by decide) ?_
        refine lv_aload_n hx hb dX4_about_128 rfl (lv_at hl 0 rfl) ?_
        refine va_get (ci := 4) (v := .ref h2) (C := RX4) (T := TX4) (N := 13) hx hb hts uX4_about_X4 hown hK hP 0 rfl rfl 3 (by decide) (hts _ mX4_about_13) (fun _ h9 => h9) rfl dX4_about_129 ?_
        obtain ⟨r34, e34, h⟩ := zb h
        refine zS (As := [.ref h2]) (rest := []) (zQi_q _) ⟨hx, hb, hml, hown, hts⟩ (kX4_lost l g h2 nw e34) (va_cwS 1 hts gX4_about_X4_lost rfl rfl rfl hdS_X4_lost ⟨Nat.le_of_ble_eq_true rfl, Nat.le_of_ble_eq_true rfl⟩) hK hP [2] rfl rfl hl.1 rfl (Nat.le_of_ble_eq_true rfl) ⟨Nat.zero_le _, Nat.zero_le _⟩ dX4_about_132 ?_
        cases h
        exact zw_i hx hb hr hlocks hP hS dX4_about_135
      replace h := zf c33 h
      by_cases c36 : a1.toInt < 0 ∨ 10 < a1.toInt
      · refine lv_tableOut (tgt := 136) hx hb dX4_about_27 c36 (by decide) ?_
        refine lv_aload_n hx hb dX4_about_136 rfl (lv_at hl 0 rfl) ?_
        refine va_get (ci := 4) (v := .ref h2) (C := RX4) (T := TX4) (N := 13) hx hb hts uX4_about_X4 hown hK hP 0 rfl rfl 3 (by decide) (hts _ mX4_about_13) (fun _ h9 => h9) rfl dX4_about_137 ?_
        refine lv_sipush (v := 768) hx hb dX4_about_140 (by decide) ?_
        refine lv_iload_n hx hb dX4_about_143 rfl (lv_at hl 1 rfl) ?_
        refine lv_iadd hx hb dX4_about_144 ?_
        refine lv_iconst (v := 4) hx hb dX4_about_145 (by decide) ?_
        refine lv_isub hx hb dX4_about_146 ?_
        obtain ⟨i37, h⟩ := zi h
        refine za_ild hx hb hK hP 2 rfl _ rfl i37 dX4_about_147 ?_
        cases h
        exact zw_i hx hb hr hlocks hP hS dX4_about_148
      · have w36 : a1.toInt = 4 ∨ a1.toInt = 5 ∨ a1.toInt = 6 ∨ a1.toInt = 7 ∨ a1.toInt = 8 := by have n23 := lv_neT (a := 0) c23 (by decide); have n25 := lv_neT (a := 1) c25 (by decide); have n27 := lv_neT (a := 2) c27 (by decide); have n29 := lv_neT (a := 3) c29 (by decide); have n31 := lv_neT (a := 9) c31 (by decide); have n33 := lv_neT (a := 10) c33 (by decide); omega
        refine lv_tableIn (tgt := 136) (off := 109) hx hb dX4_about_27 (by omega) (by omega) (by rcases w36 with w36 | w36 | w36 | w36 | w36 <;> (rw [w36]; rfl)) (by decide) ?_
        refine lv_aload_n hx hb dX4_about_136 rfl (lv_at hl 0 rfl) ?_
        refine va_get (ci := 4) (v := .ref h2) (C := RX4) (T := TX4) (N := 13) hx hb hts uX4_about_X4 hown hK hP 0 rfl rfl 3 (by decide) (hts _ mX4_about_13) (fun _ h9 => h9) rfl dX4_about_137 ?_
        refine lv_sipush (v := 768) hx hb dX4_about_140 (by decide) ?_
        refine lv_iload_n hx hb dX4_about_143 rfl (lv_at hl 1 rfl) ?_
        refine lv_iadd hx hb dX4_about_144 ?_
        refine lv_iconst (v := 4) hx hb dX4_about_145 (by decide) ?_
        refine lv_isub hx hb dX4_about_146 ?_
        obtain ⟨i38, h⟩ := zi h
        refine za_ild hx hb hK hP 2 rfl _ rfl i38 dX4_about_147 ?_
        cases h
        exact zw_i hx hb hr hlocks hP hS dX4_about_148
    · replace h := zf c22 h
      refine lv_iconst (v := 0) hx hb dX4_about_24 (by decide) ?_
      cases h
      exact zw_i hx hb hr hlocks hP hS dX4_about_25
def fX4_block_88 (nw : Nat → Int32) : Nat → Int32 → Int32 → Int32 → (Int32) → Option (Int32 × (Int32))
  | 0, _, _, _, _ => none
  | n + 1, v1, v3, v4, rf =>
    if v1 < v4 then
        ob (fX4_isQueued nw v1) fun r2 =>
        if r2 = 0 then
          some ((-1), rf)
        else
          some (v3, rf)
      else
        ob (fX4_begins nw v4) fun r4 =>
        if r4 = 0 then
          fX4_block_88 nw n v1 (v3 + 0) (v4 + 1) rf
        else
          fX4_block_88 nw n v1 (v3 + 1) (v4 + 1) rf
def fX4_block (nw : Nat → Int32) (a1 : Int32) (a2 : Int32) : Option (Int32 × (Int32)) :=
  ob (fX4_isBlock a1) fun r6 =>
  if r6 = 0 then
    ob2 (fX4_refused 1) fun r28 rf28 =>
    if r28 = 0 then
      if 2 ≤ a2 then
        if a2 = 3 then
          ob (fX4_isPinned nw a1) fun r32 =>
          if r32 = 0 then
            some (0, rf28)
          else
            some (1, rf28)
        else
          fX4_block_88 nw 1000 a1 (-1) 0 rf28
      else
        if a2 = 0 then
          if (0 + a1) < 0 ∨ 785 ≤ (0 + a1).toNatClampNeg then none else
          some ((nw (0 + a1).toNatClampNeg), rf28)
        else
          if (256 + a1) < 0 ∨ 785 ≤ (256 + a1).toNatClampNeg then none else
          some ((nw (256 + a1).toNatClampNeg), rf28)
    else
      some (0, rf28)
  else
    ob (fX4_in a2.toInt64 0 (3)) fun r8 =>
    if r8 = 0 then
      ob2 (fX4_refused 2) fun r10 rf10 =>
      if r10 = 0 then
        if 2 ≤ a2 then
          if a2 = 3 then
            ob (fX4_isPinned nw a1) fun r14 =>
            if r14 = 0 then
              some (0, rf10)
            else
              some (1, rf10)
          else
            fX4_block_88 nw 1000 a1 (-1) 0 rf10
        else
          if a2 = 0 then
            if (0 + a1) < 0 ∨ 785 ≤ (0 + a1).toNatClampNeg then none else
            some ((nw (0 + a1).toNatClampNeg), rf10)
          else
            if (256 + a1) < 0 ∨ 785 ≤ (256 + a1).toNatClampNeg then none else
            some ((nw (256 + a1).toNatClampNeg), rf10)
      else
        some (0, rf10)
    else
      ob2 (fX4_refused 0) fun r19 rf19 =>
      if r19 = 0 then
        if 2 ≤ a2 then
          if a2 = 3 then
            ob (fX4_isPinned nw a1) fun r23 =>
            if r23 = 0 then
              some (0, rf19)
            else
              some (1, rf19)
          else
            fX4_block_88 nw 1000 a1 (-1) 0 rf19
        else
          if a2 = 0 then
            if (0 + a1) < 0 ∨ 785 ≤ (0 + a1).toNatClampNeg then none else
            some ((nw (0 + a1).toNatClampNeg), rf19)
          else
            if (256 + a1) < 0 ∨ 785 ≤ (256 + a1).toNatClampNeg then none else
            some ((nw (256 + a1).toNatClampNeg), rf19)
      else
        some (0, rf19)
theorem mX4_block_13 : Cond.fieldLink RX4 13 "IdleDiscardsModel" "now" "[I" ∈ wsX4_block := by decide +kernel
theorem uX4_block_X4 : ∀ w ∈ wsX40, w ∈ wsX4_block := by decide +kernel
theorem mX4_block_186 : Cond.constantLong RX4 186 (3) ∈ wsX4_block := by decide +kernel
set_option maxRecDepth 100000 in
set_option maxHeartbeats 4000000 in
theorem kX4_block (l : Launch) (g : zG) (h0 h1 h2 h3 h4 h5 h6 : Nat) (rf : Int32) (sz : Int32) (ac : Int32) (sF : Int32) (sB : Int32) (sp : Int32) (ou : Int32) (tx : Nat → Int32) (nw : Nat → Int32) (tr : Nat → Int32) (di : Nat → Int32) (ke : Nat → Int32) (ik : Nat → Int32) (a1 : Int32) (a2 : Int32) {r : Int32} {rf' : Int32} (h : fX4_block nw a1 a2 = some (r, rf')) : Mw l g yX4_block wsX4_block { frames := 4, cells := 0, slots := 0, locals := 87 } [.ref h0, .int a1, .int a2] (zMA g h0 h1 h2 h3 h4 h5 h6 rf sz ac sF sB sp ou tx nw tr di ke ik) (zWi g (zMA g h0 h1 h2 h3 h4 h5 h6 rf' sz ac sF sB sp ou tx nw tr di ke ik) r) := by
  refine zw_in (cc := cX4_block) (maxL := 5) (ret := (some .int)) (by decide) rfl (Nat.le_of_ble_eq_true rfl) ?_
  intro p e s m below meth c hx hb hr hml hts hown hlocks hK A hA hP hD hS ls hl
  replace hl : lv_has ls 5 [(0, .ref h0), (1, .int a1), (2, .int a2)] := hl
  have loop_88 : ∀ (n : Nat) (v1 : Int32) (v3 : Int32) (v4 : Int32) (rf : (Int32)), fX4_block_88 nw n v1 v3 v4 rf = some (r, rf') → ∀ (H : Heap) (locs : List Loc), zP g (zMA g h0 h1 h2 h3 h4 h5 h6 rf sz ac sF sB sp ou tx nw tr di ke ik) H → va_D A (zMA g h0 h1 h2 h3 h4 h5 h6 rf sz ac sF sB sp ou tx nw tr di ke ik) → va_S A s.heap H locs → ∀ (ls : Array Slot), lv_has ls 5 [(0, .ref h0), (1, .int v1), (3, .int v3), (4, .int v4)] → W p l e ({ frames := 4, cells := 0, slots := 0, locals := 87 } : Room) s m [.ref h0, .int a1, .int a2].toArray below meth c H locs 0 0 (MQ below (zWi g (zMA g h0 h1 h2 h3 h4 h5 h6 rf' sz ac sF sB sp ou tx nw tr di ke ik) r A) [.ref h0, .int a1, .int a2].toArray s 0 0 A) (F0 m 88 ls []) := by
    intro n
    induction n with
    | zero => intro v1 v3 v4 rf h H locs hP hD hS ls hl; exact zn h
    | succ n ih =>
      intro v1 v3 v4 rf h H locs hP hD hS ls hl
      rw [fX4_block_88] at h
      refine lv_iload hx hb dX4_block_88 (lv_at hl 3 rfl) ?_
      refine lv_iload_n hx hb dX4_block_90 rfl (lv_at hl 1 rfl) ?_
      refine lv_icmp_gt (tgt := 120) hx hb dX4_block_91 (by decide) (fun c1 => ?_) (fun c1 => ?_)
      · replace h := zt c1 h
        refine lv_aload_n hx hb dX4_block_120 rfl (lv_at hl 0 rfl) ?_
        refine va_get (ci := 4) (v := .ref h2) (C := RX4) (T := TX4) (N := 13) hx hb hts uX4_block_X4 hown hK hP 0 rfl rfl 3 (by decide) (hts _ mX4_block_13) (fun _ h9 => h9) rfl dX4_block_121 ?_
        refine lv_iload_n hx hb dX4_block_124 rfl (lv_at hl 1 rfl) ?_
        obtain ⟨r2, e2, h⟩ := zb h
        refine zS (As := [.ref h2, .int v1]) (rest := []) (zQi_q _) ⟨hx, hb, hml, hown, hts⟩ (kX4_isQueued l g h2 nw v1 e2) (va_cwS 2 hts gX4_block_X4_isQueued rfl rfl rfl hdS_X4_isQueued ⟨Nat.le_of_ble_eq_true rfl, Nat.le_of_ble_eq_true rfl⟩) hK hP [2] rfl rfl hl.1 rfl (Nat.le_of_ble_eq_true rfl) ⟨Nat.zero_le _, Nat.zero_le _⟩ dX4_block_125 ?_
        refine lv_if_eq (tgt := 135) hx hb dX4_block_128 (by decide) (fun c3 => ?_) (fun c3 => ?_)
        · replace h := zt c3 h
          refine lv_iconst (v := (-1)) hx hb dX4_block_135 (by decide) ?_
          cases h
          exact zw_i hx hb hr hlocks hP hS dX4_block_136
        · replace h := zf c3 h
          refine lv_iload_n hx hb dX4_block_131 rfl (lv_at hl 2 rfl) ?_
          refine lv_goto (tgt := 136) hx hb dX4_block_132 (by decide) ?_
          cases h
          exact zw_i hx hb hr hlocks hP hS dX4_block_136
      · replace h := zf c1 h
        refine lv_iload_n hx hb dX4_block_94 rfl (lv_at hl 2 rfl) ?_
        refine lv_aload_n hx hb dX4_block_95 rfl (lv_at hl 0 rfl) ?_
        refine va_get (ci := 4) (v := .ref h2) (C := RX4) (T := TX4) (N := 13) hx hb hts uX4_block_X4 hown hK hP 0 rfl rfl 3 (by decide) (hts _ mX4_block_13) (fun _ h9 => h9) rfl dX4_block_96 ?_
        refine lv_iload hx hb dX4_block_99 (lv_at hl 3 rfl) ?_
        obtain ⟨r4, e4, h⟩ := zb h
        refine zS (As := [.ref h2, .int v4]) (rest := [.int v3]) (zQi_q _) ⟨hx, hb, hml, hown, hts⟩ (kX4_begins l g h2 nw v4 e4) (va_cwS 2 hts gX4_block_X4_begins rfl rfl rfl hdS_X4_begins ⟨Nat.le_of_ble_eq_true rfl, Nat.le_of_ble_eq_true rfl⟩) hK hP [2] rfl rfl hl.1 rfl (Nat.le_of_ble_eq_true rfl) ⟨Nat.zero_le _, Nat.zero_le _⟩ dX4_block_101 ?_
        refine lv_if_eq (tgt := 111) hx hb dX4_block_104 (by decide) (fun c5 => ?_) (fun c5 => ?_)
        · replace h := zt c5 h
          refine lv_iconst (v := 0) hx hb dX4_block_111 (by decide) ?_
          refine lv_iadd hx hb dX4_block_112 ?_
          refine lv_istore_n (lv' := [(3, .int (v3 + 0)), (0, .ref h0), (1, .int v1), (4, .int v4)]) hx hb dX4_block_113 rfl hl (by decide) rfl (fun ls hl => ?_)
          refine lv_iinc (v := (v4 + 1)) (lv' := [(4, .int (v4 + 1)), (3, .int (v3 + 0)), (0, .ref h0), (1, .int v1)]) hx hb dX4_block_114 hl (k := 3) rfl rfl (by decide) rfl (fun ls hl => ?_)
          refine lv_goto (tgt := 88) hx hb dX4_block_117 (by decide) ?_
          exact ih v1 (v3 + 0) (v4 + 1) rf h H locs hP hD hS ls (lv_sub hl [2, 3, 1, 0] rfl)
        · replace h := zf c5 h
          refine lv_iconst (v := 1) hx hb dX4_block_107 (by decide) ?_
          refine lv_goto (tgt := 112) hx hb dX4_block_108 (by decide) ?_
          refine lv_iadd hx hb dX4_block_112 ?_
          refine lv_istore_n (lv' := [(3, .int (v3 + 1)), (0, .ref h0), (1, .int v1), (4, .int v4)]) hx hb dX4_block_113 rfl hl (by decide) rfl (fun ls hl => ?_)
          refine lv_iinc (v := (v4 + 1)) (lv' := [(4, .int (v4 + 1)), (3, .int (v3 + 1)), (0, .ref h0), (1, .int v1)]) hx hb dX4_block_114 hl (k := 3) rfl rfl (by decide) rfl (fun ls hl => ?_)
          refine lv_goto (tgt := 88) hx hb dX4_block_117 (by decide) ?_
          exact ih v1 (v3 + 1) (v4 + 1) rf h H locs hP hD hS ls (lv_sub hl [2, 3, 1, 0] rfl)
  unfold fX4_block at h
  refine lv_aload_n hx hb dX4_block_0 rfl (lv_at hl 0 rfl) ?_
  refine lv_iload_n hx hb dX4_block_1 rfl (lv_at hl 1 rfl) ?_
  obtain ⟨r6, e6, h⟩ := zb h
  refine zS (As := [.int a1]) (rest := [.ref h0]) (zQi_q _) ⟨hx, hb, hml, hown, hts⟩ (kX4_isBlock l g a1 e6) (va_cwS 1 hts gX4_block_X4_isBlock rfl rfl rfl hdS_X4_isBlock ⟨Nat.le_of_ble_eq_true rfl, Nat.le_of_ble_eq_true rfl⟩) hK hP [] rfl rfl hl.1 rfl (Nat.le_of_ble_eq_true rfl) ⟨Nat.zero_le _, Nat.zero_le _⟩ dX4_block_2 ?_
  refine lv_if_ne (tgt := 12) hx hb dX4_block_5 (by decide) (fun c7 => ?_) (fun c7 => ?_)
  · replace h := zf c7 h
    refine lv_iload_n hx hb dX4_block_12 rfl (lv_at hl 2 rfl) ?_
    refine lv_i2l (v := a2.toInt64) hx hb dX4_block_13 rfl ?_
    refine lv_lconst (v := 0) hx hb dX4_block_14 (by decide) ?_
    refine lv_ldc2 hx hb hown (hts _ mX4_block_186) dX4_block_15 ?_
    obtain ⟨r8, e8, h⟩ := zb h
    refine zS (As := [.long a2.toInt64, .long 0, .long (3)]) (rest := [.ref h0]) (zQi_q _) ⟨hx, hb, hml, hown, hts⟩ (kX4_in l g a2.toInt64 0 (3) e8) (va_cwS 3 hts gX4_block_X4_in rfl rfl rfl hdS_X4_in ⟨Nat.le_of_ble_eq_true rfl, Nat.le_of_ble_eq_true rfl⟩) hK hP [] rfl rfl hl.1 rfl (Nat.le_of_ble_eq_true rfl) ⟨Nat.zero_le _, Nat.zero_le _⟩ dX4_block_18 ?_
    refine lv_if_eq (tgt := 28) hx hb dX4_block_21 (by decide) (fun c9 => ?_) (fun c9 => ?_)
    · replace h := zt c9 h
      refine lv_iconst (v := 2) hx hb dX4_block_28 (by decide) ?_
      obtain ⟨r10, rf10, e10, h⟩ := zb2 h
      refine zVw (As := [.int 2]) (rest := []) (zWi_q g _ _) ⟨hx, hb, hml, hown, hts⟩ (kX4_refused l g h0 h1 (.ref h2) (.ref h3) (.ref h4) (.ref h5) (.ref h6) rf sz ac sF sB sp ou tx 2 e10) (cwV 1 hts gX4_block_X4_refused rfl rfl rfl hdV_X4_refused ⟨Nat.le_of_ble_eq_true rfl, Nat.le_of_ble_eq_true rfl⟩) hK hP hD hS hA [0, 1] (by decide) rfl rfl 0 rfl rfl rfl hl.1 rfl (Nat.le_of_ble_eq_true rfl) ⟨Nat.zero_le _, Nat.zero_le _⟩ dX4_block_29 (fun H locs hP hD hS => ?_)
      replace hP : zP g (zMA g h0 h1 h2 h3 h4 h5 h6 rf10 sz ac sF sB sp ou tx nw tr di ke ik) H := hP
      replace hD : va_D A (zMA g h0 h1 h2 h3 h4 h5 h6 rf10 sz ac sF sB sp ou tx nw tr di ke ik) := hD
      refine lv_if_eq (tgt := 37) hx hb dX4_block_32 (by decide) (fun c11 => ?_) (fun c11 => ?_)
      · replace h := zt c11 h
        refine lv_iload_n hx hb dX4_block_37 rfl (lv_at hl 2 rfl) ?_
        refine lv_iconst (v := 2) hx hb dX4_block_38 (by decide) ?_
        refine lv_icmp_ge (tgt := 61) hx hb dX4_block_39 (by decide) (fun c12 => ?_) (fun c12 => ?_)
        · replace h := zt c12 h
          refine lv_iload_n hx hb dX4_block_61 rfl (lv_at hl 2 rfl) ?_
          refine lv_iconst (v := 3) hx hb dX4_block_62 (by decide) ?_
          refine lv_icmp_ne (tgt := 83) hx hb dX4_block_63 (by decide) (fun c13 => ?_) (fun c13 => ?_)
          · replace h := zf c13 h
            refine lv_iconst (v := (-1)) hx hb dX4_block_83 (by decide) ?_
            refine lv_istore_n (lv' := [(3, .int (-1)), (0, .ref h0), (1, .int a1), (2, .int a2)]) hx hb dX4_block_84 rfl hl (by decide) rfl (fun ls hl => ?_)
            refine lv_iconst (v := 0) hx hb dX4_block_85 (by decide) ?_
            refine lv_istore (lv' := [(4, .int 0), (3, .int (-1)), (0, .ref h0), (1, .int a1), (2, .int a2)]) hx hb dX4_block_86 hl (by decide) rfl (fun ls hl => ?_)
            exact loop_88 1000 a1 (-1) 0 rf10 h H locs hP hD hS ls (lv_sub hl [2, 3, 1, 0] rfl)
          · replace h := zt c13 h
            refine lv_aload_n hx hb dX4_block_66 rfl (lv_at hl 0 rfl) ?_
            refine va_get (ci := 4) (v := .ref h2) (C := RX4) (T := TX4) (N := 13) hx hb hts uX4_block_X4 hown hK hP 0 rfl rfl 3 (by decide) (hts _ mX4_block_13) (fun _ h9 => h9) rfl dX4_block_67 ?_
            refine lv_iload_n hx hb dX4_block_70 rfl (lv_at hl 1 rfl) ?_
            obtain ⟨r14, e14, h⟩ := zb h
            refine zS (As := [.ref h2, .int a1]) (rest := []) (zQi_q _) ⟨hx, hb, hml, hown, hts⟩ (kX4_isPinned l g h2 nw a1 e14) (va_cwS 2 hts gX4_block_X4_isPinned rfl rfl rfl hdS_X4_isPinned ⟨Nat.le_of_ble_eq_true rfl, Nat.le_of_ble_eq_true rfl⟩) hK hP [2] rfl rfl hl.1 rfl (Nat.le_of_ble_eq_true rfl) ⟨Nat.zero_le _, Nat.zero_le _⟩ dX4_block_71 ?_
            refine lv_if_eq (tgt := 81) hx hb dX4_block_74 (by decide) (fun c15 => ?_) (fun c15 => ?_)
            · replace h := zt c15 h
              refine lv_iconst (v := 0) hx hb dX4_block_81 (by decide) ?_
              cases h
              exact zw_i hx hb hr hlocks hP hS dX4_block_82
            · replace h := zf c15 h
              refine lv_iconst (v := 1) hx hb dX4_block_77 (by decide) ?_
              refine lv_goto (tgt := 82) hx hb dX4_block_78 (by decide) ?_
              cases h
              exact zw_i hx hb hr hlocks hP hS dX4_block_82
        · replace h := zf c12 h
          refine lv_aload_n hx hb dX4_block_42 rfl (lv_at hl 0 rfl) ?_
          refine va_get (ci := 4) (v := .ref h2) (C := RX4) (T := TX4) (N := 13) hx hb hts uX4_block_X4 hown hK hP 0 rfl rfl 3 (by decide) (hts _ mX4_block_13) (fun _ h9 => h9) rfl dX4_block_43 ?_
          refine lv_iload_n hx hb dX4_block_46 rfl (lv_at hl 2 rfl) ?_
          refine lv_if_ne (tgt := 54) hx hb dX4_block_47 (by decide) (fun c16 => ?_) (fun c16 => ?_)
          · replace h := zf c16 h
            refine lv_sipush (v := 256) hx hb dX4_block_54 (by decide) ?_
            refine lv_iload_n hx hb dX4_block_57 rfl (lv_at hl 1 rfl) ?_
            refine lv_iadd hx hb dX4_block_58 ?_
            obtain ⟨i17, h⟩ := zi h
            refine za_ild hx hb hK hP 2 rfl _ rfl i17 dX4_block_59 ?_
            cases h
            exact zw_i hx hb hr hlocks hP hS dX4_block_60
          · replace h := zt c16 h
            refine lv_iconst (v := 0) hx hb dX4_block_50 (by decide) ?_
            refine lv_goto (tgt := 57) hx hb dX4_block_51 (by decide) ?_
            refine lv_iload_n hx hb dX4_block_57 rfl (lv_at hl 1 rfl) ?_
            refine lv_iadd hx hb dX4_block_58 ?_
            obtain ⟨i18, h⟩ := zi h
            refine za_ild hx hb hK hP 2 rfl _ rfl i18 dX4_block_59 ?_
            cases h
            exact zw_i hx hb hr hlocks hP hS dX4_block_60
      · replace h := zf c11 h
        refine lv_iconst (v := 0) hx hb dX4_block_35 (by decide) ?_
        cases h
        exact zw_i hx hb hr hlocks hP hS dX4_block_36
    · replace h := zf c9 h
      refine lv_iconst (v := 0) hx hb dX4_block_24 (by decide) ?_
      refine lv_goto (tgt := 29) hx hb dX4_block_25 (by decide) ?_
      obtain ⟨r19, rf19, e19, h⟩ := zb2 h
      refine zVw (As := [.int 0]) (rest := []) (zWi_q g _ _) ⟨hx, hb, hml, hown, hts⟩ (kX4_refused l g h0 h1 (.ref h2) (.ref h3) (.ref h4) (.ref h5) (.ref h6) rf sz ac sF sB sp ou tx 0 e19) (cwV 1 hts gX4_block_X4_refused rfl rfl rfl hdV_X4_refused ⟨Nat.le_of_ble_eq_true rfl, Nat.le_of_ble_eq_true rfl⟩) hK hP hD hS hA [0, 1] (by decide) rfl rfl 0 rfl rfl rfl hl.1 rfl (Nat.le_of_ble_eq_true rfl) ⟨Nat.zero_le _, Nat.zero_le _⟩ dX4_block_29 (fun H locs hP hD hS => ?_)
      replace hP : zP g (zMA g h0 h1 h2 h3 h4 h5 h6 rf19 sz ac sF sB sp ou tx nw tr di ke ik) H := hP
      replace hD : va_D A (zMA g h0 h1 h2 h3 h4 h5 h6 rf19 sz ac sF sB sp ou tx nw tr di ke ik) := hD
      refine lv_if_eq (tgt := 37) hx hb dX4_block_32 (by decide) (fun c20 => ?_) (fun c20 => ?_)
      · replace h := zt c20 h
        refine lv_iload_n hx hb dX4_block_37 rfl (lv_at hl 2 rfl) ?_
        refine lv_iconst (v := 2) hx hb dX4_block_38 (by decide) ?_
        refine lv_icmp_ge (tgt := 61) hx hb dX4_block_39 (by decide) (fun c21 => ?_) (fun c21 => ?_)
        · replace h := zt c21 h
          refine lv_iload_n hx hb dX4_block_61 rfl (lv_at hl 2 rfl) ?_
          refine lv_iconst (v := 3) hx hb dX4_block_62 (by decide) ?_
          refine lv_icmp_ne (tgt := 83) hx hb dX4_block_63 (by decide) (fun c22 => ?_) (fun c22 => ?_)
          · replace h := zf c22 h
            refine lv_iconst (v := (-1)) hx hb dX4_block_83 (by decide) ?_
            refine lv_istore_n (lv' := [(3, .int (-1)), (0, .ref h0), (1, .int a1), (2, .int a2)]) hx hb dX4_block_84 rfl hl (by decide) rfl (fun ls hl => ?_)
            refine lv_iconst (v := 0) hx hb dX4_block_85 (by decide) ?_
            refine lv_istore (lv' := [(4, .int 0), (3, .int (-1)), (0, .ref h0), (1, .int a1), (2, .int a2)]) hx hb dX4_block_86 hl (by decide) rfl (fun ls hl => ?_)
            exact loop_88 1000 a1 (-1) 0 rf19 h H locs hP hD hS ls (lv_sub hl [2, 3, 1, 0] rfl)
          · replace h := zt c22 h
            refine lv_aload_n hx hb dX4_block_66 rfl (lv_at hl 0 rfl) ?_
            refine va_get (ci := 4) (v := .ref h2) (C := RX4) (T := TX4) (N := 13) hx hb hts uX4_block_X4 hown hK hP 0 rfl rfl 3 (by decide) (hts _ mX4_block_13) (fun _ h9 => h9) rfl dX4_block_67 ?_
            refine lv_iload_n hx hb dX4_block_70 rfl (lv_at hl 1 rfl) ?_
            obtain ⟨r23, e23, h⟩ := zb h
            refine zS (As := [.ref h2, .int a1]) (rest := []) (zQi_q _) ⟨hx, hb, hml, hown, hts⟩ (kX4_isPinned l g h2 nw a1 e23) (va_cwS 2 hts gX4_block_X4_isPinned rfl rfl rfl hdS_X4_isPinned ⟨Nat.le_of_ble_eq_true rfl, Nat.le_of_ble_eq_true rfl⟩) hK hP [2] rfl rfl hl.1 rfl (Nat.le_of_ble_eq_true rfl) ⟨Nat.zero_le _, Nat.zero_le _⟩ dX4_block_71 ?_
            refine lv_if_eq (tgt := 81) hx hb dX4_block_74 (by decide) (fun c24 => ?_) (fun c24 => ?_)
            · replace h := zt c24 h
              refine lv_iconst (v := 0) hx hb dX4_block_81 (by decide) ?_
              cases h
              exact zw_i hx hb hr hlocks hP hS dX4_block_82
            · replace h := zf c24 h
              refine lv_iconst (v := 1) hx hb dX4_block_77 (by decide) ?_
              refine lv_goto (tgt := 82) hx hb dX4_block_78 (by decide) ?_
              cases h
              exact zw_i hx hb hr hlocks hP hS dX4_block_82
        · replace h := zf c21 h
          refine lv_aload_n hx hb dX4_block_42 rfl (lv_at hl 0 rfl) ?_
          refine va_get (ci := 4) (v := .ref h2) (C := RX4) (T := TX4) (N := 13) hx hb hts uX4_block_X4 hown hK hP 0 rfl rfl 3 (by decide) (hts _ mX4_block_13) (fun _ h9 => h9) rfl dX4_block_43 ?_
          refine lv_iload_n hx hb dX4_block_46 rfl (lv_at hl 2 rfl) ?_
          refine lv_if_ne (tgt := 54) hx hb dX4_block_47 (by decide) (fun c25 => ?_) (fun c25 => ?_)
          · replace h := zf c25 h
            refine lv_sipush (v := 256) hx hb dX4_block_54 (by decide) ?_
            refine lv_iload_n hx hb dX4_block_57 rfl (lv_at hl 1 rfl) ?_
            refine lv_iadd hx hb dX4_block_58 ?_
            obtain ⟨i26, h⟩ := zi h
            refine za_ild hx hb hK hP 2 rfl _ rfl i26 dX4_block_59 ?_
            cases h
            exact zw_i hx hb hr hlocks hP hS dX4_block_60
          · replace h := zt c25 h
            refine lv_iconst (v := 0) hx hb dX4_block_50 (by decide) ?_
            refine lv_goto (tgt := 57) hx hb dX4_block_51 (by decide) ?_
            refine lv_iload_n hx hb dX4_block_57 rfl (lv_at hl 1 rfl) ?_
            refine lv_iadd hx hb dX4_block_58 ?_
            obtain ⟨i27, h⟩ := zi h
            refine za_ild hx hb hK hP 2 rfl _ rfl i27 dX4_block_59 ?_
            cases h
            exact zw_i hx hb hr hlocks hP hS dX4_block_60
      · replace h := zf c20 h
        refine lv_iconst (v := 0) hx hb dX4_block_35 (by decide) ?_
        cases h
        exact zw_i hx hb hr hlocks hP hS dX4_block_36
  · replace h := zt c7 h
    refine lv_iconst (v := 1) hx hb dX4_block_8 (by decide) ?_
    refine lv_goto (tgt := 29) hx hb dX4_block_9 (by decide) ?_
    obtain ⟨r28, rf28, e28, h⟩ := zb2 h
    refine zVw (As := [.int 1]) (rest := []) (zWi_q g _ _) ⟨hx, hb, hml, hown, hts⟩ (kX4_refused l g h0 h1 (.ref h2) (.ref h3) (.ref h4) (.ref h5) (.ref h6) rf sz ac sF sB sp ou tx 1 e28) (cwV 1 hts gX4_block_X4_refused rfl rfl rfl hdV_X4_refused ⟨Nat.le_of_ble_eq_true rfl, Nat.le_of_ble_eq_true rfl⟩) hK hP hD hS hA [0, 1] (by decide) rfl rfl 0 rfl rfl rfl hl.1 rfl (Nat.le_of_ble_eq_true rfl) ⟨Nat.zero_le _, Nat.zero_le _⟩ dX4_block_29 (fun H locs hP hD hS => ?_)
    replace hP : zP g (zMA g h0 h1 h2 h3 h4 h5 h6 rf28 sz ac sF sB sp ou tx nw tr di ke ik) H := hP
    replace hD : va_D A (zMA g h0 h1 h2 h3 h4 h5 h6 rf28 sz ac sF sB sp ou tx nw tr di ke ik) := hD
    refine lv_if_eq (tgt := 37) hx hb dX4_block_32 (by decide) (fun c29 => ?_) (fun c29 => ?_)
    · replace h := zt c29 h
      refine lv_iload_n hx hb dX4_block_37 rfl (lv_at hl 2 rfl) ?_
      refine lv_iconst (v := 2) hx hb dX4_block_38 (by decide) ?_
      refine lv_icmp_ge (tgt := 61) hx hb dX4_block_39 (by decide) (fun c30 => ?_) (fun c30 => ?_)
      · replace h := zt c30 h
        refine lv_iload_n hx hb dX4_block_61 rfl (lv_at hl 2 rfl) ?_
        refine lv_iconst (v := 3) hx hb dX4_block_62 (by decide) ?_
        refine lv_icmp_ne (tgt := 83) hx hb dX4_block_63 (by decide) (fun c31 => ?_) (fun c31 => ?_)
        · replace h := zf c31 h
          refine lv_iconst (v := (-1)) hx hb dX4_block_83 (by decide) ?_
          refine lv_istore_n (lv' := [(3, .int (-1)), (0, .ref h0), (1, .int a1), (2, .int a2)]) hx hb dX4_block_84 rfl hl (by decide) rfl (fun ls hl => ?_)
          refine lv_iconst (v := 0) hx hb dX4_block_85 (by decide) ?_
          refine lv_istore (lv' := [(4, .int 0), (3, .int (-1)), (0, .ref h0), (1, .int a1), (2, .int a2)]) hx hb dX4_block_86 hl (by decide) rfl (fun ls hl => ?_)
          exact loop_88 1000 a1 (-1) 0 rf28 h H locs hP hD hS ls (lv_sub hl [2, 3, 1, 0] rfl)
        · replace h := zt c31 h
          refine lv_aload_n hx hb dX4_block_66 rfl (lv_at hl 0 rfl) ?_
          refine va_get (ci := 4) (v := .ref h2) (C := RX4) (T := TX4) (N := 13) hx hb hts uX4_block_X4 hown hK hP 0 rfl rfl 3 (by decide) (hts _ mX4_block_13) (fun _ h9 => h9) rfl dX4_block_67 ?_
          refine lv_iload_n hx hb dX4_block_70 rfl (lv_at hl 1 rfl) ?_
          obtain ⟨r32, e32, h⟩ := zb h
          refine zS (As := [.ref h2, .int a1]) (rest := []) (zQi_q _) ⟨hx, hb, hml, hown, hts⟩ (kX4_isPinned l g h2 nw a1 e32) (va_cwS 2 hts gX4_block_X4_isPinned rfl rfl rfl hdS_X4_isPinned ⟨Nat.le_of_ble_eq_true rfl, Nat.le_of_ble_eq_true rfl⟩) hK hP [2] rfl rfl hl.1 rfl (Nat.le_of_ble_eq_true rfl) ⟨Nat.zero_le _, Nat.zero_le _⟩ dX4_block_71 ?_
          refine lv_if_eq (tgt := 81) hx hb dX4_block_74 (by decide) (fun c33 => ?_) (fun c33 => ?_)
          · replace h := zt c33 h
            refine lv_iconst (v := 0) hx hb dX4_block_81 (by decide) ?_
            cases h
            exact zw_i hx hb hr hlocks hP hS dX4_block_82
          · replace h := zf c33 h
            refine lv_iconst (v := 1) hx hb dX4_block_77 (by decide) ?_
            refine lv_goto (tgt := 82) hx hb dX4_block_78 (by decide) ?_
            cases h
            exact zw_i hx hb hr hlocks hP hS dX4_block_82
      · replace h := zf c30 h
        refine lv_aload_n hx hb dX4_block_42 rfl (lv_at hl 0 rfl) ?_
        refine va_get (ci := 4) (v := .ref h2) (C := RX4) (T := TX4) (N := 13) hx hb hts uX4_block_X4 hown hK hP 0 rfl rfl 3 (by decide) (hts _ mX4_block_13) (fun _ h9 => h9) rfl dX4_block_43 ?_
        refine lv_iload_n hx hb dX4_block_46 rfl (lv_at hl 2 rfl) ?_
        refine lv_if_ne (tgt := 54) hx hb dX4_block_47 (by decide) (fun c34 => ?_) (fun c34 => ?_)
        · replace h := zf c34 h
          refine lv_sipush (v := 256) hx hb dX4_block_54 (by decide) ?_
          refine lv_iload_n hx hb dX4_block_57 rfl (lv_at hl 1 rfl) ?_
          refine lv_iadd hx hb dX4_block_58 ?_
          obtain ⟨i35, h⟩ := zi h
          refine za_ild hx hb hK hP 2 rfl _ rfl i35 dX4_block_59 ?_
          cases h
          exact zw_i hx hb hr hlocks hP hS dX4_block_60
        · replace h := zt c34 h
          refine lv_iconst (v := 0) hx hb dX4_block_50 (by decide) ?_
          refine lv_goto (tgt := 57) hx hb dX4_block_51 (by decide) ?_
          refine lv_iload_n hx hb dX4_block_57 rfl (lv_at hl 1 rfl) ?_
          refine lv_iadd hx hb dX4_block_58 ?_
          obtain ⟨i36, h⟩ := zi h
          refine za_ild hx hb hK hP 2 rfl _ rfl i36 dX4_block_59 ?_
          cases h
          exact zw_i hx hb hr hlocks hP hS dX4_block_60
    · replace h := zf c29 h
      refine lv_iconst (v := 0) hx hb dX4_block_35 (by decide) ?_
      cases h
      exact zw_i hx hb hr hlocks hP hS dX4_block_36
theorem hdS_X4_rangeAt : yX4_rangeAt.cls ≠ "java/lang/invoke/MethodHandle" ∧ yX4_rangeAt.cls ≠ "java/lang/invoke/VarHandle" ∧ (parseMethodDescriptor yX4_rangeAt.desc).map (fun d => d.parameters.length) = some 2 := by decide +kernel
def fX4_range_77 (nw : Nat → Int32) : Nat → Int32 → Int32 → Int32 → Int32 → Int32 → Int32 → (Int32) → Option (Int32 × (Int32))
  | 0, _, _, _, _, _, _, _ => none
  | n + 1, v2, v3, v4, v5, v6, v7, rf =>
    if v4 ≤ v7 then
        if v2 = 0 then
          some (v3, rf)
        else
          if v2 = 1 then
            some ((v4 - v3), rf)
          else
            if v2 = 2 then
              if (512 + v3) < 0 ∨ 785 ≤ (512 + v3).toNatClampNeg then none else
              some ((nw (512 + v3).toNatClampNeg), rf)
            else
              if v2 = 3 then
                some (v5, rf)
              else
                if v2 = 4 then
                  some (v6, rf)
                else
                  ob (fX4_isDue nw v3) fun r7 =>
                  if r7 = 0 then
                    some (0, rf)
                  else
                    some (1, rf)
      else
        ob (fX4_piece nw v7) fun r10 =>
        if r10 ≤ 0 then
          ob (fX4_piece nw v7) fun r12 =>
          fX4_range_77 nw n v2 v3 v4 (v5 + 0) (v6 + r12) (v7 + 1) rf
        else
          ob (fX4_piece nw v7) fun r13 =>
          fX4_range_77 nw n v2 v3 v4 (v5 + 1) (v6 + r13) (v7 + 1) rf
def fX4_range (nw : Nat → Int32) (a1 : Int32) (a2 : Int32) : Option (Int32 × (Int32)) :=
  ob (fX4_ranges nw) fun r14 =>
  ob (fX4_in a1.toInt64 0 ((r14 - 1).toInt64)) fun r15 =>
  if r15 = 0 then
    ob2 (fX4_refused 1) fun r27 rf27 =>
    if r27 = 0 then
      ob (fX4_rangeAt nw a1) fun r29 =>
      ob (fX4_endOf nw r29) fun r30 =>
      fX4_range_77 nw 1000 a2 r29 r30 0 0 r29 rf27
    else
      some (0, rf27)
  else
    ob (fX4_in a2.toInt64 0 (5)) fun r17 =>
    if r17 = 0 then
      ob2 (fX4_refused 2) fun r19 rf19 =>
      if r19 = 0 then
        ob (fX4_rangeAt nw a1) fun r21 =>
        ob (fX4_endOf nw r21) fun r22 =>
        fX4_range_77 nw 1000 a2 r21 r22 0 0 r21 rf19
      else
        some (0, rf19)
    else
      ob2 (fX4_refused 0) fun r23 rf23 =>
      if r23 = 0 then
        ob (fX4_rangeAt nw a1) fun r25 =>
        ob (fX4_endOf nw r25) fun r26 =>
        fX4_range_77 nw 1000 a2 r25 r26 0 0 r25 rf23
      else
        some (0, rf23)
theorem mX4_range_13 : Cond.fieldLink RX4 13 "IdleDiscardsModel" "now" "[I" ∈ wsX4_range := by decide +kernel
theorem uX4_range_X4 : ∀ w ∈ wsX40, w ∈ wsX4_range := by decide +kernel
theorem mX4_range_109 : Cond.constantLong RX4 109 (5) ∈ wsX4_range := by decide +kernel
set_option maxRecDepth 100000 in
set_option maxHeartbeats 4000000 in
theorem kX4_range (l : Launch) (g : zG) (h0 h1 h2 h3 h4 h5 h6 : Nat) (rf : Int32) (sz : Int32) (ac : Int32) (sF : Int32) (sB : Int32) (sp : Int32) (ou : Int32) (tx : Nat → Int32) (nw : Nat → Int32) (tr : Nat → Int32) (di : Nat → Int32) (ke : Nat → Int32) (ik : Nat → Int32) (a1 : Int32) (a2 : Int32) {r : Int32} {rf' : Int32} (h : fX4_range nw a1 a2 = some (r, rf')) : Mw l g yX4_range wsX4_range { frames := 5, cells := 0, slots := 0, locals := 112 } [.ref h0, .int a1, .int a2] (zMA g h0 h1 h2 h3 h4 h5 h6 rf sz ac sF sB sp ou tx nw tr di ke ik) (zWi g (zMA g h0 h1 h2 h3 h4 h5 h6 rf' sz ac sF sB sp ou tx nw tr di ke ik) r) := by
  refine zw_in (cc := cX4_range) (maxL := 8) (ret := (some .int)) (by decide) rfl (Nat.le_of_ble_eq_true rfl) ?_
  intro p e s m below meth c hx hb hr hml hts hown hlocks hK A hA hP hD hS ls hl
  replace hl : lv_has ls 8 [(0, .ref h0), (1, .int a1), (2, .int a2)] := hl
  have loop_77 : ∀ (n : Nat) (v2 : Int32) (v3 : Int32) (v4 : Int32) (v5 : Int32) (v6 : Int32) (v7 : Int32) (rf : (Int32)), fX4_range_77 nw n v2 v3 v4 v5 v6 v7 rf = some (r, rf') → ∀ (H : Heap) (locs : List Loc), zP g (zMA g h0 h1 h2 h3 h4 h5 h6 rf sz ac sF sB sp ou tx nw tr di ke ik) H → va_D A (zMA g h0 h1 h2 h3 h4 h5 h6 rf sz ac sF sB sp ou tx nw tr di ke ik) → va_S A s.heap H locs → ∀ (ls : Array Slot), lv_has ls 8 [(0, .ref h0), (2, .int v2), (3, .int v3), (4, .int v4), (5, .int v5), (6, .int v6), (7, .int v7)] → W p l e ({ frames := 5, cells := 0, slots := 0, locals := 112 } : Room) s m [.ref h0, .int a1, .int a2].toArray below meth c H locs 0 0 (MQ below (zWi g (zMA g h0 h1 h2 h3 h4 h5 h6 rf' sz ac sF sB sp ou tx nw tr di ke ik) r A) [.ref h0, .int a1, .int a2].toArray s 0 0 A) (F0 m 77 ls []) := by
    intro n
    induction n with
    | zero => intro v2 v3 v4 v5 v6 v7 rf h H locs hP hD hS ls hl; exact zn h
    | succ n ih =>
      intro v2 v3 v4 v5 v6 v7 rf h H locs hP hD hS ls hl
      rw [fX4_range_77] at h
      refine lv_iload hx hb dX4_range_77 (lv_at hl 6 rfl) ?_
      refine lv_iload hx hb dX4_range_79 (lv_at hl 3 rfl) ?_
      refine lv_icmp_ge (tgt := 126) hx hb dX4_range_81 (by decide) (fun c1 => ?_) (fun c1 => ?_)
      · replace h := zt c1 h
        refine lv_iload_n hx hb dX4_range_126 rfl (lv_at hl 1 rfl) ?_
        refine lv_if_ne (tgt := 134) hx hb dX4_range_127 (by decide) (fun c2 => ?_) (fun c2 => ?_)
        · replace h := zf c2 h
          refine lv_iload_n hx hb dX4_range_134 rfl (lv_at hl 1 rfl) ?_
          refine lv_iconst (v := 1) hx hb dX4_range_135 (by decide) ?_
          refine lv_icmp_ne (tgt := 146) hx hb dX4_range_136 (by decide) (fun c3 => ?_) (fun c3 => ?_)
          · replace h := zf c3 h
            refine lv_iload_n hx hb dX4_range_146 rfl (lv_at hl 1 rfl) ?_
            refine lv_iconst (v := 2) hx hb dX4_range_147 (by decide) ?_
            refine lv_icmp_ne (tgt := 164) hx hb dX4_range_148 (by decide) (fun c4 => ?_) (fun c4 => ?_)
            · replace h := zf c4 h
              refine lv_iload_n hx hb dX4_range_164 rfl (lv_at hl 1 rfl) ?_
              refine lv_iconst (v := 3) hx hb dX4_range_165 (by decide) ?_
              refine lv_icmp_ne (tgt := 174) hx hb dX4_range_166 (by decide) (fun c5 => ?_) (fun c5 => ?_)
              · replace h := zf c5 h
                refine lv_iload_n hx hb dX4_range_174 rfl (lv_at hl 1 rfl) ?_
                refine lv_iconst (v := 4) hx hb dX4_range_175 (by decide) ?_
                refine lv_icmp_ne (tgt := 184) hx hb dX4_range_176 (by decide) (fun c6 => ?_) (fun c6 => ?_)
                · replace h := zf c6 h
                  refine lv_aload_n hx hb dX4_range_184 rfl (lv_at hl 0 rfl) ?_
                  refine va_get (ci := 4) (v := .ref h2) (C := RX4) (T := TX4) (N := 13) hx hb hts uX4_range_X4 hown hK hP 0 rfl rfl 3 (by decide) (hts _ mX4_range_13) (fun _ h9 => h9) rfl dX4_range_185 ?_
                  refine lv_iload_n hx hb dX4_range_188 rfl (lv_at hl 2 rfl) ?_
                  obtain ⟨r7, e7, h⟩ := zb h
                  refine zS (As := [.ref h2, .int v3]) (rest := []) (zQi_q _) ⟨hx, hb, hml, hown, hts⟩ (kX4_isDue l g h2 nw v3 e7) (va_cwS 2 hts gX4_range_X4_isDue rfl rfl rfl hdS_X4_isDue ⟨Nat.le_of_ble_eq_true rfl, Nat.le_of_ble_eq_true rfl⟩) hK hP [2] rfl rfl hl.1 rfl (Nat.le_of_ble_eq_true rfl) ⟨Nat.zero_le _, Nat.zero_le _⟩ dX4_range_189 ?_
                  refine lv_if_eq (tgt := 199) hx hb dX4_range_192 (by decide) (fun c8 => ?_) (fun c8 => ?_)
                  · replace h := zt c8 h
                    refine lv_iconst (v := 0) hx hb dX4_range_199 (by decide) ?_
                    cases h
                    exact zw_i hx hb hr hlocks hP hS dX4_range_200
                  · replace h := zf c8 h
                    refine lv_iconst (v := 1) hx hb dX4_range_195 (by decide) ?_
                    refine lv_goto (tgt := 200) hx hb dX4_range_196 (by decide) ?_
                    cases h
                    exact zw_i hx hb hr hlocks hP hS dX4_range_200
                · replace h := zt c6 h
                  refine lv_iload hx hb dX4_range_179 (lv_at hl 5 rfl) ?_
                  refine lv_goto (tgt := 200) hx hb dX4_range_181 (by decide) ?_
                  cases h
                  exact zw_i hx hb hr hlocks hP hS dX4_range_200
              · replace h := zt c5 h
                refine lv_iload hx hb dX4_range_169 (lv_at hl 4 rfl) ?_
                refine lv_goto (tgt := 200) hx hb dX4_range_171 (by decide) ?_
                cases h
                exact zw_i hx hb hr hlocks hP hS dX4_range_200
            · replace h := zt c4 h
              refine lv_aload_n hx hb dX4_range_151 rfl (lv_at hl 0 rfl) ?_
              refine va_get (ci := 4) (v := .ref h2) (C := RX4) (T := TX4) (N := 13) hx hb hts uX4_range_X4 hown hK hP 0 rfl rfl 3 (by decide) (hts _ mX4_range_13) (fun _ h9 => h9) rfl dX4_range_152 ?_
              refine lv_sipush (v := 512) hx hb dX4_range_155 (by decide) ?_
              refine lv_iload_n hx hb dX4_range_158 rfl (lv_at hl 2 rfl) ?_
              refine lv_iadd hx hb dX4_range_159 ?_
              obtain ⟨i9, h⟩ := zi h
              refine za_ild hx hb hK hP 2 rfl _ rfl i9 dX4_range_160 ?_
              refine lv_goto (tgt := 200) hx hb dX4_range_161 (by decide) ?_
              cases h
              exact zw_i hx hb hr hlocks hP hS dX4_range_200
          · replace h := zt c3 h
            refine lv_iload hx hb dX4_range_139 (lv_at hl 3 rfl) ?_
            refine lv_iload_n hx hb dX4_range_141 rfl (lv_at hl 2 rfl) ?_
            refine lv_isub hx hb dX4_range_142 ?_
            refine lv_goto (tgt := 200) hx hb dX4_range_143 (by decide) ?_
            cases h
            exact zw_i hx hb hr hlocks hP hS dX4_range_200
        · replace h := zt c2 h
          refine lv_iload_n hx hb dX4_range_130 rfl (lv_at hl 2 rfl) ?_
          refine lv_goto (tgt := 200) hx hb dX4_range_131 (by decide) ?_
          cases h
          exact zw_i hx hb hr hlocks hP hS dX4_range_200
      · replace h := zf c1 h
        refine lv_iload hx hb dX4_range_84 (lv_at hl 4 rfl) ?_
        refine lv_aload_n hx hb dX4_range_86 rfl (lv_at hl 0 rfl) ?_
        refine va_get (ci := 4) (v := .ref h2) (C := RX4) (T := TX4) (N := 13) hx hb hts uX4_range_X4 hown hK hP 0 rfl rfl 3 (by decide) (hts _ mX4_range_13) (fun _ h9 => h9) rfl dX4_range_87 ?_
        refine lv_iload hx hb dX4_range_90 (lv_at hl 6 rfl) ?_
        obtain ⟨r10, e10, h⟩ := zb h
        refine zS (As := [.ref h2, .int v7]) (rest := [.int v5]) (zQi_q _) ⟨hx, hb, hml, hown, hts⟩ (kX4_piece l g h2 nw v7 e10) (va_cwS 2 hts gX4_range_X4_piece rfl rfl rfl hdS_X4_piece ⟨Nat.le_of_ble_eq_true rfl, Nat.le_of_ble_eq_true rfl⟩) hK hP [2] rfl rfl hl.1 rfl (Nat.le_of_ble_eq_true rfl) ⟨Nat.zero_le _, Nat.zero_le _⟩ dX4_range_92 ?_
        refine lv_if_le (tgt := 102) hx hb dX4_range_95 (by decide) (fun c11 => ?_) (fun c11 => ?_)
        · replace h := zt c11 h
          refine lv_iconst (v := 0) hx hb dX4_range_102 (by decide) ?_
          refine lv_iadd hx hb dX4_range_103 ?_
          refine lv_istore (lv' := [(5, .int (v5 + 0)), (0, .ref h0), (2, .int v2), (3, .int v3), (4, .int v4), (6, .int v6), (7, .int v7)]) hx hb dX4_range_104 hl (by decide) rfl (fun ls hl => ?_)
          refine lv_iload hx hb dX4_range_106 (lv_at hl 5 rfl) ?_
          refine lv_aload_n hx hb dX4_range_108 rfl (lv_at hl 1 rfl) ?_
          refine va_get (ci := 4) (v := .ref h2) (C := RX4) (T := TX4) (N := 13) hx hb hts uX4_range_X4 hown hK hP 0 rfl rfl 3 (by decide) (hts _ mX4_range_13) (fun _ h9 => h9) rfl dX4_range_109 ?_
          refine lv_iload hx hb dX4_range_112 (lv_at hl 6 rfl) ?_
          obtain ⟨r12, e12, h⟩ := zb h
          refine zS (As := [.ref h2, .int v7]) (rest := [.int v6]) (zQi_q _) ⟨hx, hb, hml, hown, hts⟩ (kX4_piece l g h2 nw v7 e12) (va_cwS 2 hts gX4_range_X4_piece rfl rfl rfl hdS_X4_piece ⟨Nat.le_of_ble_eq_true rfl, Nat.le_of_ble_eq_true rfl⟩) hK hP [2] rfl rfl hl.1 rfl (Nat.le_of_ble_eq_true rfl) ⟨Nat.zero_le _, Nat.zero_le _⟩ dX4_range_114 ?_
          refine lv_iadd hx hb dX4_range_117 ?_
          refine lv_istore (lv' := [(6, .int (v6 + r12)), (5, .int (v5 + 0)), (0, .ref h0), (2, .int v2), (3, .int v3), (4, .int v4), (7, .int v7)]) hx hb dX4_range_118 hl (by decide) rfl (fun ls hl => ?_)
          refine lv_iinc (v := (v7 + 1)) (lv' := [(7, .int (v7 + 1)), (6, .int (v6 + r12)), (5, .int (v5 + 0)), (0, .ref h0), (2, .int v2), (3, .int v3), (4, .int v4)]) hx hb dX4_range_120 hl (k := 6) rfl rfl (by decide) rfl (fun ls hl => ?_)
          refine lv_goto (tgt := 77) hx hb dX4_range_123 (by decide) ?_
          exact ih v2 v3 v4 (v5 + 0) (v6 + r12) (v7 + 1) rf h H locs hP hD hS ls (lv_sub hl [3, 4, 5, 6, 2, 1, 0] rfl)
        · replace h := zf c11 h
          refine lv_iconst (v := 1) hx hb dX4_range_98 (by decide) ?_
          refine lv_goto (tgt := 103) hx hb dX4_range_99 (by decide) ?_
          refine lv_iadd hx hb dX4_range_103 ?_
          refine lv_istore (lv' := [(5, .int (v5 + 1)), (0, .ref h0), (2, .int v2), (3, .int v3), (4, .int v4), (6, .int v6), (7, .int v7)]) hx hb dX4_range_104 hl (by decide) rfl (fun ls hl => ?_)
          refine lv_iload hx hb dX4_range_106 (lv_at hl 5 rfl) ?_
          refine lv_aload_n hx hb dX4_range_108 rfl (lv_at hl 1 rfl) ?_
          refine va_get (ci := 4) (v := .ref h2) (C := RX4) (T := TX4) (N := 13) hx hb hts uX4_range_X4 hown hK hP 0 rfl rfl 3 (by decide) (hts _ mX4_range_13) (fun _ h9 => h9) rfl dX4_range_109 ?_
          refine lv_iload hx hb dX4_range_112 (lv_at hl 6 rfl) ?_
          obtain ⟨r13, e13, h⟩ := zb h
          refine zS (As := [.ref h2, .int v7]) (rest := [.int v6]) (zQi_q _) ⟨hx, hb, hml, hown, hts⟩ (kX4_piece l g h2 nw v7 e13) (va_cwS 2 hts gX4_range_X4_piece rfl rfl rfl hdS_X4_piece ⟨Nat.le_of_ble_eq_true rfl, Nat.le_of_ble_eq_true rfl⟩) hK hP [2] rfl rfl hl.1 rfl (Nat.le_of_ble_eq_true rfl) ⟨Nat.zero_le _, Nat.zero_le _⟩ dX4_range_114 ?_
          refine lv_iadd hx hb dX4_range_117 ?_
          refine lv_istore (lv' := [(6, .int (v6 + r13)), (5, .int (v5 + 1)), (0, .ref h0), (2, .int v2), (3, .int v3), (4, .int v4), (7, .int v7)]) hx hb dX4_range_118 hl (by decide) rfl (fun ls hl => ?_)
          refine lv_iinc (v := (v7 + 1)) (lv' := [(7, .int (v7 + 1)), (6, .int (v6 + r13)), (5, .int (v5 + 1)), (0, .ref h0), (2, .int v2), (3, .int v3), (4, .int v4)]) hx hb dX4_range_120 hl (k := 6) rfl rfl (by decide) rfl (fun ls hl => ?_)
          refine lv_goto (tgt := 77) hx hb dX4_range_123 (by decide) ?_
          exact ih v2 v3 v4 (v5 + 1) (v6 + r13) (v7 + 1) rf h H locs hP hD hS ls (lv_sub hl [3, 4, 5, 6, 2, 1, 0] rfl)
  unfold fX4_range at h
  refine lv_aload_n hx hb dX4_range_0 rfl (lv_at hl 0 rfl) ?_
  refine lv_iload_n hx hb dX4_range_1 rfl (lv_at hl 1 rfl) ?_
  refine lv_i2l (v := a1.toInt64) hx hb dX4_range_2 rfl ?_
  refine lv_lconst (v := 0) hx hb dX4_range_3 (by decide) ?_
  refine lv_aload_n hx hb dX4_range_4 rfl (lv_at hl 0 rfl) ?_
  refine va_get (ci := 4) (v := .ref h2) (C := RX4) (T := TX4) (N := 13) hx hb hts uX4_range_X4 hown hK hP 0 rfl rfl 3 (by decide) (hts _ mX4_range_13) (fun _ h9 => h9) rfl dX4_range_5 ?_
  obtain ⟨r14, e14, h⟩ := zb h
  refine zS (As := [.ref h2]) (rest := [.long 0, .long a1.toInt64, .ref h0]) (zQi_q _) ⟨hx, hb, hml, hown, hts⟩ (kX4_ranges l g h2 nw e14) (va_cwS 1 hts gX4_range_X4_ranges rfl rfl rfl hdS_X4_ranges ⟨Nat.le_of_ble_eq_true rfl, Nat.le_of_ble_eq_true rfl⟩) hK hP [2] rfl rfl hl.1 rfl (Nat.le_of_ble_eq_true rfl) ⟨Nat.zero_le _, Nat.zero_le _⟩ dX4_range_8 ?_
  refine lv_iconst (v := 1) hx hb dX4_range_11 (by decide) ?_
  refine lv_isub hx hb dX4_range_12 ?_
  refine lv_i2l (v := (r14 - 1).toInt64) hx hb dX4_range_13 rfl ?_
  obtain ⟨r15, e15, h⟩ := zb h
  refine zS (As := [.long a1.toInt64, .long 0, .long ((r14 - 1).toInt64)]) (rest := [.ref h0]) (zQi_q _) ⟨hx, hb, hml, hown, hts⟩ (kX4_in l g a1.toInt64 0 ((r14 - 1).toInt64) e15) (va_cwS 3 hts gX4_range_X4_in rfl rfl rfl hdS_X4_in ⟨Nat.le_of_ble_eq_true rfl, Nat.le_of_ble_eq_true rfl⟩) hK hP [] rfl rfl hl.1 rfl (Nat.le_of_ble_eq_true rfl) ⟨Nat.zero_le _, Nat.zero_le _⟩ dX4_range_14 ?_
  refine lv_if_ne (tgt := 24) hx hb dX4_range_17 (by decide) (fun c16 => ?_) (fun c16 => ?_)
  · replace h := zf c16 h
    refine lv_iload_n hx hb dX4_range_24 rfl (lv_at hl 2 rfl) ?_
    refine lv_i2l (v := a2.toInt64) hx hb dX4_range_25 rfl ?_
    refine lv_lconst (v := 0) hx hb dX4_range_26 (by decide) ?_
    refine lv_ldc2 hx hb hown (hts _ mX4_range_109) dX4_range_27 ?_
    obtain ⟨r17, e17, h⟩ := zb h
    refine zS (As := [.long a2.toInt64, .long 0, .long (5)]) (rest := [.ref h0]) (zQi_q _) ⟨hx, hb, hml, hown, hts⟩ (kX4_in l g a2.toInt64 0 (5) e17) (va_cwS 3 hts gX4_range_X4_in rfl rfl rfl hdS_X4_in ⟨Nat.le_of_ble_eq_true rfl, Nat.le_of_ble_eq_true rfl⟩) hK hP [] rfl rfl hl.1 rfl (Nat.le_of_ble_eq_true rfl) ⟨Nat.zero_le _, Nat.zero_le _⟩ dX4_range_30 ?_
    refine lv_if_eq (tgt := 40) hx hb dX4_range_33 (by decide) (fun c18 => ?_) (fun c18 => ?_)
    · replace h := zt c18 h
      refine lv_iconst (v := 2) hx hb dX4_range_40 (by decide) ?_
      obtain ⟨r19, rf19, e19, h⟩ := zb2 h
      refine zVw (As := [.int 2]) (rest := []) (zWi_q g _ _) ⟨hx, hb, hml, hown, hts⟩ (kX4_refused l g h0 h1 (.ref h2) (.ref h3) (.ref h4) (.ref h5) (.ref h6) rf sz ac sF sB sp ou tx 2 e19) (cwV 1 hts gX4_range_X4_refused rfl rfl rfl hdV_X4_refused ⟨Nat.le_of_ble_eq_true rfl, Nat.le_of_ble_eq_true rfl⟩) hK hP hD hS hA [0, 1] (by decide) rfl rfl 0 rfl rfl rfl hl.1 rfl (Nat.le_of_ble_eq_true rfl) ⟨Nat.zero_le _, Nat.zero_le _⟩ dX4_range_41 (fun H locs hP hD hS => ?_)
      replace hP : zP g (zMA g h0 h1 h2 h3 h4 h5 h6 rf19 sz ac sF sB sp ou tx nw tr di ke ik) H := hP
      replace hD : va_D A (zMA g h0 h1 h2 h3 h4 h5 h6 rf19 sz ac sF sB sp ou tx nw tr di ke ik) := hD
      refine lv_if_eq (tgt := 49) hx hb dX4_range_44 (by decide) (fun c20 => ?_) (fun c20 => ?_)
      · replace h := zt c20 h
        refine lv_aload_n hx hb dX4_range_49 rfl (lv_at hl 0 rfl) ?_
        refine va_get (ci := 4) (v := .ref h2) (C := RX4) (T := TX4) (N := 13) hx hb hts uX4_range_X4 hown hK hP 0 rfl rfl 3 (by decide) (hts _ mX4_range_13) (fun _ h9 => h9) rfl dX4_range_50 ?_
        refine lv_iload_n hx hb dX4_range_53 rfl (lv_at hl 1 rfl) ?_
        obtain ⟨r21, e21, h⟩ := zb h
        refine zS (As := [.ref h2, .int a1]) (rest := []) (zQi_q _) ⟨hx, hb, hml, hown, hts⟩ (kX4_rangeAt l g h2 nw a1 e21) (va_cwS 2 hts gX4_range_X4_rangeAt rfl rfl rfl hdS_X4_rangeAt ⟨Nat.le_of_ble_eq_true rfl, Nat.le_of_ble_eq_true rfl⟩) hK hP [2] rfl rfl hl.1 rfl (Nat.le_of_ble_eq_true rfl) ⟨Nat.zero_le _, Nat.zero_le _⟩ dX4_range_54 ?_
        refine lv_istore_n (lv' := [(3, .int r21), (0, .ref h0), (1, .int a1), (2, .int a2)]) hx hb dX4_range_57 rfl hl (by decide) rfl (fun ls hl => ?_)
        refine lv_aload_n hx hb dX4_range_58 rfl (lv_at hl 1 rfl) ?_
        refine va_get (ci := 4) (v := .ref h2) (C := RX4) (T := TX4) (N := 13) hx hb hts uX4_range_X4 hown hK hP 0 rfl rfl 3 (by decide) (hts _ mX4_range_13) (fun _ h9 => h9) rfl dX4_range_59 ?_
        refine lv_iload_n hx hb dX4_range_62 rfl (lv_at hl 0 rfl) ?_
        obtain ⟨r22, e22, h⟩ := zb h
        refine zS (As := [.ref h2, .int r21]) (rest := []) (zQi_q _) ⟨hx, hb, hml, hown, hts⟩ (kX4_endOf l g h2 nw r21 e22) (va_cwS 2 hts gX4_range_X4_endOf rfl rfl rfl hdS_X4_endOf ⟨Nat.le_of_ble_eq_true rfl, Nat.le_of_ble_eq_true rfl⟩) hK hP [2] rfl rfl hl.1 rfl (Nat.le_of_ble_eq_true rfl) ⟨Nat.zero_le _, Nat.zero_le _⟩ dX4_range_63 ?_
        refine lv_istore (lv' := [(4, .int r22), (3, .int r21), (0, .ref h0), (1, .int a1), (2, .int a2)]) hx hb dX4_range_66 hl (by decide) rfl (fun ls hl => ?_)
        refine lv_iconst (v := 0) hx hb dX4_range_68 (by decide) ?_
        refine lv_istore (lv' := [(5, .int 0), (4, .int r22), (3, .int r21), (0, .ref h0), (1, .int a1), (2, .int a2)]) hx hb dX4_range_69 hl (by decide) rfl (fun ls hl => ?_)
        refine lv_iconst (v := 0) hx hb dX4_range_71 (by decide) ?_
        refine lv_istore (lv' := [(6, .int 0), (5, .int 0), (4, .int r22), (3, .int r21), (0, .ref h0), (1, .int a1), (2, .int a2)]) hx hb dX4_range_72 hl (by decide) rfl (fun ls hl => ?_)
        refine lv_iload_n hx hb dX4_range_74 rfl (lv_at hl 3 rfl) ?_
        refine lv_istore (lv' := [(7, .int r21), (6, .int 0), (5, .int 0), (4, .int r22), (3, .int r21), (0, .ref h0), (1, .int a1), (2, .int a2)]) hx hb dX4_range_75 hl (by decide) rfl (fun ls hl => ?_)
        exact loop_77 1000 a2 r21 r22 0 0 r21 rf19 h H locs hP hD hS ls (lv_sub hl [5, 7, 4, 3, 2, 1, 0] rfl)
      · replace h := zf c20 h
        refine lv_iconst (v := 0) hx hb dX4_range_47 (by decide) ?_
        cases h
        exact zw_i hx hb hr hlocks hP hS dX4_range_48
    · replace h := zf c18 h
      refine lv_iconst (v := 0) hx hb dX4_range_36 (by decide) ?_
      refine lv_goto (tgt := 41) hx hb dX4_range_37 (by decide) ?_
      obtain ⟨r23, rf23, e23, h⟩ := zb2 h
      refine zVw (As := [.int 0]) (rest := []) (zWi_q g _ _) ⟨hx, hb, hml, hown, hts⟩ (kX4_refused l g h0 h1 (.ref h2) (.ref h3) (.ref h4) (.ref h5) (.ref h6) rf sz ac sF sB sp ou tx 0 e23) (cwV 1 hts gX4_range_X4_refused rfl rfl rfl hdV_X4_refused ⟨Nat.le_of_ble_eq_true rfl, Nat.le_of_ble_eq_true rfl⟩) hK hP hD hS hA [0, 1] (by decide) rfl rfl 0 rfl rfl rfl hl.1 rfl (Nat.le_of_ble_eq_true rfl) ⟨Nat.zero_le _, Nat.zero_le _⟩ dX4_range_41 (fun H locs hP hD hS => ?_)
      replace hP : zP g (zMA g h0 h1 h2 h3 h4 h5 h6 rf23 sz ac sF sB sp ou tx nw tr di ke ik) H := hP
      replace hD : va_D A (zMA g h0 h1 h2 h3 h4 h5 h6 rf23 sz ac sF sB sp ou tx nw tr di ke ik) := hD
      refine lv_if_eq (tgt := 49) hx hb dX4_range_44 (by decide) (fun c24 => ?_) (fun c24 => ?_)
      · replace h := zt c24 h
        refine lv_aload_n hx hb dX4_range_49 rfl (lv_at hl 0 rfl) ?_
        refine va_get (ci := 4) (v := .ref h2) (C := RX4) (T := TX4) (N := 13) hx hb hts uX4_range_X4 hown hK hP 0 rfl rfl 3 (by decide) (hts _ mX4_range_13) (fun _ h9 => h9) rfl dX4_range_50 ?_
        refine lv_iload_n hx hb dX4_range_53 rfl (lv_at hl 1 rfl) ?_
        obtain ⟨r25, e25, h⟩ := zb h
        refine zS (As := [.ref h2, .int a1]) (rest := []) (zQi_q _) ⟨hx, hb, hml, hown, hts⟩ (kX4_rangeAt l g h2 nw a1 e25) (va_cwS 2 hts gX4_range_X4_rangeAt rfl rfl rfl hdS_X4_rangeAt ⟨Nat.le_of_ble_eq_true rfl, Nat.le_of_ble_eq_true rfl⟩) hK hP [2] rfl rfl hl.1 rfl (Nat.le_of_ble_eq_true rfl) ⟨Nat.zero_le _, Nat.zero_le _⟩ dX4_range_54 ?_
        refine lv_istore_n (lv' := [(3, .int r25), (0, .ref h0), (1, .int a1), (2, .int a2)]) hx hb dX4_range_57 rfl hl (by decide) rfl (fun ls hl => ?_)
        refine lv_aload_n hx hb dX4_range_58 rfl (lv_at hl 1 rfl) ?_
        refine va_get (ci := 4) (v := .ref h2) (C := RX4) (T := TX4) (N := 13) hx hb hts uX4_range_X4 hown hK hP 0 rfl rfl 3 (by decide) (hts _ mX4_range_13) (fun _ h9 => h9) rfl dX4_range_59 ?_
        refine lv_iload_n hx hb dX4_range_62 rfl (lv_at hl 0 rfl) ?_
        obtain ⟨r26, e26, h⟩ := zb h
        refine zS (As := [.ref h2, .int r25]) (rest := []) (zQi_q _) ⟨hx, hb, hml, hown, hts⟩ (kX4_endOf l g h2 nw r25 e26) (va_cwS 2 hts gX4_range_X4_endOf rfl rfl rfl hdS_X4_endOf ⟨Nat.le_of_ble_eq_true rfl, Nat.le_of_ble_eq_true rfl⟩) hK hP [2] rfl rfl hl.1 rfl (Nat.le_of_ble_eq_true rfl) ⟨Nat.zero_le _, Nat.zero_le _⟩ dX4_range_63 ?_
        refine lv_istore (lv' := [(4, .int r26), (3, .int r25), (0, .ref h0), (1, .int a1), (2, .int a2)]) hx hb dX4_range_66 hl (by decide) rfl (fun ls hl => ?_)
        refine lv_iconst (v := 0) hx hb dX4_range_68 (by decide) ?_
        refine lv_istore (lv' := [(5, .int 0), (4, .int r26), (3, .int r25), (0, .ref h0), (1, .int a1), (2, .int a2)]) hx hb dX4_range_69 hl (by decide) rfl (fun ls hl => ?_)
        refine lv_iconst (v := 0) hx hb dX4_range_71 (by decide) ?_
        refine lv_istore (lv' := [(6, .int 0), (5, .int 0), (4, .int r26), (3, .int r25), (0, .ref h0), (1, .int a1), (2, .int a2)]) hx hb dX4_range_72 hl (by decide) rfl (fun ls hl => ?_)
        refine lv_iload_n hx hb dX4_range_74 rfl (lv_at hl 3 rfl) ?_
        refine lv_istore (lv' := [(7, .int r25), (6, .int 0), (5, .int 0), (4, .int r26), (3, .int r25), (0, .ref h0), (1, .int a1), (2, .int a2)]) hx hb dX4_range_75 hl (by decide) rfl (fun ls hl => ?_)
        exact loop_77 1000 a2 r25 r26 0 0 r25 rf23 h H locs hP hD hS ls (lv_sub hl [5, 7, 4, 3, 2, 1, 0] rfl)
      · replace h := zf c24 h
        refine lv_iconst (v := 0) hx hb dX4_range_47 (by decide) ?_
        cases h
        exact zw_i hx hb hr hlocks hP hS dX4_range_48
  · replace h := zt c16 h
    refine lv_iconst (v := 1) hx hb dX4_range_20 (by decide) ?_
    refine lv_goto (tgt := 41) hx hb dX4_range_21 (by decide) ?_
    obtain ⟨r27, rf27, e27, h⟩ := zb2 h
    refine zVw (As := [.int 1]) (rest := []) (zWi_q g _ _) ⟨hx, hb, hml, hown, hts⟩ (kX4_refused l g h0 h1 (.ref h2) (.ref h3) (.ref h4) (.ref h5) (.ref h6) rf sz ac sF sB sp ou tx 1 e27) (cwV 1 hts gX4_range_X4_refused rfl rfl rfl hdV_X4_refused ⟨Nat.le_of_ble_eq_true rfl, Nat.le_of_ble_eq_true rfl⟩) hK hP hD hS hA [0, 1] (by decide) rfl rfl 0 rfl rfl rfl hl.1 rfl (Nat.le_of_ble_eq_true rfl) ⟨Nat.zero_le _, Nat.zero_le _⟩ dX4_range_41 (fun H locs hP hD hS => ?_)
    replace hP : zP g (zMA g h0 h1 h2 h3 h4 h5 h6 rf27 sz ac sF sB sp ou tx nw tr di ke ik) H := hP
    replace hD : va_D A (zMA g h0 h1 h2 h3 h4 h5 h6 rf27 sz ac sF sB sp ou tx nw tr di ke ik) := hD
    refine lv_if_eq (tgt := 49) hx hb dX4_range_44 (by decide) (fun c28 => ?_) (fun c28 => ?_)
    · replace h := zt c28 h
      refine lv_aload_n hx hb dX4_range_49 rfl (lv_at hl 0 rfl) ?_
      refine va_get (ci := 4) (v := .ref h2) (C := RX4) (T := TX4) (N := 13) hx hb hts uX4_range_X4 hown hK hP 0 rfl rfl 3 (by decide) (hts _ mX4_range_13) (fun _ h9 => h9) rfl dX4_range_50 ?_
      refine lv_iload_n hx hb dX4_range_53 rfl (lv_at hl 1 rfl) ?_
      obtain ⟨r29, e29, h⟩ := zb h
      refine zS (As := [.ref h2, .int a1]) (rest := []) (zQi_q _) ⟨hx, hb, hml, hown, hts⟩ (kX4_rangeAt l g h2 nw a1 e29) (va_cwS 2 hts gX4_range_X4_rangeAt rfl rfl rfl hdS_X4_rangeAt ⟨Nat.le_of_ble_eq_true rfl, Nat.le_of_ble_eq_true rfl⟩) hK hP [2] rfl rfl hl.1 rfl (Nat.le_of_ble_eq_true rfl) ⟨Nat.zero_le _, Nat.zero_le _⟩ dX4_range_54 ?_
      refine lv_istore_n (lv' := [(3, .int r29), (0, .ref h0), (1, .int a1), (2, .int a2)]) hx hb dX4_range_57 rfl hl (by decide) rfl (fun ls hl => ?_)
      refine lv_aload_n hx hb dX4_range_58 rfl (lv_at hl 1 rfl) ?_
      refine va_get (ci := 4) (v := .ref h2) (C := RX4) (T := TX4) (N := 13) hx hb hts uX4_range_X4 hown hK hP 0 rfl rfl 3 (by decide) (hts _ mX4_range_13) (fun _ h9 => h9) rfl dX4_range_59 ?_
      refine lv_iload_n hx hb dX4_range_62 rfl (lv_at hl 0 rfl) ?_
      obtain ⟨r30, e30, h⟩ := zb h
      refine zS (As := [.ref h2, .int r29]) (rest := []) (zQi_q _) ⟨hx, hb, hml, hown, hts⟩ (kX4_endOf l g h2 nw r29 e30) (va_cwS 2 hts gX4_range_X4_endOf rfl rfl rfl hdS_X4_endOf ⟨Nat.le_of_ble_eq_true rfl, Nat.le_of_ble_eq_true rfl⟩) hK hP [2] rfl rfl hl.1 rfl (Nat.le_of_ble_eq_true rfl) ⟨Nat.zero_le _, Nat.zero_le _⟩ dX4_range_63 ?_
      refine lv_istore (lv' := [(4, .int r30), (3, .int r29), (0, .ref h0), (1, .int a1), (2, .int a2)]) hx hb dX4_range_66 hl (by decide) rfl (fun ls hl => ?_)
      refine lv_iconst (v := 0) hx hb dX4_range_68 (by decide) ?_
      refine lv_istore (lv' := [(5, .int 0), (4, .int r30), (3, .int r29), (0, .ref h0), (1, .int a1), (2, .int a2)]) hx hb dX4_range_69 hl (by decide) rfl (fun ls hl => ?_)
      refine lv_iconst (v := 0) hx hb dX4_range_71 (by decide) ?_
      refine lv_istore (lv' := [(6, .int 0), (5, .int 0), (4, .int r30), (3, .int r29), (0, .ref h0), (1, .int a1), (2, .int a2)]) hx hb dX4_range_72 hl (by decide) rfl (fun ls hl => ?_)
      refine lv_iload_n hx hb dX4_range_74 rfl (lv_at hl 3 rfl) ?_
      refine lv_istore (lv' := [(7, .int r29), (6, .int 0), (5, .int 0), (4, .int r30), (3, .int r29), (0, .ref h0), (1, .int a1), (2, .int a2)]) hx hb dX4_range_75 hl (by decide) rfl (fun ls hl => ?_)
      exact loop_77 1000 a2 r29 r30 0 0 r29 rf27 h H locs hP hD hS ls (lv_sub hl [5, 7, 4, 3, 2, 1, 0] rfl)
    · replace h := zf c28 h
      refine lv_iconst (v := 0) hx hb dX4_range_47 (by decide) ?_
      cases h
      exact zw_i hx hb hr hlocks hP hS dX4_range_48
def fX4_pinned (nw : Nat → Int32) (a1 : Int32) (a2 : Int32) : Option (Int32 × (Int32)) :=
  ob (fX4_in a1.toInt64 0 (2)) fun r1 =>
  if r1 = 0 then
    ob2 (fX4_refused 1) fun r19 rf19 =>
    if r19 = 0 then
      if (782 + a1) < 0 ∨ 785 ≤ (782 + a1).toNatClampNeg then none else
      if (nw (782 + a1).toNatClampNeg) = 0 then
        some ((-1), rf19)
      else
        if a2 = 0 then
          if (779 + a1) < 0 ∨ 785 ≤ (779 + a1).toNatClampNeg then none else
          some ((nw (779 + a1).toNatClampNeg), rf19)
        else
          if (782 + a1) < 0 ∨ 785 ≤ (782 + a1).toNatClampNeg then none else
          some ((nw (782 + a1).toNatClampNeg), rf19)
    else
      some (0, rf19)
  else
    ob (fX4_in a2.toInt64 0 1) fun r3 =>
    if r3 = 0 then
      ob2 (fX4_refused 2) fun r5 rf5 =>
      if r5 = 0 then
        if (782 + a1) < 0 ∨ 785 ≤ (782 + a1).toNatClampNeg then none else
        if (nw (782 + a1).toNatClampNeg) = 0 then
          some ((-1), rf5)
        else
          if a2 = 0 then
            if (779 + a1) < 0 ∨ 785 ≤ (779 + a1).toNatClampNeg then none else
            some ((nw (779 + a1).toNatClampNeg), rf5)
          else
            if (782 + a1) < 0 ∨ 785 ≤ (782 + a1).toNatClampNeg then none else
            some ((nw (782 + a1).toNatClampNeg), rf5)
      else
        some (0, rf5)
    else
      ob2 (fX4_refused 0) fun r12 rf12 =>
      if r12 = 0 then
        if (782 + a1) < 0 ∨ 785 ≤ (782 + a1).toNatClampNeg then none else
        if (nw (782 + a1).toNatClampNeg) = 0 then
          some ((-1), rf12)
        else
          if a2 = 0 then
            if (779 + a1) < 0 ∨ 785 ≤ (779 + a1).toNatClampNeg then none else
            some ((nw (779 + a1).toNatClampNeg), rf12)
          else
            if (782 + a1) < 0 ∨ 785 ≤ (782 + a1).toNatClampNeg then none else
            some ((nw (782 + a1).toNatClampNeg), rf12)
      else
        some (0, rf12)
theorem mX4_pinned_191 : Cond.constantLong RX4 191 (2) ∈ wsX4_pinned := by decide +kernel
theorem mX4_pinned_13 : Cond.fieldLink RX4 13 "IdleDiscardsModel" "now" "[I" ∈ wsX4_pinned := by decide +kernel
theorem uX4_pinned_X4 : ∀ w ∈ wsX40, w ∈ wsX4_pinned := by decide +kernel
set_option maxRecDepth 100000 in
set_option maxHeartbeats 4000000 in
theorem kX4_pinned (l : Launch) (g : zG) (h0 h1 h2 h3 h4 h5 h6 : Nat) (rf : Int32) (sz : Int32) (ac : Int32) (sF : Int32) (sB : Int32) (sp : Int32) (ou : Int32) (tx : Nat → Int32) (nw : Nat → Int32) (tr : Nat → Int32) (di : Nat → Int32) (ke : Nat → Int32) (ik : Nat → Int32) (a1 : Int32) (a2 : Int32) {r : Int32} {rf' : Int32} (h : fX4_pinned nw a1 a2 = some (r, rf')) : Mw l g yX4_pinned wsX4_pinned { frames := 1, cells := 0, slots := 0, locals := 25 } [.ref h0, .int a1, .int a2] (zMA g h0 h1 h2 h3 h4 h5 h6 rf sz ac sF sB sp ou tx nw tr di ke ik) (zWi g (zMA g h0 h1 h2 h3 h4 h5 h6 rf' sz ac sF sB sp ou tx nw tr di ke ik) r) := by
  refine zw_in (cc := cX4_pinned) (maxL := 3) (ret := (some .int)) (by decide) rfl (Nat.le_of_ble_eq_true rfl) ?_
  intro p e s m below meth c hx hb hr hml hts hown hlocks hK A hA hP hD hS ls hl
  replace hl : lv_has ls 3 [(0, .ref h0), (1, .int a1), (2, .int a2)] := hl
  unfold fX4_pinned at h
  refine lv_aload_n hx hb dX4_pinned_0 rfl (lv_at hl 0 rfl) ?_
  refine lv_iload_n hx hb dX4_pinned_1 rfl (lv_at hl 1 rfl) ?_
  refine lv_i2l (v := a1.toInt64) hx hb dX4_pinned_2 rfl ?_
  refine lv_lconst (v := 0) hx hb dX4_pinned_3 (by decide) ?_
  refine lv_ldc2 hx hb hown (hts _ mX4_pinned_191) dX4_pinned_4 ?_
  obtain ⟨r1, e1, h⟩ := zb h
  refine zS (As := [.long a1.toInt64, .long 0, .long (2)]) (rest := [.ref h0]) (zQi_q _) ⟨hx, hb, hml, hown, hts⟩ (kX4_in l g a1.toInt64 0 (2) e1) (va_cwS 3 hts gX4_pinned_X4_in rfl rfl rfl hdS_X4_in ⟨Nat.le_of_ble_eq_true rfl, Nat.le_of_ble_eq_true rfl⟩) hK hP [] rfl rfl hl.1 rfl (Nat.le_of_ble_eq_true rfl) ⟨Nat.zero_le _, Nat.zero_le _⟩ dX4_pinned_7 ?_
  refine lv_if_ne (tgt := 17) hx hb dX4_pinned_10 (by decide) (fun c2 => ?_) (fun c2 => ?_)
  · replace h := zf c2 h
    refine lv_iload_n hx hb dX4_pinned_17 rfl (lv_at hl 2 rfl) ?_
    refine lv_i2l (v := a2.toInt64) hx hb dX4_pinned_18 rfl ?_
    refine lv_lconst (v := 0) hx hb dX4_pinned_19 (by decide) ?_
    refine lv_lconst (v := 1) hx hb dX4_pinned_20 (by decide) ?_
    obtain ⟨r3, e3, h⟩ := zb h
    refine zS (As := [.long a2.toInt64, .long 0, .long 1]) (rest := [.ref h0]) (zQi_q _) ⟨hx, hb, hml, hown, hts⟩ (kX4_in l g a2.toInt64 0 1 e3) (va_cwS 3 hts gX4_pinned_X4_in rfl rfl rfl hdS_X4_in ⟨Nat.le_of_ble_eq_true rfl, Nat.le_of_ble_eq_true rfl⟩) hK hP [] rfl rfl hl.1 rfl (Nat.le_of_ble_eq_true rfl) ⟨Nat.zero_le _, Nat.zero_le _⟩ dX4_pinned_21 ?_
    refine lv_if_eq (tgt := 31) hx hb dX4_pinned_24 (by decide) (fun c4 => ?_) (fun c4 => ?_)
    · replace h := zt c4 h
      refine lv_iconst (v := 2) hx hb dX4_pinned_31 (by decide) ?_
      obtain ⟨r5, rf5, e5, h⟩ := zb2 h
      refine zVw (As := [.int 2]) (rest := []) (zWi_q g _ _) ⟨hx, hb, hml, hown, hts⟩ (kX4_refused l g h0 h1 (.ref h2) (.ref h3) (.ref h4) (.ref h5) (.ref h6) rf sz ac sF sB sp ou tx 2 e5) (cwV 1 hts gX4_pinned_X4_refused rfl rfl rfl hdV_X4_refused ⟨Nat.le_of_ble_eq_true rfl, Nat.le_of_ble_eq_true rfl⟩) hK hP hD hS hA [0, 1] (by decide) rfl rfl 0 rfl rfl rfl hl.1 rfl (Nat.le_of_ble_eq_true rfl) ⟨Nat.zero_le _, Nat.zero_le _⟩ dX4_pinned_32 (fun H locs hP hD hS => ?_)
      replace hP : zP g (zMA g h0 h1 h2 h3 h4 h5 h6 rf5 sz ac sF sB sp ou tx nw tr di ke ik) H := hP
      replace hD : va_D A (zMA g h0 h1 h2 h3 h4 h5 h6 rf5 sz ac sF sB sp ou tx nw tr di ke ik) := hD
      refine lv_if_eq (tgt := 40) hx hb dX4_pinned_35 (by decide) (fun c6 => ?_) (fun c6 => ?_)
      · replace h := zt c6 h
        refine lv_aload_n hx hb dX4_pinned_40 rfl (lv_at hl 0 rfl) ?_
        refine va_get (ci := 4) (v := .ref h2) (C := RX4) (T := TX4) (N := 13) hx hb hts uX4_pinned_X4 hown hK hP 0 rfl rfl 3 (by decide) (hts _ mX4_pinned_13) (fun _ h9 => h9) rfl dX4_pinned_41 ?_
        refine lv_sipush (v := 782) hx hb dX4_pinned_44 (by decide) ?_
        refine lv_iload_n hx hb dX4_pinned_47 rfl (lv_at hl 1 rfl) ?_
        refine lv_iadd hx hb dX4_pinned_48 ?_
        obtain ⟨i7, h⟩ := zi h
        refine za_ild hx hb hK hP 2 rfl _ rfl i7 dX4_pinned_49 ?_
        refine lv_if_ne (tgt := 57) hx hb dX4_pinned_50 (by decide) (fun c8 => ?_) (fun c8 => ?_)
        · replace h := zf c8 h
          refine lv_aload_n hx hb dX4_pinned_57 rfl (lv_at hl 0 rfl) ?_
          refine va_get (ci := 4) (v := .ref h2) (C := RX4) (T := TX4) (N := 13) hx hb hts uX4_pinned_X4 hown hK hP 0 rfl rfl 3 (by decide) (hts _ mX4_pinned_13) (fun _ h9 => h9) rfl dX4_pinned_58 ?_
          refine lv_iload_n hx hb dX4_pinned_61 rfl (lv_at hl 2 rfl) ?_
          refine lv_if_ne (tgt := 71) hx hb dX4_pinned_62 (by decide) (fun c9 => ?_) (fun c9 => ?_)
          · replace h := zf c9 h
            refine lv_sipush (v := 782) hx hb dX4_pinned_71 (by decide) ?_
            refine lv_iload_n hx hb dX4_pinned_74 rfl (lv_at hl 1 rfl) ?_
            refine lv_iadd hx hb dX4_pinned_75 ?_
            obtain ⟨i10, h⟩ := zi h
            refine za_ild hx hb hK hP 2 rfl _ rfl i10 dX4_pinned_76 ?_
            cases h
            exact zw_i hx hb hr hlocks hP hS dX4_pinned_77
          · replace h := zt c9 h
            refine lv_sipush (v := 779) hx hb dX4_pinned_65 (by decide) ?_
            refine lv_goto (tgt := 74) hx hb dX4_pinned_68 (by decide) ?_
            refine lv_iload_n hx hb dX4_pinned_74 rfl (lv_at hl 1 rfl) ?_
            refine lv_iadd hx hb dX4_pinned_75 ?_
            obtain ⟨i11, h⟩ := zi h
            refine za_ild hx hb hK hP 2 rfl _ rfl i11 dX4_pinned_76 ?_
            cases h
            exact zw_i hx hb hr hlocks hP hS dX4_pinned_77
        · replace h := zt c8 h
          refine lv_iconst (v := (-1)) hx hb dX4_pinned_53 (by decide) ?_
          refine lv_goto (tgt := 77) hx hb dX4_pinned_54 (by decide) ?_
          cases h
          exact zw_i hx hb hr hlocks hP hS dX4_pinned_77
      · replace h := zf c6 h
        refine lv_iconst (v := 0) hx hb dX4_pinned_38 (by decide) ?_
        cases h
        exact zw_i hx hb hr hlocks hP hS dX4_pinned_39
    · replace h := zf c4 h
      refine lv_iconst (v := 0) hx hb dX4_pinned_27 (by decide) ?_
      refine lv_goto (tgt := 32) hx hb dX4_pinned_28 (by decide) ?_
      obtain ⟨r12, rf12, e12, h⟩ := zb2 h
      refine zVw (As := [.int 0]) (rest := []) (zWi_q g _ _) ⟨hx, hb, hml, hown, hts⟩ (kX4_refused l g h0 h1 (.ref h2) (.ref h3) (.ref h4) (.ref h5) (.ref h6) rf sz ac sF sB sp ou tx 0 e12) (cwV 1 hts gX4_pinned_X4_refused rfl rfl rfl hdV_X4_refused ⟨Nat.le_of_ble_eq_true rfl, Nat.le_of_ble_eq_true rfl⟩) hK hP hD hS hA [0, 1] (by decide) rfl rfl 0 rfl rfl rfl hl.1 rfl (Nat.le_of_ble_eq_true rfl) ⟨Nat.zero_le _, Nat.zero_le _⟩ dX4_pinned_32 (fun H locs hP hD hS => ?_)
      replace hP : zP g (zMA g h0 h1 h2 h3 h4 h5 h6 rf12 sz ac sF sB sp ou tx nw tr di ke ik) H := hP
      replace hD : va_D A (zMA g h0 h1 h2 h3 h4 h5 h6 rf12 sz ac sF sB sp ou tx nw tr di ke ik) := hD
      refine lv_if_eq (tgt := 40) hx hb dX4_pinned_35 (by decide) (fun c13 => ?_) (fun c13 => ?_)
      · replace h := zt c13 h
        refine lv_aload_n hx hb dX4_pinned_40 rfl (lv_at hl 0 rfl) ?_
        refine va_get (ci := 4) (v := .ref h2) (C := RX4) (T := TX4) (N := 13) hx hb hts uX4_pinned_X4 hown hK hP 0 rfl rfl 3 (by decide) (hts _ mX4_pinned_13) (fun _ h9 => h9) rfl dX4_pinned_41 ?_
        refine lv_sipush (v := 782) hx hb dX4_pinned_44 (by decide) ?_
        refine lv_iload_n hx hb dX4_pinned_47 rfl (lv_at hl 1 rfl) ?_
        refine lv_iadd hx hb dX4_pinned_48 ?_
        obtain ⟨i14, h⟩ := zi h
        refine za_ild hx hb hK hP 2 rfl _ rfl i14 dX4_pinned_49 ?_
        refine lv_if_ne (tgt := 57) hx hb dX4_pinned_50 (by decide) (fun c15 => ?_) (fun c15 => ?_)
        · replace h := zf c15 h
          refine lv_aload_n hx hb dX4_pinned_57 rfl (lv_at hl 0 rfl) ?_
          refine va_get (ci := 4) (v := .ref h2) (C := RX4) (T := TX4) (N := 13) hx hb hts uX4_pinned_X4 hown hK hP 0 rfl rfl 3 (by decide) (hts _ mX4_pinned_13) (fun _ h9 => h9) rfl dX4_pinned_58 ?_
          refine lv_iload_n hx hb dX4_pinned_61 rfl (lv_at hl 2 rfl) ?_
          refine lv_if_ne (tgt := 71) hx hb dX4_pinned_62 (by decide) (fun c16 => ?_) (fun c16 => ?_)
          · replace h := zf c16 h
            refine lv_sipush (v := 782) hx hb dX4_pinned_71 (by decide) ?_
            refine lv_iload_n hx hb dX4_pinned_74 rfl (lv_at hl 1 rfl) ?_
            refine lv_iadd hx hb dX4_pinned_75 ?_
            obtain ⟨i17, h⟩ := zi h
            refine za_ild hx hb hK hP 2 rfl _ rfl i17 dX4_pinned_76 ?_
            cases h
            exact zw_i hx hb hr hlocks hP hS dX4_pinned_77
          · replace h := zt c16 h
            refine lv_sipush (v := 779) hx hb dX4_pinned_65 (by decide) ?_
            refine lv_goto (tgt := 74) hx hb dX4_pinned_68 (by decide) ?_
            refine lv_iload_n hx hb dX4_pinned_74 rfl (lv_at hl 1 rfl) ?_
            refine lv_iadd hx hb dX4_pinned_75 ?_
            obtain ⟨i18, h⟩ := zi h
            refine za_ild hx hb hK hP 2 rfl _ rfl i18 dX4_pinned_76 ?_
            cases h
            exact zw_i hx hb hr hlocks hP hS dX4_pinned_77
        · replace h := zt c15 h
          refine lv_iconst (v := (-1)) hx hb dX4_pinned_53 (by decide) ?_
          refine lv_goto (tgt := 77) hx hb dX4_pinned_54 (by decide) ?_
          cases h
          exact zw_i hx hb hr hlocks hP hS dX4_pinned_77
      · replace h := zf c13 h
        refine lv_iconst (v := 0) hx hb dX4_pinned_38 (by decide) ?_
        cases h
        exact zw_i hx hb hr hlocks hP hS dX4_pinned_39
  · replace h := zt c2 h
    refine lv_iconst (v := 1) hx hb dX4_pinned_13 (by decide) ?_
    refine lv_goto (tgt := 32) hx hb dX4_pinned_14 (by decide) ?_
    obtain ⟨r19, rf19, e19, h⟩ := zb2 h
    refine zVw (As := [.int 1]) (rest := []) (zWi_q g _ _) ⟨hx, hb, hml, hown, hts⟩ (kX4_refused l g h0 h1 (.ref h2) (.ref h3) (.ref h4) (.ref h5) (.ref h6) rf sz ac sF sB sp ou tx 1 e19) (cwV 1 hts gX4_pinned_X4_refused rfl rfl rfl hdV_X4_refused ⟨Nat.le_of_ble_eq_true rfl, Nat.le_of_ble_eq_true rfl⟩) hK hP hD hS hA [0, 1] (by decide) rfl rfl 0 rfl rfl rfl hl.1 rfl (Nat.le_of_ble_eq_true rfl) ⟨Nat.zero_le _, Nat.zero_le _⟩ dX4_pinned_32 (fun H locs hP hD hS => ?_)
    replace hP : zP g (zMA g h0 h1 h2 h3 h4 h5 h6 rf19 sz ac sF sB sp ou tx nw tr di ke ik) H := hP
    replace hD : va_D A (zMA g h0 h1 h2 h3 h4 h5 h6 rf19 sz ac sF sB sp ou tx nw tr di ke ik) := hD
    refine lv_if_eq (tgt := 40) hx hb dX4_pinned_35 (by decide) (fun c20 => ?_) (fun c20 => ?_)
    · replace h := zt c20 h
      refine lv_aload_n hx hb dX4_pinned_40 rfl (lv_at hl 0 rfl) ?_
      refine va_get (ci := 4) (v := .ref h2) (C := RX4) (T := TX4) (N := 13) hx hb hts uX4_pinned_X4 hown hK hP 0 rfl rfl 3 (by decide) (hts _ mX4_pinned_13) (fun _ h9 => h9) rfl dX4_pinned_41 ?_
      refine lv_sipush (v := 782) hx hb dX4_pinned_44 (by decide) ?_
      refine lv_iload_n hx hb dX4_pinned_47 rfl (lv_at hl 1 rfl) ?_
      refine lv_iadd hx hb dX4_pinned_48 ?_
      obtain ⟨i21, h⟩ := zi h
      refine za_ild hx hb hK hP 2 rfl _ rfl i21 dX4_pinned_49 ?_
      refine lv_if_ne (tgt := 57) hx hb dX4_pinned_50 (by decide) (fun c22 => ?_) (fun c22 => ?_)
      · replace h := zf c22 h
        refine lv_aload_n hx hb dX4_pinned_57 rfl (lv_at hl 0 rfl) ?_
        refine va_get (ci := 4) (v := .ref h2) (C := RX4) (T := TX4) (N := 13) hx hb hts uX4_pinned_X4 hown hK hP 0 rfl rfl 3 (by decide) (hts _ mX4_pinned_13) (fun _ h9 => h9) rfl dX4_pinned_58 ?_
        refine lv_iload_n hx hb dX4_pinned_61 rfl (lv_at hl 2 rfl) ?_
        refine lv_if_ne (tgt := 71) hx hb dX4_pinned_62 (by decide) (fun c23 => ?_) (fun c23 => ?_)
        · replace h := zf c23 h
          refine lv_sipush (v := 782) hx hb dX4_pinned_71 (by decide) ?_
          refine lv_iload_n hx hb dX4_pinned_74 rfl (lv_at hl 1 rfl) ?_
          refine lv_iadd hx hb dX4_pinned_75 ?_
          obtain ⟨i24, h⟩ := zi h
          refine za_ild hx hb hK hP 2 rfl _ rfl i24 dX4_pinned_76 ?_
          cases h
          exact zw_i hx hb hr hlocks hP hS dX4_pinned_77
        · replace h := zt c23 h
          refine lv_sipush (v := 779) hx hb dX4_pinned_65 (by decide) ?_
          refine lv_goto (tgt := 74) hx hb dX4_pinned_68 (by decide) ?_
          refine lv_iload_n hx hb dX4_pinned_74 rfl (lv_at hl 1 rfl) ?_
          refine lv_iadd hx hb dX4_pinned_75 ?_
          obtain ⟨i25, h⟩ := zi h
          refine za_ild hx hb hK hP 2 rfl _ rfl i25 dX4_pinned_76 ?_
          cases h
          exact zw_i hx hb hr hlocks hP hS dX4_pinned_77
      · replace h := zt c22 h
        refine lv_iconst (v := (-1)) hx hb dX4_pinned_53 (by decide) ?_
        refine lv_goto (tgt := 77) hx hb dX4_pinned_54 (by decide) ?_
        cases h
        exact zw_i hx hb hr hlocks hP hS dX4_pinned_77
    · replace h := zf c20 h
      refine lv_iconst (v := 0) hx hb dX4_pinned_38 (by decide) ?_
      cases h
      exact zw_i hx hb hr hlocks hP hS dX4_pinned_39
def fX4_setting (nw : Nat → Int32) (a1 : Int32) : Option (Int32 × (Int32)) :=
  ob (fX4_in a1.toInt64 0 (5)) fun r1 =>
  if r1 = 0 then
    ob2 (fX4_refused 1) fun r3 rf3 =>
    if r3 = 0 then
      if (773 + a1) < 0 ∨ 785 ≤ (773 + a1).toNatClampNeg then none else
      some ((nw (773 + a1).toNatClampNeg), rf3)
    else
      some (0, rf3)
  else
    ob2 (fX4_refused 0) fun r6 rf6 =>
    if r6 = 0 then
      if (773 + a1) < 0 ∨ 785 ≤ (773 + a1).toNatClampNeg then none else
      some ((nw (773 + a1).toNatClampNeg), rf6)
    else
      some (0, rf6)
theorem mX4_setting_109 : Cond.constantLong RX4 109 (5) ∈ wsX4_setting := by decide +kernel
theorem mX4_setting_13 : Cond.fieldLink RX4 13 "IdleDiscardsModel" "now" "[I" ∈ wsX4_setting := by decide +kernel
theorem uX4_setting_X4 : ∀ w ∈ wsX40, w ∈ wsX4_setting := by decide +kernel
set_option maxRecDepth 100000 in
set_option maxHeartbeats 4000000 in
theorem kX4_setting (l : Launch) (g : zG) (h0 h1 h2 h3 h4 h5 h6 : Nat) (rf : Int32) (sz : Int32) (ac : Int32) (sF : Int32) (sB : Int32) (sp : Int32) (ou : Int32) (tx : Nat → Int32) (nw : Nat → Int32) (tr : Nat → Int32) (di : Nat → Int32) (ke : Nat → Int32) (ik : Nat → Int32) (a1 : Int32) {r : Int32} {rf' : Int32} (h : fX4_setting nw a1 = some (r, rf')) : Mw l g yX4_setting wsX4_setting { frames := 1, cells := 0, slots := 0, locals := 25 } [.ref h0, .int a1] (zMA g h0 h1 h2 h3 h4 h5 h6 rf sz ac sF sB sp ou tx nw tr di ke ik) (zWi g (zMA g h0 h1 h2 h3 h4 h5 h6 rf' sz ac sF sB sp ou tx nw tr di ke ik) r) := by
  refine zw_in (cc := cX4_setting) (maxL := 2) (ret := (some .int)) (by decide) rfl (Nat.le_of_ble_eq_true rfl) ?_
  intro p e s m below meth c hx hb hr hml hts hown hlocks hK A hA hP hD hS ls hl
  replace hl : lv_has ls 2 [(0, .ref h0), (1, .int a1)] := hl
  unfold fX4_setting at h
  refine lv_aload_n hx hb dX4_setting_0 rfl (lv_at hl 0 rfl) ?_
  refine lv_iload_n hx hb dX4_setting_1 rfl (lv_at hl 1 rfl) ?_
  refine lv_i2l (v := a1.toInt64) hx hb dX4_setting_2 rfl ?_
  refine lv_lconst (v := 0) hx hb dX4_setting_3 (by decide) ?_
  refine lv_ldc2 hx hb hown (hts _ mX4_setting_109) dX4_setting_4 ?_
  obtain ⟨r1, e1, h⟩ := zb h
  refine zS (As := [.long a1.toInt64, .long 0, .long (5)]) (rest := [.ref h0]) (zQi_q _) ⟨hx, hb, hml, hown, hts⟩ (kX4_in l g a1.toInt64 0 (5) e1) (va_cwS 3 hts gX4_setting_X4_in rfl rfl rfl hdS_X4_in ⟨Nat.le_of_ble_eq_true rfl, Nat.le_of_ble_eq_true rfl⟩) hK hP [] rfl rfl hl.1 rfl (Nat.le_of_ble_eq_true rfl) ⟨Nat.zero_le _, Nat.zero_le _⟩ dX4_setting_7 ?_
  refine lv_if_eq (tgt := 17) hx hb dX4_setting_10 (by decide) (fun c2 => ?_) (fun c2 => ?_)
  · replace h := zt c2 h
    refine lv_iconst (v := 1) hx hb dX4_setting_17 (by decide) ?_
    obtain ⟨r3, rf3, e3, h⟩ := zb2 h
    refine zVw (As := [.int 1]) (rest := []) (zWi_q g _ _) ⟨hx, hb, hml, hown, hts⟩ (kX4_refused l g h0 h1 (.ref h2) (.ref h3) (.ref h4) (.ref h5) (.ref h6) rf sz ac sF sB sp ou tx 1 e3) (cwV 1 hts gX4_setting_X4_refused rfl rfl rfl hdV_X4_refused ⟨Nat.le_of_ble_eq_true rfl, Nat.le_of_ble_eq_true rfl⟩) hK hP hD hS hA [0, 1] (by decide) rfl rfl 0 rfl rfl rfl hl.1 rfl (Nat.le_of_ble_eq_true rfl) ⟨Nat.zero_le _, Nat.zero_le _⟩ dX4_setting_18 (fun H locs hP hD hS => ?_)
    replace hP : zP g (zMA g h0 h1 h2 h3 h4 h5 h6 rf3 sz ac sF sB sp ou tx nw tr di ke ik) H := hP
    replace hD : va_D A (zMA g h0 h1 h2 h3 h4 h5 h6 rf3 sz ac sF sB sp ou tx nw tr di ke ik) := hD
    refine lv_if_eq (tgt := 26) hx hb dX4_setting_21 (by decide) (fun c4 => ?_) (fun c4 => ?_)
    · replace h := zt c4 h
      refine lv_aload_n hx hb dX4_setting_26 rfl (lv_at hl 0 rfl) ?_
      refine va_get (ci := 4) (v := .ref h2) (C := RX4) (T := TX4) (N := 13) hx hb hts uX4_setting_X4 hown hK hP 0 rfl rfl 3 (by decide) (hts _ mX4_setting_13) (fun _ h9 => h9) rfl dX4_setting_27 ?_
      refine lv_sipush (v := 773) hx hb dX4_setting_30 (by decide) ?_
      refine lv_iload_n hx hb dX4_setting_33 rfl (lv_at hl 1 rfl) ?_
      refine lv_iadd hx hb dX4_setting_34 ?_
      obtain ⟨i5, h⟩ := zi h
      refine za_ild hx hb hK hP 2 rfl _ rfl i5 dX4_setting_35 ?_
      cases h
      exact zw_i hx hb hr hlocks hP hS dX4_setting_36
    · replace h := zf c4 h
      refine lv_iconst (v := 0) hx hb dX4_setting_24 (by decide) ?_
      cases h
      exact zw_i hx hb hr hlocks hP hS dX4_setting_25
  · replace h := zf c2 h
    refine lv_iconst (v := 0) hx hb dX4_setting_13 (by decide) ?_
    refine lv_goto (tgt := 18) hx hb dX4_setting_14 (by decide) ?_
    obtain ⟨r6, rf6, e6, h⟩ := zb2 h
    refine zVw (As := [.int 0]) (rest := []) (zWi_q g _ _) ⟨hx, hb, hml, hown, hts⟩ (kX4_refused l g h0 h1 (.ref h2) (.ref h3) (.ref h4) (.ref h5) (.ref h6) rf sz ac sF sB sp ou tx 0 e6) (cwV 1 hts gX4_setting_X4_refused rfl rfl rfl hdV_X4_refused ⟨Nat.le_of_ble_eq_true rfl, Nat.le_of_ble_eq_true rfl⟩) hK hP hD hS hA [0, 1] (by decide) rfl rfl 0 rfl rfl rfl hl.1 rfl (Nat.le_of_ble_eq_true rfl) ⟨Nat.zero_le _, Nat.zero_le _⟩ dX4_setting_18 (fun H locs hP hD hS => ?_)
    replace hP : zP g (zMA g h0 h1 h2 h3 h4 h5 h6 rf6 sz ac sF sB sp ou tx nw tr di ke ik) H := hP
    replace hD : va_D A (zMA g h0 h1 h2 h3 h4 h5 h6 rf6 sz ac sF sB sp ou tx nw tr di ke ik) := hD
    refine lv_if_eq (tgt := 26) hx hb dX4_setting_21 (by decide) (fun c7 => ?_) (fun c7 => ?_)
    · replace h := zt c7 h
      refine lv_aload_n hx hb dX4_setting_26 rfl (lv_at hl 0 rfl) ?_
      refine va_get (ci := 4) (v := .ref h2) (C := RX4) (T := TX4) (N := 13) hx hb hts uX4_setting_X4 hown hK hP 0 rfl rfl 3 (by decide) (hts _ mX4_setting_13) (fun _ h9 => h9) rfl dX4_setting_27 ?_
      refine lv_sipush (v := 773) hx hb dX4_setting_30 (by decide) ?_
      refine lv_iload_n hx hb dX4_setting_33 rfl (lv_at hl 1 rfl) ?_
      refine lv_iadd hx hb dX4_setting_34 ?_
      obtain ⟨i8, h⟩ := zi h
      refine za_ild hx hb hK hP 2 rfl _ rfl i8 dX4_setting_35 ?_
      cases h
      exact zw_i hx hb hr hlocks hP hS dX4_setting_36
    · replace h := zf c7 h
      refine lv_iconst (v := 0) hx hb dX4_setting_24 (by decide) ?_
      cases h
      exact zw_i hx hb hr hlocks hP hS dX4_setting_25
def fX4_remember_11 (nw : Nat → Int32) : Nat → Int32 → (Int32) → (Nat → Int32) → Option ((Int32) × (Nat → Int32))
  | 0, _, _, _ => none
  | n + 1, v1, ac, di =>
    if 10205 ≤ v1 then
        ob (fX4_copyState 785 10990 nw di 0 (785 * (ac - 1))) fun di2 =>
        some (((ac - 1) + 1), di2)
      else
        if (v1 + 785) < 0 ∨ 10990 ≤ (v1 + 785).toNatClampNeg then none else
        if v1 < 0 ∨ 10990 ≤ v1.toNatClampNeg then none else
        fX4_remember_11 nw n (v1 + 1) ac (upd di v1.toNatClampNeg (di (v1 + 785).toNatClampNeg))
def fX4_remember (ac : Int32) (nw : Nat → Int32) (di : Nat → Int32) : Option ((Int32) × (Nat → Int32)) :=
  if ac = 14 then
    fX4_remember_11 nw 20000 0 ac di
  else
    ob (fX4_copyState 785 10990 nw di 0 (785 * ac)) fun di6 =>
    some ((ac + 1), di6)
theorem mX4_remember_172 : Cond.fieldLink RX4 172 "IdleDiscardsModel" "acts" "I" ∈ wsX4_remember := by decide +kernel
theorem uX4_remember_X4 : ∀ w ∈ wsX40, w ∈ wsX4_remember := by decide +kernel
theorem mX4_remember_13 : Cond.fieldLink RX4 13 "IdleDiscardsModel" "now" "[I" ∈ wsX4_remember := by decide +kernel
theorem mX4_remember_19 : Cond.fieldLink RX4 19 "IdleDiscardsModel" "diary" "[I" ∈ wsX4_remember := by decide +kernel
set_option maxRecDepth 100000 in
set_option maxHeartbeats 4000000 in
theorem kX4_remember (l : Launch) (g : zG) (h0 h1 h2 h3 h4 h5 h6 : Nat) (rf : Int32) (sz : Int32) (ac : Int32) (sF : Int32) (sB : Int32) (sp : Int32) (ou : Int32) (tx : Nat → Int32) (nw : Nat → Int32) (tr : Nat → Int32) (di : Nat → Int32) (ke : Nat → Int32) (ik : Nat → Int32) {ac' : Int32} {di' : Nat → Int32} (h : fX4_remember ac nw di = some (ac', di')) : Mw l g yX4_remember wsX4_remember { frames := 1, cells := 0, slots := 0, locals := 24 } [.ref h0] (zMA g h0 h1 h2 h3 h4 h5 h6 rf sz ac sF sB sp ou tx nw tr di ke ik) (zWv g (zMA g h0 h1 h2 h3 h4 h5 h6 rf sz ac' sF sB sp ou tx nw tr di' ke ik)) := by
  refine zw_in (cc := cX4_remember) (maxL := 2) (ret := none) (by decide) rfl (Nat.le_of_ble_eq_true rfl) ?_
  intro p e s m below meth c hx hb hr hml hts hown hlocks hK A hA hP hD hS ls hl
  replace hl : lv_has ls 2 [(0, .ref h0)] := hl
  have loop_11 : ∀ (n : Nat) (v1 : Int32) (ac : (Int32)) (di : (Nat → Int32)), fX4_remember_11 nw n v1 ac di = some (ac', di') → ∀ (H : Heap) (locs : List Loc), zP g (zMA g h0 h1 h2 h3 h4 h5 h6 rf sz ac sF sB sp ou tx nw tr di ke ik) H → va_D A (zMA g h0 h1 h2 h3 h4 h5 h6 rf sz ac sF sB sp ou tx nw tr di ke ik) → va_S A s.heap H locs → ∀ (ls : Array Slot), lv_has ls 2 [(0, .ref h0), (1, .int v1)] → W p l e ({ frames := 1, cells := 0, slots := 0, locals := 24 } : Room) s m [.ref h0].toArray below meth c H locs 0 0 (MQ below (zWv g (zMA g h0 h1 h2 h3 h4 h5 h6 rf sz ac' sF sB sp ou tx nw tr di' ke ik) A) [.ref h0].toArray s 0 0 A) (F0 m 11 ls []) := by
    intro n
    induction n with
    | zero => intro v1 ac di h H locs hP hD hS ls hl; exact zn h
    | succ n ih =>
      intro v1 ac di h H locs hP hD hS ls hl
      rw [fX4_remember_11] at h
      refine lv_iload_n hx hb dX4_remember_11 rfl (lv_at hl 1 rfl) ?_
      refine lv_sipush (v := 10205) hx hb dX4_remember_12 (by decide) ?_
      refine lv_icmp_ge (tgt := 40) hx hb dX4_remember_15 (by decide) (fun c1 => ?_) (fun c1 => ?_)
      · replace h := zt c1 h
        refine lv_aload_n hx hb dX4_remember_40 rfl (lv_at hl 0 rfl) ?_
        refine lv_dup hx hb dX4_remember_41 rfl ?_
        refine va_get (ci := 4) (v := .int ac) (C := RX4) (T := TX4) (N := 13) hx hb hts uX4_remember_X4 hown hK hP 0 rfl rfl 6 (by decide) (hts _ mX4_remember_172) (fun _ h9 => h9) rfl dX4_remember_42 ?_
        refine lv_iconst (v := 1) hx hb dX4_remember_45 (by decide) ?_
        refine lv_isub hx hb dX4_remember_46 ?_
        refine va_put (ci := 4) (v := .int (ac - 1)) (ty := .int) (C := RX4) (T := TX4) (N := 13) hx hb hts uX4_remember_X4 tyX4 tyX4_ok nmX4 hown hK hP hD hS 0 rfl rfl 6 (by decide) (hts _ mX4_remember_172) (fun _ h9 => h9) rfl (by decide +kernel) rfl rfl (Nat.le_of_ble_eq_true rfl) dX4_remember_47 (fun H locs hP hD hS => ?_)
        replace hP : zP g (zMA g h0 h1 h2 h3 h4 h5 h6 rf sz (ac - 1) sF sB sp ou tx nw tr di ke ik) H := hP
        replace hD : va_D A (zMA g h0 h1 h2 h3 h4 h5 h6 rf sz (ac - 1) sF sB sp ou tx nw tr di ke ik) := hD
        refine lv_aload_n hx hb dX4_remember_50 rfl (lv_at hl 0 rfl) ?_
        refine va_get (ci := 4) (v := .ref h2) (C := RX4) (T := TX4) (N := 13) hx hb hts uX4_remember_X4 hown hK hP 0 rfl rfl 3 (by decide) (hts _ mX4_remember_13) (fun _ h9 => h9) rfl dX4_remember_51 ?_
        refine lv_iconst (v := 0) hx hb dX4_remember_54 (by decide) ?_
        refine lv_aload_n hx hb dX4_remember_55 rfl (lv_at hl 0 rfl) ?_
        refine va_get (ci := 4) (v := .ref h4) (C := RX4) (T := TX4) (N := 13) hx hb hts uX4_remember_X4 hown hK hP 0 rfl rfl 5 (by decide) (hts _ mX4_remember_19) (fun _ h9 => h9) rfl dX4_remember_56 ?_
        refine lv_sipush (v := 785) hx hb dX4_remember_59 (by decide) ?_
        refine lv_aload_n hx hb dX4_remember_62 rfl (lv_at hl 0 rfl) ?_
        refine va_get (ci := 4) (v := .int (ac - 1)) (C := RX4) (T := TX4) (N := 13) hx hb hts uX4_remember_X4 hown hK hP 0 rfl rfl 6 (by decide) (hts _ mX4_remember_172) (fun _ h9 => h9) rfl dX4_remember_63 ?_
        refine lv_imul hx hb dX4_remember_66 ?_
        obtain ⟨di2, e2, h⟩ := zb h
        refine zSw (As := [.ref h2, .int 0, .ref h4, .int (785 * (ac - 1))]) (rest := []) (zWv_q g _) ⟨hx, hb, hml, hown, hts⟩ (kX4_copyState l g 785 10990 h2 h4 nw di 0 (785 * (ac - 1)) e2) (va_cwS 4 hts gX4_remember_X4_copyState rfl rfl rfl hdS_X4_copyState ⟨Nat.le_of_ble_eq_true rfl, Nat.le_of_ble_eq_true rfl⟩) hK hP hD hS hA [2, 4] (by decide) rfl rfl rfl hl.1 rfl (Nat.le_of_ble_eq_true rfl) ⟨Nat.zero_le _, Nat.zero_le _⟩ dX4_remember_67 (fun H locs hP hD hS => ?_)
        replace hP : zP g (zMA g h0 h1 h2 h3 h4 h5 h6 rf sz (ac - 1) sF sB sp ou tx nw tr di2 ke ik) H := hP
        replace hD : va_D A (zMA g h0 h1 h2 h3 h4 h5 h6 rf sz (ac - 1) sF sB sp ou tx nw tr di2 ke ik) := hD
        refine lv_aload_n hx hb dX4_remember_70 rfl (lv_at hl 0 rfl) ?_
        refine lv_dup hx hb dX4_remember_71 rfl ?_
        refine va_get (ci := 4) (v := .int (ac - 1)) (C := RX4) (T := TX4) (N := 13) hx hb hts uX4_remember_X4 hown hK hP 0 rfl rfl 6 (by decide) (hts _ mX4_remember_172) (fun _ h9 => h9) rfl dX4_remember_72 ?_
        refine lv_iconst (v := 1) hx hb dX4_remember_75 (by decide) ?_
        refine lv_iadd hx hb dX4_remember_76 ?_
        refine va_put (ci := 4) (v := .int ((ac - 1) + 1)) (ty := .int) (C := RX4) (T := TX4) (N := 13) hx hb hts uX4_remember_X4 tyX4 tyX4_ok nmX4 hown hK hP hD hS 0 rfl rfl 6 (by decide) (hts _ mX4_remember_172) (fun _ h9 => h9) rfl (by decide +kernel) rfl rfl (Nat.le_of_ble_eq_true rfl) dX4_remember_77 (fun H locs hP hD hS => ?_)
        replace hP : zP g (zMA g h0 h1 h2 h3 h4 h5 h6 rf sz ((ac - 1) + 1) sF sB sp ou tx nw tr di2 ke ik) H := hP
        replace hD : va_D A (zMA g h0 h1 h2 h3 h4 h5 h6 rf sz ((ac - 1) + 1) sF sB sp ou tx nw tr di2 ke ik) := hD
        cases h
        exact zw_v hx hb hr hlocks hP hS dX4_remember_80
      · replace h := zf c1 h
        refine lv_aload_n hx hb dX4_remember_18 rfl (lv_at hl 0 rfl) ?_
        refine va_get (ci := 4) (v := .ref h4) (C := RX4) (T := TX4) (N := 13) hx hb hts uX4_remember_X4 hown hK hP 0 rfl rfl 5 (by decide) (hts _ mX4_remember_19) (fun _ h9 => h9) rfl dX4_remember_19 ?_
        refine lv_iload_n hx hb dX4_remember_22 rfl (lv_at hl 1 rfl) ?_
        refine lv_aload_n hx hb dX4_remember_23 rfl (lv_at hl 0 rfl) ?_
        refine va_get (ci := 4) (v := .ref h4) (C := RX4) (T := TX4) (N := 13) hx hb hts uX4_remember_X4 hown hK hP 0 rfl rfl 5 (by decide) (hts _ mX4_remember_19) (fun _ h9 => h9) rfl dX4_remember_24 ?_
        refine lv_iload_n hx hb dX4_remember_27 rfl (lv_at hl 1 rfl) ?_
        refine lv_sipush (v := 785) hx hb dX4_remember_28 (by decide) ?_
        refine lv_iadd hx hb dX4_remember_31 ?_
        obtain ⟨i3, h⟩ := zi h
        refine za_ild hx hb hK hP 4 rfl _ rfl i3 dX4_remember_32 ?_
        obtain ⟨i4, h⟩ := zi h
        refine za_ist hx hb hK hP hD hS 4 rfl _ rfl i4 dX4_remember_33 (fun H locs hP hD hS => ?_)
        replace hP : zP g (zMA g h0 h1 h2 h3 h4 h5 h6 rf sz ac sF sB sp ou tx nw tr (upd di v1.toNatClampNeg (di (v1 + 785).toNatClampNeg)) ke ik) H := hP
        replace hD : va_D A (zMA g h0 h1 h2 h3 h4 h5 h6 rf sz ac sF sB sp ou tx nw tr (upd di v1.toNatClampNeg (di (v1 + 785).toNatClampNeg)) ke ik) := hD
        refine lv_iinc (v := (v1 + 1)) (lv' := [(1, .int (v1 + 1)), (0, .ref h0)]) hx hb dX4_remember_34 hl (k := 1) rfl rfl (by decide) rfl (fun ls hl => ?_)
        refine lv_goto (tgt := 11) hx hb dX4_remember_37 (by decide) ?_
        exact ih (v1 + 1) ac (upd di v1.toNatClampNeg (di (v1 + 785).toNatClampNeg)) h H locs hP hD hS ls (lv_sub hl [1, 0] rfl)
  unfold fX4_remember at h
  refine lv_aload_n hx hb dX4_remember_0 rfl (lv_at hl 0 rfl) ?_
  refine va_get (ci := 4) (v := .int ac) (C := RX4) (T := TX4) (N := 13) hx hb hts uX4_remember_X4 hown hK hP 0 rfl rfl 6 (by decide) (hts _ mX4_remember_172) (fun _ h9 => h9) rfl dX4_remember_1 ?_
  refine lv_bipush (v := 14) hx hb dX4_remember_4 (by decide) ?_
  refine lv_icmp_ne (tgt := 50) hx hb dX4_remember_6 (by decide) (fun c5 => ?_) (fun c5 => ?_)
  · replace h := zf c5 h
    refine lv_aload_n hx hb dX4_remember_50 rfl (lv_at hl 0 rfl) ?_
    refine va_get (ci := 4) (v := .ref h2) (C := RX4) (T := TX4) (N := 13) hx hb hts uX4_remember_X4 hown hK hP 0 rfl rfl 3 (by decide) (hts _ mX4_remember_13) (fun _ h9 => h9) rfl dX4_remember_51 ?_
    refine lv_iconst (v := 0) hx hb dX4_remember_54 (by decide) ?_
    refine lv_aload_n hx hb dX4_remember_55 rfl (lv_at hl 0 rfl) ?_
    refine va_get (ci := 4) (v := .ref h4) (C := RX4) (T := TX4) (N := 13) hx hb hts uX4_remember_X4 hown hK hP 0 rfl rfl 5 (by decide) (hts _ mX4_remember_19) (fun _ h9 => h9) rfl dX4_remember_56 ?_
    refine lv_sipush (v := 785) hx hb dX4_remember_59 (by decide) ?_
    refine lv_aload_n hx hb dX4_remember_62 rfl (lv_at hl 0 rfl) ?_
    refine va_get (ci := 4) (v := .int ac) (C := RX4) (T := TX4) (N := 13) hx hb hts uX4_remember_X4 hown hK hP 0 rfl rfl 6 (by decide) (hts _ mX4_remember_172) (fun _ h9 => h9) rfl dX4_remember_63 ?_
    refine lv_imul hx hb dX4_remember_66 ?_
    obtain ⟨di6, e6, h⟩ := zb h
    refine zSw (As := [.ref h2, .int 0, .ref h4, .int (785 * ac)]) (rest := []) (zWv_q g _) ⟨hx, hb, hml, hown, hts⟩ (kX4_copyState l g 785 10990 h2 h4 nw di 0 (785 * ac) e6) (va_cwS 4 hts gX4_remember_X4_copyState rfl rfl rfl hdS_X4_copyState ⟨Nat.le_of_ble_eq_true rfl, Nat.le_of_ble_eq_true rfl⟩) hK hP hD hS hA [2, 4] (by decide) rfl rfl rfl hl.1 rfl (Nat.le_of_ble_eq_true rfl) ⟨Nat.zero_le _, Nat.zero_le _⟩ dX4_remember_67 (fun H locs hP hD hS => ?_)
    replace hP : zP g (zMA g h0 h1 h2 h3 h4 h5 h6 rf sz ac sF sB sp ou tx nw tr di6 ke ik) H := hP
    replace hD : va_D A (zMA g h0 h1 h2 h3 h4 h5 h6 rf sz ac sF sB sp ou tx nw tr di6 ke ik) := hD
    refine lv_aload_n hx hb dX4_remember_70 rfl (lv_at hl 0 rfl) ?_
    refine lv_dup hx hb dX4_remember_71 rfl ?_
    refine va_get (ci := 4) (v := .int ac) (C := RX4) (T := TX4) (N := 13) hx hb hts uX4_remember_X4 hown hK hP 0 rfl rfl 6 (by decide) (hts _ mX4_remember_172) (fun _ h9 => h9) rfl dX4_remember_72 ?_
    refine lv_iconst (v := 1) hx hb dX4_remember_75 (by decide) ?_
    refine lv_iadd hx hb dX4_remember_76 ?_
    refine va_put (ci := 4) (v := .int (ac + 1)) (ty := .int) (C := RX4) (T := TX4) (N := 13) hx hb hts uX4_remember_X4 tyX4 tyX4_ok nmX4 hown hK hP hD hS 0 rfl rfl 6 (by decide) (hts _ mX4_remember_172) (fun _ h9 => h9) rfl (by decide +kernel) rfl rfl (Nat.le_of_ble_eq_true rfl) dX4_remember_77 (fun H locs hP hD hS => ?_)
    replace hP : zP g (zMA g h0 h1 h2 h3 h4 h5 h6 rf sz (ac + 1) sF sB sp ou tx nw tr di6 ke ik) H := hP
    replace hD : va_D A (zMA g h0 h1 h2 h3 h4 h5 h6 rf sz (ac + 1) sF sB sp ou tx nw tr di6 ke ik) := hD
    cases h
    exact zw_v hx hb hr hlocks hP hS dX4_remember_80
  · replace h := zt c5 h
    refine lv_iconst (v := 0) hx hb dX4_remember_9 (by decide) ?_
    refine lv_istore_n (lv' := [(1, .int 0), (0, .ref h0)]) hx hb dX4_remember_10 rfl hl (by decide) rfl (fun ls hl => ?_)
    exact loop_11 20000 0 ac di h s.heap [] hP hD hS ls (lv_sub hl [1, 0] rfl)
theorem hdV_X4_remember : yX4_remember.cls = RX4 ∧ yX4_remember.cls ≠ "java/lang/invoke/MethodHandle" ∧ yX4_remember.cls ≠ "java/lang/invoke/VarHandle" ∧ (parseMethodDescriptor yX4_remember.desc).map (fun d => d.parameters.length) = some 0 := by decide +kernel
def fX4_write (ac : Int32) (nw : Nat → Int32) (di : Nat → Int32) (a1 : Int32) (a2 : Int32) : Option (Int32 × (Int32) × (Int32) × (Nat → Int32) × (Nat → Int32)) :=
  ob (fX4_whyNotSpan a1 a2) fun r1 =>
  ob2 (fX4_refused r1) fun r2 rf2 =>
  if r2 = 0 then
    ob2 (fX4_remember ac nw di) fun ac4 di4 =>
    ob2 (fX4_writeOn nw a1 a2) fun r5 nw5 =>
    some (r5, rf2, ac4, nw5, di4)
  else
    some (0, rf2, ac, nw, di)
theorem mX4_write_13 : Cond.fieldLink RX4 13 "IdleDiscardsModel" "now" "[I" ∈ wsX4_write := by decide +kernel
theorem uX4_write_X4 : ∀ w ∈ wsX40, w ∈ wsX4_write := by decide +kernel
set_option maxRecDepth 100000 in
set_option maxHeartbeats 4000000 in
theorem kX4_write (l : Launch) (g : zG) (h0 h1 h2 h3 h4 h5 h6 : Nat) (rf : Int32) (sz : Int32) (ac : Int32) (sF : Int32) (sB : Int32) (sp : Int32) (ou : Int32) (tx : Nat → Int32) (nw : Nat → Int32) (tr : Nat → Int32) (di : Nat → Int32) (ke : Nat → Int32) (ik : Nat → Int32) (a1 : Int32) (a2 : Int32) {r : Int32} {rf' : Int32} {ac' : Int32} {nw' : Nat → Int32} {di' : Nat → Int32} (h : fX4_write ac nw di a1 a2 = some (r, rf', ac', nw', di')) : Mw l g yX4_write wsX4_write { frames := 7, cells := 0, slots := 0, locals := 156 } [.ref h0, .int a1, .int a2] (zMA g h0 h1 h2 h3 h4 h5 h6 rf sz ac sF sB sp ou tx nw tr di ke ik) (zWi g (zMA g h0 h1 h2 h3 h4 h5 h6 rf' sz ac' sF sB sp ou tx nw' tr di' ke ik) r) := by
  refine zw_in (cc := cX4_write) (maxL := 3) (ret := (some .int)) (by decide) rfl (Nat.le_of_ble_eq_true rfl) ?_
  intro p e s m below meth c hx hb hr hml hts hown hlocks hK A hA hP hD hS ls hl
  replace hl : lv_has ls 3 [(0, .ref h0), (1, .int a1), (2, .int a2)] := hl
  unfold fX4_write at h
  refine lv_aload_n hx hb dX4_write_0 rfl (lv_at hl 0 rfl) ?_
  refine lv_iload_n hx hb dX4_write_1 rfl (lv_at hl 1 rfl) ?_
  refine lv_iload_n hx hb dX4_write_2 rfl (lv_at hl 2 rfl) ?_
  obtain ⟨r1, e1, h⟩ := zb h
  refine zS (As := [.int a1, .int a2]) (rest := [.ref h0]) (zQi_q _) ⟨hx, hb, hml, hown, hts⟩ (kX4_whyNotSpan l g a1 a2 e1) (va_cwS 2 hts gX4_write_X4_whyNotSpan rfl rfl rfl hdS_X4_whyNotSpan ⟨Nat.le_of_ble_eq_true rfl, Nat.le_of_ble_eq_true rfl⟩) hK hP [] rfl rfl hl.1 rfl (Nat.le_of_ble_eq_true rfl) ⟨Nat.zero_le _, Nat.zero_le _⟩ dX4_write_3 ?_
  obtain ⟨r2, rf2, e2, h⟩ := zb2 h
  refine zVw (As := [.int r1]) (rest := []) (zWi_q g _ _) ⟨hx, hb, hml, hown, hts⟩ (kX4_refused l g h0 h1 (.ref h2) (.ref h3) (.ref h4) (.ref h5) (.ref h6) rf sz ac sF sB sp ou tx r1 e2) (cwV 1 hts gX4_write_X4_refused rfl rfl rfl hdV_X4_refused ⟨Nat.le_of_ble_eq_true rfl, Nat.le_of_ble_eq_true rfl⟩) hK hP hD hS hA [0, 1] (by decide) rfl rfl 0 rfl rfl rfl hl.1 rfl (Nat.le_of_ble_eq_true rfl) ⟨Nat.zero_le _, Nat.zero_le _⟩ dX4_write_6 (fun H locs hP hD hS => ?_)
  replace hP : zP g (zMA g h0 h1 h2 h3 h4 h5 h6 rf2 sz ac sF sB sp ou tx nw tr di ke ik) H := hP
  replace hD : va_D A (zMA g h0 h1 h2 h3 h4 h5 h6 rf2 sz ac sF sB sp ou tx nw tr di ke ik) := hD
  refine lv_if_eq (tgt := 14) hx hb dX4_write_9 (by decide) (fun c3 => ?_) (fun c3 => ?_)
  · replace h := zt c3 h
    refine lv_aload_n hx hb dX4_write_14 rfl (lv_at hl 0 rfl) ?_
    obtain ⟨ac4, di4, e4, h⟩ := zb2 h
    refine zVw (As := []) (rest := []) (zWv_q g _) ⟨hx, hb, hml, hown, hts⟩ (kX4_remember l g h0 h1 h2 h3 h4 h5 h6 rf2 sz ac sF sB sp ou tx nw tr di ke ik e4) (cwV 0 hts gX4_write_X4_remember rfl rfl rfl hdV_X4_remember ⟨Nat.le_of_ble_eq_true rfl, Nat.le_of_ble_eq_true rfl⟩) hK hP hD hS hA [0, 1, 2, 3, 4, 5, 6] (by decide) rfl rfl 0 rfl rfl rfl hl.1 rfl (Nat.le_of_ble_eq_true rfl) ⟨Nat.zero_le _, Nat.zero_le _⟩ dX4_write_15 (fun H locs hP hD hS => ?_)
    replace hP : zP g (zMA g h0 h1 h2 h3 h4 h5 h6 rf2 sz ac4 sF sB sp ou tx nw tr di4 ke ik) H := hP
    replace hD : va_D A (zMA g h0 h1 h2 h3 h4 h5 h6 rf2 sz ac4 sF sB sp ou tx nw tr di4 ke ik) := hD
    refine lv_aload_n hx hb dX4_write_18 rfl (lv_at hl 0 rfl) ?_
    refine va_get (ci := 4) (v := .ref h2) (C := RX4) (T := TX4) (N := 13) hx hb hts uX4_write_X4 hown hK hP 0 rfl rfl 3 (by decide) (hts _ mX4_write_13) (fun _ h9 => h9) rfl dX4_write_19 ?_
    refine lv_iload_n hx hb dX4_write_22 rfl (lv_at hl 1 rfl) ?_
    refine lv_iload_n hx hb dX4_write_23 rfl (lv_at hl 2 rfl) ?_
    obtain ⟨r5, nw5, e5, h⟩ := zb2 h
    refine zSw (As := [.ref h2, .int a1, .int a2]) (rest := []) (zWi_q g _ _) ⟨hx, hb, hml, hown, hts⟩ (kX4_writeOn l g h2 nw a1 a2 e5) (va_cwS 3 hts gX4_write_X4_writeOn rfl rfl rfl hdS_X4_writeOn ⟨Nat.le_of_ble_eq_true rfl, Nat.le_of_ble_eq_true rfl⟩) hK hP hD hS hA [2] (by decide) rfl rfl rfl hl.1 rfl (Nat.le_of_ble_eq_true rfl) ⟨Nat.zero_le _, Nat.zero_le _⟩ dX4_write_24 (fun H locs hP hD hS => ?_)
    replace hP : zP g (zMA g h0 h1 h2 h3 h4 h5 h6 rf2 sz ac4 sF sB sp ou tx nw5 tr di4 ke ik) H := hP
    replace hD : va_D A (zMA g h0 h1 h2 h3 h4 h5 h6 rf2 sz ac4 sF sB sp ou tx nw5 tr di4 ke ik) := hD
    cases h
    exact zw_i hx hb hr hlocks hP hS dX4_write_27
  · replace h := zf c3 h
    refine lv_iconst (v := 0) hx hb dX4_write_12 (by decide) ?_
    cases h
    exact zw_i hx hb hr hlocks hP hS dX4_write_13
def fX4_free (ac : Int32) (nw : Nat → Int32) (di : Nat → Int32) (a1 : Int32) (a2 : Int32) : Option (Int32 × (Int32) × (Int32) × (Nat → Int32) × (Nat → Int32)) :=
  ob (fX4_whyNotSpan a1 a2) fun r1 =>
  ob2 (fX4_refused r1) fun r2 rf2 =>
  if r2 = 0 then
    ob2 (fX4_remember ac nw di) fun ac4 di4 =>
    ob2 (fX4_freeOn nw a1 a2) fun r5 nw5 =>
    some (r5, rf2, ac4, nw5, di4)
  else
    some (0, rf2, ac, nw, di)
theorem mX4_free_13 : Cond.fieldLink RX4 13 "IdleDiscardsModel" "now" "[I" ∈ wsX4_free := by decide +kernel
theorem uX4_free_X4 : ∀ w ∈ wsX40, w ∈ wsX4_free := by decide +kernel
set_option maxRecDepth 100000 in
set_option maxHeartbeats 4000000 in
theorem kX4_free (l : Launch) (g : zG) (h0 h1 h2 h3 h4 h5 h6 : Nat) (rf : Int32) (sz : Int32) (ac : Int32) (sF : Int32) (sB : Int32) (sp : Int32) (ou : Int32) (tx : Nat → Int32) (nw : Nat → Int32) (tr : Nat → Int32) (di : Nat → Int32) (ke : Nat → Int32) (ik : Nat → Int32) (a1 : Int32) (a2 : Int32) {r : Int32} {rf' : Int32} {ac' : Int32} {nw' : Nat → Int32} {di' : Nat → Int32} (h : fX4_free ac nw di a1 a2 = some (r, rf', ac', nw', di')) : Mw l g yX4_free wsX4_free { frames := 7, cells := 0, slots := 0, locals := 159 } [.ref h0, .int a1, .int a2] (zMA g h0 h1 h2 h3 h4 h5 h6 rf sz ac sF sB sp ou tx nw tr di ke ik) (zWi g (zMA g h0 h1 h2 h3 h4 h5 h6 rf' sz ac' sF sB sp ou tx nw' tr di' ke ik) r) := by
  refine zw_in (cc := cX4_free) (maxL := 3) (ret := (some .int)) (by decide) rfl (Nat.le_of_ble_eq_true rfl) ?_
  intro p e s m below meth c hx hb hr hml hts hown hlocks hK A hA hP hD hS ls hl
  replace hl : lv_has ls 3 [(0, .ref h0), (1, .int a1), (2, .int a2)] := hl
  unfold fX4_free at h
  refine lv_aload_n hx hb dX4_free_0 rfl (lv_at hl 0 rfl) ?_
  refine lv_iload_n hx hb dX4_free_1 rfl (lv_at hl 1 rfl) ?_
  refine lv_iload_n hx hb dX4_free_2 rfl (lv_at hl 2 rfl) ?_
  obtain ⟨r1, e1, h⟩ := zb h
  refine zS (As := [.int a1, .int a2]) (rest := [.ref h0]) (zQi_q _) ⟨hx, hb, hml, hown, hts⟩ (kX4_whyNotSpan l g a1 a2 e1) (va_cwS 2 hts gX4_free_X4_whyNotSpan rfl rfl rfl hdS_X4_whyNotSpan ⟨Nat.le_of_ble_eq_true rfl, Nat.le_of_ble_eq_true rfl⟩) hK hP [] rfl rfl hl.1 rfl (Nat.le_of_ble_eq_true rfl) ⟨Nat.zero_le _, Nat.zero_le _⟩ dX4_free_3 ?_
  obtain ⟨r2, rf2, e2, h⟩ := zb2 h
  refine zVw (As := [.int r1]) (rest := []) (zWi_q g _ _) ⟨hx, hb, hml, hown, hts⟩ (kX4_refused l g h0 h1 (.ref h2) (.ref h3) (.ref h4) (.ref h5) (.ref h6) rf sz ac sF sB sp ou tx r1 e2) (cwV 1 hts gX4_free_X4_refused rfl rfl rfl hdV_X4_refused ⟨Nat.le_of_ble_eq_true rfl, Nat.le_of_ble_eq_true rfl⟩) hK hP hD hS hA [0, 1] (by decide) rfl rfl 0 rfl rfl rfl hl.1 rfl (Nat.le_of_ble_eq_true rfl) ⟨Nat.zero_le _, Nat.zero_le _⟩ dX4_free_6 (fun H locs hP hD hS => ?_)
  replace hP : zP g (zMA g h0 h1 h2 h3 h4 h5 h6 rf2 sz ac sF sB sp ou tx nw tr di ke ik) H := hP
  replace hD : va_D A (zMA g h0 h1 h2 h3 h4 h5 h6 rf2 sz ac sF sB sp ou tx nw tr di ke ik) := hD
  refine lv_if_eq (tgt := 14) hx hb dX4_free_9 (by decide) (fun c3 => ?_) (fun c3 => ?_)
  · replace h := zt c3 h
    refine lv_aload_n hx hb dX4_free_14 rfl (lv_at hl 0 rfl) ?_
    obtain ⟨ac4, di4, e4, h⟩ := zb2 h
    refine zVw (As := []) (rest := []) (zWv_q g _) ⟨hx, hb, hml, hown, hts⟩ (kX4_remember l g h0 h1 h2 h3 h4 h5 h6 rf2 sz ac sF sB sp ou tx nw tr di ke ik e4) (cwV 0 hts gX4_free_X4_remember rfl rfl rfl hdV_X4_remember ⟨Nat.le_of_ble_eq_true rfl, Nat.le_of_ble_eq_true rfl⟩) hK hP hD hS hA [0, 1, 2, 3, 4, 5, 6] (by decide) rfl rfl 0 rfl rfl rfl hl.1 rfl (Nat.le_of_ble_eq_true rfl) ⟨Nat.zero_le _, Nat.zero_le _⟩ dX4_free_15 (fun H locs hP hD hS => ?_)
    replace hP : zP g (zMA g h0 h1 h2 h3 h4 h5 h6 rf2 sz ac4 sF sB sp ou tx nw tr di4 ke ik) H := hP
    replace hD : va_D A (zMA g h0 h1 h2 h3 h4 h5 h6 rf2 sz ac4 sF sB sp ou tx nw tr di4 ke ik) := hD
    refine lv_aload_n hx hb dX4_free_18 rfl (lv_at hl 0 rfl) ?_
    refine va_get (ci := 4) (v := .ref h2) (C := RX4) (T := TX4) (N := 13) hx hb hts uX4_free_X4 hown hK hP 0 rfl rfl 3 (by decide) (hts _ mX4_free_13) (fun _ h9 => h9) rfl dX4_free_19 ?_
    refine lv_iload_n hx hb dX4_free_22 rfl (lv_at hl 1 rfl) ?_
    refine lv_iload_n hx hb dX4_free_23 rfl (lv_at hl 2 rfl) ?_
    obtain ⟨r5, nw5, e5, h⟩ := zb2 h
    refine zSw (As := [.ref h2, .int a1, .int a2]) (rest := []) (zWi_q g _ _) ⟨hx, hb, hml, hown, hts⟩ (kX4_freeOn l g h2 nw a1 a2 e5) (va_cwS 3 hts gX4_free_X4_freeOn rfl rfl rfl hdS_X4_freeOn ⟨Nat.le_of_ble_eq_true rfl, Nat.le_of_ble_eq_true rfl⟩) hK hP hD hS hA [2] (by decide) rfl rfl rfl hl.1 rfl (Nat.le_of_ble_eq_true rfl) ⟨Nat.zero_le _, Nat.zero_le _⟩ dX4_free_24 (fun H locs hP hD hS => ?_)
    replace hP : zP g (zMA g h0 h1 h2 h3 h4 h5 h6 rf2 sz ac4 sF sB sp ou tx nw5 tr di4 ke ik) H := hP
    replace hD : va_D A (zMA g h0 h1 h2 h3 h4 h5 h6 rf2 sz ac4 sF sB sp ou tx nw5 tr di4 ke ik) := hD
    cases h
    exact zw_i hx hb hr hlocks hP hS dX4_free_27
  · replace h := zf c3 h
    refine lv_iconst (v := 0) hx hb dX4_free_12 (by decide) ?_
    cases h
    exact zw_i hx hb hr hlocks hP hS dX4_free_13
def fX4_pin (ac : Int32) (nw : Nat → Int32) (di : Nat → Int32) (a1 : Int32) (a2 : Int32) (a3 : Int32) : Option (Int32 × (Int32) × (Int32) × (Nat → Int32) × (Nat → Int32)) :=
  ob (fX4_in a1.toInt64 0 (2)) fun r1 =>
  if r1 = 0 then
    ob2 (fX4_refused 1) fun r3 rf3 =>
    if r3 = 0 then
      ob2 (fX4_remember ac nw di) fun ac5 di5 =>
      ob2 (fX4_pinOn nw a1 a2 a3) fun r6 nw6 =>
      some (r6, rf3, ac5, nw6, di5)
    else
      some (0, rf3, ac, nw, di)
  else
    ob (fX4_whyNotSpan a2 a3) fun r7 =>
    ob2 (fX4_refused r7) fun r8 rf8 =>
    if r8 = 0 then
      ob2 (fX4_remember ac nw di) fun ac10 di10 =>
      ob2 (fX4_pinOn nw a1 a2 a3) fun r11 nw11 =>
      some (r11, rf8, ac10, nw11, di10)
    else
      some (0, rf8, ac, nw, di)
theorem mX4_pin_191 : Cond.constantLong RX4 191 (2) ∈ wsX4_pin := by decide +kernel
theorem mX4_pin_13 : Cond.fieldLink RX4 13 "IdleDiscardsModel" "now" "[I" ∈ wsX4_pin := by decide +kernel
theorem uX4_pin_X4 : ∀ w ∈ wsX40, w ∈ wsX4_pin := by decide +kernel
set_option maxRecDepth 100000 in
set_option maxHeartbeats 4000000 in
theorem kX4_pin (l : Launch) (g : zG) (h0 h1 h2 h3 h4 h5 h6 : Nat) (rf : Int32) (sz : Int32) (ac : Int32) (sF : Int32) (sB : Int32) (sp : Int32) (ou : Int32) (tx : Nat → Int32) (nw : Nat → Int32) (tr : Nat → Int32) (di : Nat → Int32) (ke : Nat → Int32) (ik : Nat → Int32) (a1 : Int32) (a2 : Int32) (a3 : Int32) {r : Int32} {rf' : Int32} {ac' : Int32} {nw' : Nat → Int32} {di' : Nat → Int32} (h : fX4_pin ac nw di a1 a2 a3 = some (r, rf', ac', nw', di')) : Mw l g yX4_pin wsX4_pin { frames := 3, cells := 0, slots := 0, locals := 67 } [.ref h0, .int a1, .int a2, .int a3] (zMA g h0 h1 h2 h3 h4 h5 h6 rf sz ac sF sB sp ou tx nw tr di ke ik) (zWi g (zMA g h0 h1 h2 h3 h4 h5 h6 rf' sz ac' sF sB sp ou tx nw' tr di' ke ik) r) := by
  refine zw_in (cc := cX4_pin) (maxL := 4) (ret := (some .int)) (by decide) rfl (Nat.le_of_ble_eq_true rfl) ?_
  intro p e s m below meth c hx hb hr hml hts hown hlocks hK A hA hP hD hS ls hl
  replace hl : lv_has ls 4 [(0, .ref h0), (1, .int a1), (2, .int a2), (3, .int a3)] := hl
  unfold fX4_pin at h
  refine lv_aload_n hx hb dX4_pin_0 rfl (lv_at hl 0 rfl) ?_
  refine lv_iload_n hx hb dX4_pin_1 rfl (lv_at hl 1 rfl) ?_
  refine lv_i2l (v := a1.toInt64) hx hb dX4_pin_2 rfl ?_
  refine lv_lconst (v := 0) hx hb dX4_pin_3 (by decide) ?_
  refine lv_ldc2 hx hb hown (hts _ mX4_pin_191) dX4_pin_4 ?_
  obtain ⟨r1, e1, h⟩ := zb h
  refine zS (As := [.long a1.toInt64, .long 0, .long (2)]) (rest := [.ref h0]) (zQi_q _) ⟨hx, hb, hml, hown, hts⟩ (kX4_in l g a1.toInt64 0 (2) e1) (va_cwS 3 hts gX4_pin_X4_in rfl rfl rfl hdS_X4_in ⟨Nat.le_of_ble_eq_true rfl, Nat.le_of_ble_eq_true rfl⟩) hK hP [] rfl rfl hl.1 rfl (Nat.le_of_ble_eq_true rfl) ⟨Nat.zero_le _, Nat.zero_le _⟩ dX4_pin_7 ?_
  refine lv_if_eq (tgt := 21) hx hb dX4_pin_10 (by decide) (fun c2 => ?_) (fun c2 => ?_)
  · replace h := zt c2 h
    refine lv_iconst (v := 1) hx hb dX4_pin_21 (by decide) ?_
    obtain ⟨r3, rf3, e3, h⟩ := zb2 h
    refine zVw (As := [.int 1]) (rest := []) (zWi_q g _ _) ⟨hx, hb, hml, hown, hts⟩ (kX4_refused l g h0 h1 (.ref h2) (.ref h3) (.ref h4) (.ref h5) (.ref h6) rf sz ac sF sB sp ou tx 1 e3) (cwV 1 hts gX4_pin_X4_refused rfl rfl rfl hdV_X4_refused ⟨Nat.le_of_ble_eq_true rfl, Nat.le_of_ble_eq_true rfl⟩) hK hP hD hS hA [0, 1] (by decide) rfl rfl 0 rfl rfl rfl hl.1 rfl (Nat.le_of_ble_eq_true rfl) ⟨Nat.zero_le _, Nat.zero_le _⟩ dX4_pin_22 (fun H locs hP hD hS => ?_)
    replace hP : zP g (zMA g h0 h1 h2 h3 h4 h5 h6 rf3 sz ac sF sB sp ou tx nw tr di ke ik) H := hP
    replace hD : va_D A (zMA g h0 h1 h2 h3 h4 h5 h6 rf3 sz ac sF sB sp ou tx nw tr di ke ik) := hD
    refine lv_if_eq (tgt := 30) hx hb dX4_pin_25 (by decide) (fun c4 => ?_) (fun c4 => ?_)
    · replace h := zt c4 h
      refine lv_aload_n hx hb dX4_pin_30 rfl (lv_at hl 0 rfl) ?_
      obtain ⟨ac5, di5, e5, h⟩ := zb2 h
      refine zVw (As := []) (rest := []) (zWv_q g _) ⟨hx, hb, hml, hown, hts⟩ (kX4_remember l g h0 h1 h2 h3 h4 h5 h6 rf3 sz ac sF sB sp ou tx nw tr di ke ik e5) (cwV 0 hts gX4_pin_X4_remember rfl rfl rfl hdV_X4_remember ⟨Nat.le_of_ble_eq_true rfl, Nat.le_of_ble_eq_true rfl⟩) hK hP hD hS hA [0, 1, 2, 3, 4, 5, 6] (by decide) rfl rfl 0 rfl rfl rfl hl.1 rfl (Nat.le_of_ble_eq_true rfl) ⟨Nat.zero_le _, Nat.zero_le _⟩ dX4_pin_31 (fun H locs hP hD hS => ?_)
      replace hP : zP g (zMA g h0 h1 h2 h3 h4 h5 h6 rf3 sz ac5 sF sB sp ou tx nw tr di5 ke ik) H := hP
      replace hD : va_D A (zMA g h0 h1 h2 h3 h4 h5 h6 rf3 sz ac5 sF sB sp ou tx nw tr di5 ke ik) := hD
      refine lv_aload_n hx hb dX4_pin_34 rfl (lv_at hl 0 rfl) ?_
      refine va_get (ci := 4) (v := .ref h2) (C := RX4) (T := TX4) (N := 13) hx hb hts uX4_pin_X4 hown hK hP 0 rfl rfl 3 (by decide) (hts _ mX4_pin_13) (fun _ h9 => h9) rfl dX4_pin_35 ?_
      refine lv_iload_n hx hb dX4_pin_38 rfl (lv_at hl 1 rfl) ?_
      refine lv_iload_n hx hb dX4_pin_39 rfl (lv_at hl 2 rfl) ?_
      refine lv_iload_n hx hb dX4_pin_40 rfl (lv_at hl 3 rfl) ?_
      obtain ⟨r6, nw6, e6, h⟩ := zb2 h
      refine zSw (As := [.ref h2, .int a1, .int a2, .int a3]) (rest := []) (zWi_q g _ _) ⟨hx, hb, hml, hown, hts⟩ (kX4_pinOn l g h2 nw a1 a2 a3 e6) (va_cwS 4 hts gX4_pin_X4_pinOn rfl rfl rfl hdS_X4_pinOn ⟨Nat.le_of_ble_eq_true rfl, Nat.le_of_ble_eq_true rfl⟩) hK hP hD hS hA [2] (by decide) rfl rfl rfl hl.1 rfl (Nat.le_of_ble_eq_true rfl) ⟨Nat.zero_le _, Nat.zero_le _⟩ dX4_pin_41 (fun H locs hP hD hS => ?_)
      replace hP : zP g (zMA g h0 h1 h2 h3 h4 h5 h6 rf3 sz ac5 sF sB sp ou tx nw6 tr di5 ke ik) H := hP
      replace hD : va_D A (zMA g h0 h1 h2 h3 h4 h5 h6 rf3 sz ac5 sF sB sp ou tx nw6 tr di5 ke ik) := hD
      cases h
      exact zw_i hx hb hr hlocks hP hS dX4_pin_44
    · replace h := zf c4 h
      refine lv_iconst (v := 0) hx hb dX4_pin_28 (by decide) ?_
      cases h
      exact zw_i hx hb hr hlocks hP hS dX4_pin_29
  · replace h := zf c2 h
    refine lv_iload_n hx hb dX4_pin_13 rfl (lv_at hl 2 rfl) ?_
    refine lv_iload_n hx hb dX4_pin_14 rfl (lv_at hl 3 rfl) ?_
    obtain ⟨r7, e7, h⟩ := zb h
    refine zS (As := [.int a2, .int a3]) (rest := [.ref h0]) (zQi_q _) ⟨hx, hb, hml, hown, hts⟩ (kX4_whyNotSpan l g a2 a3 e7) (va_cwS 2 hts gX4_pin_X4_whyNotSpan rfl rfl rfl hdS_X4_whyNotSpan ⟨Nat.le_of_ble_eq_true rfl, Nat.le_of_ble_eq_true rfl⟩) hK hP [] rfl rfl hl.1 rfl (Nat.le_of_ble_eq_true rfl) ⟨Nat.zero_le _, Nat.zero_le _⟩ dX4_pin_15 ?_
    refine lv_goto (tgt := 22) hx hb dX4_pin_18 (by decide) ?_
    obtain ⟨r8, rf8, e8, h⟩ := zb2 h
    refine zVw (As := [.int r7]) (rest := []) (zWi_q g _ _) ⟨hx, hb, hml, hown, hts⟩ (kX4_refused l g h0 h1 (.ref h2) (.ref h3) (.ref h4) (.ref h5) (.ref h6) rf sz ac sF sB sp ou tx r7 e8) (cwV 1 hts gX4_pin_X4_refused rfl rfl rfl hdV_X4_refused ⟨Nat.le_of_ble_eq_true rfl, Nat.le_of_ble_eq_true rfl⟩) hK hP hD hS hA [0, 1] (by decide) rfl rfl 0 rfl rfl rfl hl.1 rfl (Nat.le_of_ble_eq_true rfl) ⟨Nat.zero_le _, Nat.zero_le _⟩ dX4_pin_22 (fun H locs hP hD hS => ?_)
    replace hP : zP g (zMA g h0 h1 h2 h3 h4 h5 h6 rf8 sz ac sF sB sp ou tx nw tr di ke ik) H := hP
    replace hD : va_D A (zMA g h0 h1 h2 h3 h4 h5 h6 rf8 sz ac sF sB sp ou tx nw tr di ke ik) := hD
    refine lv_if_eq (tgt := 30) hx hb dX4_pin_25 (by decide) (fun c9 => ?_) (fun c9 => ?_)
    · replace h := zt c9 h
      refine lv_aload_n hx hb dX4_pin_30 rfl (lv_at hl 0 rfl) ?_
      obtain ⟨ac10, di10, e10, h⟩ := zb2 h
      refine zVw (As := []) (rest := []) (zWv_q g _) ⟨hx, hb, hml, hown, hts⟩ (kX4_remember l g h0 h1 h2 h3 h4 h5 h6 rf8 sz ac sF sB sp ou tx nw tr di ke ik e10) (cwV 0 hts gX4_pin_X4_remember rfl rfl rfl hdV_X4_remember ⟨Nat.le_of_ble_eq_true rfl, Nat.le_of_ble_eq_true rfl⟩) hK hP hD hS hA [0, 1, 2, 3, 4, 5, 6] (by decide) rfl rfl 0 rfl rfl rfl hl.1 rfl (Nat.le_of_ble_eq_true rfl) ⟨Nat.zero_le _, Nat.zero_le _⟩ dX4_pin_31 (fun H locs hP hD hS => ?_)
      replace hP : zP g (zMA g h0 h1 h2 h3 h4 h5 h6 rf8 sz ac10 sF sB sp ou tx nw tr di10 ke ik) H := hP
      replace hD : va_D A (zMA g h0 h1 h2 h3 h4 h5 h6 rf8 sz ac10 sF sB sp ou tx nw tr di10 ke ik) := hD
      refine lv_aload_n hx hb dX4_pin_34 rfl (lv_at hl 0 rfl) ?_
      refine va_get (ci := 4) (v := .ref h2) (C := RX4) (T := TX4) (N := 13) hx hb hts uX4_pin_X4 hown hK hP 0 rfl rfl 3 (by decide) (hts _ mX4_pin_13) (fun _ h9 => h9) rfl dX4_pin_35 ?_
      refine lv_iload_n hx hb dX4_pin_38 rfl (lv_at hl 1 rfl) ?_
      refine lv_iload_n hx hb dX4_pin_39 rfl (lv_at hl 2 rfl) ?_
      refine lv_iload_n hx hb dX4_pin_40 rfl (lv_at hl 3 rfl) ?_
      obtain ⟨r11, nw11, e11, h⟩ := zb2 h
      refine zSw (As := [.ref h2, .int a1, .int a2, .int a3]) (rest := []) (zWi_q g _ _) ⟨hx, hb, hml, hown, hts⟩ (kX4_pinOn l g h2 nw a1 a2 a3 e11) (va_cwS 4 hts gX4_pin_X4_pinOn rfl rfl rfl hdS_X4_pinOn ⟨Nat.le_of_ble_eq_true rfl, Nat.le_of_ble_eq_true rfl⟩) hK hP hD hS hA [2] (by decide) rfl rfl rfl hl.1 rfl (Nat.le_of_ble_eq_true rfl) ⟨Nat.zero_le _, Nat.zero_le _⟩ dX4_pin_41 (fun H locs hP hD hS => ?_)
      replace hP : zP g (zMA g h0 h1 h2 h3 h4 h5 h6 rf8 sz ac10 sF sB sp ou tx nw11 tr di10 ke ik) H := hP
      replace hD : va_D A (zMA g h0 h1 h2 h3 h4 h5 h6 rf8 sz ac10 sF sB sp ou tx nw11 tr di10 ke ik) := hD
      cases h
      exact zw_i hx hb hr hlocks hP hS dX4_pin_44
    · replace h := zf c9 h
      refine lv_iconst (v := 0) hx hb dX4_pin_28 (by decide) ?_
      cases h
      exact zw_i hx hb hr hlocks hP hS dX4_pin_29
def fX4_unpin (ac : Int32) (nw : Nat → Int32) (di : Nat → Int32) (a1 : Int32) : Option (Int32 × (Int32) × (Int32) × (Nat → Int32) × (Nat → Int32)) :=
  ob (fX4_in a1.toInt64 0 (2)) fun r1 =>
  if r1 = 0 then
    ob2 (fX4_refused 1) fun r13 rf13 =>
    if r13 = 0 then
      ob2 (fX4_remember ac nw di) fun ac15 di15 =>
      ob2 (fX4_pinOn nw a1 0 0) fun r16 nw16 =>
      some (r16, rf13, ac15, nw16, di15)
    else
      some (0, rf13, ac, nw, di)
  else
    if (782 + a1) < 0 ∨ 785 ≤ (782 + a1).toNatClampNeg then none else
    if (nw (782 + a1).toNatClampNeg) = 0 then
      ob2 (fX4_refused 2) fun r9 rf9 =>
      if r9 = 0 then
        ob2 (fX4_remember ac nw di) fun ac11 di11 =>
        ob2 (fX4_pinOn nw a1 0 0) fun r12 nw12 =>
        some (r12, rf9, ac11, nw12, di11)
      else
        some (0, rf9, ac, nw, di)
    else
      ob2 (fX4_refused 0) fun r5 rf5 =>
      if r5 = 0 then
        ob2 (fX4_remember ac nw di) fun ac7 di7 =>
        ob2 (fX4_pinOn nw a1 0 0) fun r8 nw8 =>
        some (r8, rf5, ac7, nw8, di7)
      else
        some (0, rf5, ac, nw, di)
theorem mX4_unpin_191 : Cond.constantLong RX4 191 (2) ∈ wsX4_unpin := by decide +kernel
theorem mX4_unpin_13 : Cond.fieldLink RX4 13 "IdleDiscardsModel" "now" "[I" ∈ wsX4_unpin := by decide +kernel
theorem uX4_unpin_X4 : ∀ w ∈ wsX40, w ∈ wsX4_unpin := by decide +kernel
set_option maxRecDepth 100000 in
set_option maxHeartbeats 4000000 in
theorem kX4_unpin (l : Launch) (g : zG) (h0 h1 h2 h3 h4 h5 h6 : Nat) (rf : Int32) (sz : Int32) (ac : Int32) (sF : Int32) (sB : Int32) (sp : Int32) (ou : Int32) (tx : Nat → Int32) (nw : Nat → Int32) (tr : Nat → Int32) (di : Nat → Int32) (ke : Nat → Int32) (ik : Nat → Int32) (a1 : Int32) {r : Int32} {rf' : Int32} {ac' : Int32} {nw' : Nat → Int32} {di' : Nat → Int32} (h : fX4_unpin ac nw di a1 = some (r, rf', ac', nw', di')) : Mw l g yX4_unpin wsX4_unpin { frames := 3, cells := 0, slots := 0, locals := 67 } [.ref h0, .int a1] (zMA g h0 h1 h2 h3 h4 h5 h6 rf sz ac sF sB sp ou tx nw tr di ke ik) (zWi g (zMA g h0 h1 h2 h3 h4 h5 h6 rf' sz ac' sF sB sp ou tx nw' tr di' ke ik) r) := by
  refine zw_in (cc := cX4_unpin) (maxL := 2) (ret := (some .int)) (by decide) rfl (Nat.le_of_ble_eq_true rfl) ?_
  intro p e s m below meth c hx hb hr hml hts hown hlocks hK A hA hP hD hS ls hl
  replace hl : lv_has ls 2 [(0, .ref h0), (1, .int a1)] := hl
  unfold fX4_unpin at h
  refine lv_aload_n hx hb dX4_unpin_0 rfl (lv_at hl 0 rfl) ?_
  refine lv_iload_n hx hb dX4_unpin_1 rfl (lv_at hl 1 rfl) ?_
  refine lv_i2l (v := a1.toInt64) hx hb dX4_unpin_2 rfl ?_
  refine lv_lconst (v := 0) hx hb dX4_unpin_3 (by decide) ?_
  refine lv_ldc2 hx hb hown (hts _ mX4_unpin_191) dX4_unpin_4 ?_
  obtain ⟨r1, e1, h⟩ := zb h
  refine zS (As := [.long a1.toInt64, .long 0, .long (2)]) (rest := [.ref h0]) (zQi_q _) ⟨hx, hb, hml, hown, hts⟩ (kX4_in l g a1.toInt64 0 (2) e1) (va_cwS 3 hts gX4_unpin_X4_in rfl rfl rfl hdS_X4_in ⟨Nat.le_of_ble_eq_true rfl, Nat.le_of_ble_eq_true rfl⟩) hK hP [] rfl rfl hl.1 rfl (Nat.le_of_ble_eq_true rfl) ⟨Nat.zero_le _, Nat.zero_le _⟩ dX4_unpin_7 ?_
  refine lv_if_ne (tgt := 17) hx hb dX4_unpin_10 (by decide) (fun c2 => ?_) (fun c2 => ?_)
  · replace h := zf c2 h
    refine lv_aload_n hx hb dX4_unpin_17 rfl (lv_at hl 0 rfl) ?_
    refine va_get (ci := 4) (v := .ref h2) (C := RX4) (T := TX4) (N := 13) hx hb hts uX4_unpin_X4 hown hK hP 0 rfl rfl 3 (by decide) (hts _ mX4_unpin_13) (fun _ h9 => h9) rfl dX4_unpin_18 ?_
    refine lv_sipush (v := 782) hx hb dX4_unpin_21 (by decide) ?_
    refine lv_iload_n hx hb dX4_unpin_24 rfl (lv_at hl 1 rfl) ?_
    refine lv_iadd hx hb dX4_unpin_25 ?_
    obtain ⟨i3, h⟩ := zi h
    refine za_ild hx hb hK hP 2 rfl _ rfl i3 dX4_unpin_26 ?_
    refine lv_if_ne (tgt := 34) hx hb dX4_unpin_27 (by decide) (fun c4 => ?_) (fun c4 => ?_)
    · replace h := zf c4 h
      refine lv_iconst (v := 0) hx hb dX4_unpin_34 (by decide) ?_
      obtain ⟨r5, rf5, e5, h⟩ := zb2 h
      refine zVw (As := [.int 0]) (rest := []) (zWi_q g _ _) ⟨hx, hb, hml, hown, hts⟩ (kX4_refused l g h0 h1 (.ref h2) (.ref h3) (.ref h4) (.ref h5) (.ref h6) rf sz ac sF sB sp ou tx 0 e5) (cwV 1 hts gX4_unpin_X4_refused rfl rfl rfl hdV_X4_refused ⟨Nat.le_of_ble_eq_true rfl, Nat.le_of_ble_eq_true rfl⟩) hK hP hD hS hA [0, 1] (by decide) rfl rfl 0 rfl rfl rfl hl.1 rfl (Nat.le_of_ble_eq_true rfl) ⟨Nat.zero_le _, Nat.zero_le _⟩ dX4_unpin_35 (fun H locs hP hD hS => ?_)
      replace hP : zP g (zMA g h0 h1 h2 h3 h4 h5 h6 rf5 sz ac sF sB sp ou tx nw tr di ke ik) H := hP
      replace hD : va_D A (zMA g h0 h1 h2 h3 h4 h5 h6 rf5 sz ac sF sB sp ou tx nw tr di ke ik) := hD
      refine lv_if_eq (tgt := 43) hx hb dX4_unpin_38 (by decide) (fun c6 => ?_) (fun c6 => ?_)
      · replace h := zt c6 h
        refine lv_aload_n hx hb dX4_unpin_43 rfl (lv_at hl 0 rfl) ?_
        obtain ⟨ac7, di7, e7, h⟩ := zb2 h
        refine zVw (As := []) (rest := []) (zWv_q g _) ⟨hx, hb, hml, hown, hts⟩ (kX4_remember l g h0 h1 h2 h3 h4 h5 h6 rf5 sz ac sF sB sp ou tx nw tr di ke ik e7) (cwV 0 hts gX4_unpin_X4_remember rfl rfl rfl hdV_X4_remember ⟨Nat.le_of_ble_eq_true rfl, Nat.le_of_ble_eq_true rfl⟩) hK hP hD hS hA [0, 1, 2, 3, 4, 5, 6] (by decide) rfl rfl 0 rfl rfl rfl hl.1 rfl (Nat.le_of_ble_eq_true rfl) ⟨Nat.zero_le _, Nat.zero_le _⟩ dX4_unpin_44 (fun H locs hP hD hS => ?_)
        replace hP : zP g (zMA g h0 h1 h2 h3 h4 h5 h6 rf5 sz ac7 sF sB sp ou tx nw tr di7 ke ik) H := hP
        replace hD : va_D A (zMA g h0 h1 h2 h3 h4 h5 h6 rf5 sz ac7 sF sB sp ou tx nw tr di7 ke ik) := hD
        refine lv_aload_n hx hb dX4_unpin_47 rfl (lv_at hl 0 rfl) ?_
        refine va_get (ci := 4) (v := .ref h2) (C := RX4) (T := TX4) (N := 13) hx hb hts uX4_unpin_X4 hown hK hP 0 rfl rfl 3 (by decide) (hts _ mX4_unpin_13) (fun _ h9 => h9) rfl dX4_unpin_48 ?_
        refine lv_iload_n hx hb dX4_unpin_51 rfl (lv_at hl 1 rfl) ?_
        refine lv_iconst (v := 0) hx hb dX4_unpin_52 (by decide) ?_
        refine lv_iconst (v := 0) hx hb dX4_unpin_53 (by decide) ?_
        obtain ⟨r8, nw8, e8, h⟩ := zb2 h
        refine zSw (As := [.ref h2, .int a1, .int 0, .int 0]) (rest := []) (zWi_q g _ _) ⟨hx, hb, hml, hown, hts⟩ (kX4_pinOn l g h2 nw a1 0 0 e8) (va_cwS 4 hts gX4_unpin_X4_pinOn rfl rfl rfl hdS_X4_pinOn ⟨Nat.le_of_ble_eq_true rfl, Nat.le_of_ble_eq_true rfl⟩) hK hP hD hS hA [2] (by decide) rfl rfl rfl hl.1 rfl (Nat.le_of_ble_eq_true rfl) ⟨Nat.zero_le _, Nat.zero_le _⟩ dX4_unpin_54 (fun H locs hP hD hS => ?_)
        replace hP : zP g (zMA g h0 h1 h2 h3 h4 h5 h6 rf5 sz ac7 sF sB sp ou tx nw8 tr di7 ke ik) H := hP
        replace hD : va_D A (zMA g h0 h1 h2 h3 h4 h5 h6 rf5 sz ac7 sF sB sp ou tx nw8 tr di7 ke ik) := hD
        cases h
        exact zw_i hx hb hr hlocks hP hS dX4_unpin_57
      · replace h := zf c6 h
        refine lv_iconst (v := 0) hx hb dX4_unpin_41 (by decide) ?_
        cases h
        exact zw_i hx hb hr hlocks hP hS dX4_unpin_42
    · replace h := zt c4 h
      refine lv_iconst (v := 2) hx hb dX4_unpin_30 (by decide) ?_
      refine lv_goto (tgt := 35) hx hb dX4_unpin_31 (by decide) ?_
      obtain ⟨r9, rf9, e9, h⟩ := zb2 h
      refine zVw (As := [.int 2]) (rest := []) (zWi_q g _ _) ⟨hx, hb, hml, hown, hts⟩ (kX4_refused l g h0 h1 (.ref h2) (.ref h3) (.ref h4) (.ref h5) (.ref h6) rf sz ac sF sB sp ou tx 2 e9) (cwV 1 hts gX4_unpin_X4_refused rfl rfl rfl hdV_X4_refused ⟨Nat.le_of_ble_eq_true rfl, Nat.le_of_ble_eq_true rfl⟩) hK hP hD hS hA [0, 1] (by decide) rfl rfl 0 rfl rfl rfl hl.1 rfl (Nat.le_of_ble_eq_true rfl) ⟨Nat.zero_le _, Nat.zero_le _⟩ dX4_unpin_35 (fun H locs hP hD hS => ?_)
      replace hP : zP g (zMA g h0 h1 h2 h3 h4 h5 h6 rf9 sz ac sF sB sp ou tx nw tr di ke ik) H := hP
      replace hD : va_D A (zMA g h0 h1 h2 h3 h4 h5 h6 rf9 sz ac sF sB sp ou tx nw tr di ke ik) := hD
      refine lv_if_eq (tgt := 43) hx hb dX4_unpin_38 (by decide) (fun c10 => ?_) (fun c10 => ?_)
      · replace h := zt c10 h
        refine lv_aload_n hx hb dX4_unpin_43 rfl (lv_at hl 0 rfl) ?_
        obtain ⟨ac11, di11, e11, h⟩ := zb2 h
        refine zVw (As := []) (rest := []) (zWv_q g _) ⟨hx, hb, hml, hown, hts⟩ (kX4_remember l g h0 h1 h2 h3 h4 h5 h6 rf9 sz ac sF sB sp ou tx nw tr di ke ik e11) (cwV 0 hts gX4_unpin_X4_remember rfl rfl rfl hdV_X4_remember ⟨Nat.le_of_ble_eq_true rfl, Nat.le_of_ble_eq_true rfl⟩) hK hP hD hS hA [0, 1, 2, 3, 4, 5, 6] (by decide) rfl rfl 0 rfl rfl rfl hl.1 rfl (Nat.le_of_ble_eq_true rfl) ⟨Nat.zero_le _, Nat.zero_le _⟩ dX4_unpin_44 (fun H locs hP hD hS => ?_)
        replace hP : zP g (zMA g h0 h1 h2 h3 h4 h5 h6 rf9 sz ac11 sF sB sp ou tx nw tr di11 ke ik) H := hP
        replace hD : va_D A (zMA g h0 h1 h2 h3 h4 h5 h6 rf9 sz ac11 sF sB sp ou tx nw tr di11 ke ik) := hD
        refine lv_aload_n hx hb dX4_unpin_47 rfl (lv_at hl 0 rfl) ?_
        refine va_get (ci := 4) (v := .ref h2) (C := RX4) (T := TX4) (N := 13) hx hb hts uX4_unpin_X4 hown hK hP 0 rfl rfl 3 (by decide) (hts _ mX4_unpin_13) (fun _ h9 => h9) rfl dX4_unpin_48 ?_
        refine lv_iload_n hx hb dX4_unpin_51 rfl (lv_at hl 1 rfl) ?_
        refine lv_iconst (v := 0) hx hb dX4_unpin_52 (by decide) ?_
        refine lv_iconst (v := 0) hx hb dX4_unpin_53 (by decide) ?_
        obtain ⟨r12, nw12, e12, h⟩ := zb2 h
        refine zSw (As := [.ref h2, .int a1, .int 0, .int 0]) (rest := []) (zWi_q g _ _) ⟨hx, hb, hml, hown, hts⟩ (kX4_pinOn l g h2 nw a1 0 0 e12) (va_cwS 4 hts gX4_unpin_X4_pinOn rfl rfl rfl hdS_X4_pinOn ⟨Nat.le_of_ble_eq_true rfl, Nat.le_of_ble_eq_true rfl⟩) hK hP hD hS hA [2] (by decide) rfl rfl rfl hl.1 rfl (Nat.le_of_ble_eq_true rfl) ⟨Nat.zero_le _, Nat.zero_le _⟩ dX4_unpin_54 (fun H locs hP hD hS => ?_)
        replace hP : zP g (zMA g h0 h1 h2 h3 h4 h5 h6 rf9 sz ac11 sF sB sp ou tx nw12 tr di11 ke ik) H := hP
        replace hD : va_D A (zMA g h0 h1 h2 h3 h4 h5 h6 rf9 sz ac11 sF sB sp ou tx nw12 tr di11 ke ik) := hD
        cases h
        exact zw_i hx hb hr hlocks hP hS dX4_unpin_57
      · replace h := zf c10 h
        refine lv_iconst (v := 0) hx hb dX4_unpin_41 (by decide) ?_
        cases h
        exact zw_i hx hb hr hlocks hP hS dX4_unpin_42
  · replace h := zt c2 h
    refine lv_iconst (v := 1) hx hb dX4_unpin_13 (by decide) ?_
    refine lv_goto (tgt := 35) hx hb dX4_unpin_14 (by decide) ?_
    obtain ⟨r13, rf13, e13, h⟩ := zb2 h
    refine zVw (As := [.int 1]) (rest := []) (zWi_q g _ _) ⟨hx, hb, hml, hown, hts⟩ (kX4_refused l g h0 h1 (.ref h2) (.ref h3) (.ref h4) (.ref h5) (.ref h6) rf sz ac sF sB sp ou tx 1 e13) (cwV 1 hts gX4_unpin_X4_refused rfl rfl rfl hdV_X4_refused ⟨Nat.le_of_ble_eq_true rfl, Nat.le_of_ble_eq_true rfl⟩) hK hP hD hS hA [0, 1] (by decide) rfl rfl 0 rfl rfl rfl hl.1 rfl (Nat.le_of_ble_eq_true rfl) ⟨Nat.zero_le _, Nat.zero_le _⟩ dX4_unpin_35 (fun H locs hP hD hS => ?_)
    replace hP : zP g (zMA g h0 h1 h2 h3 h4 h5 h6 rf13 sz ac sF sB sp ou tx nw tr di ke ik) H := hP
    replace hD : va_D A (zMA g h0 h1 h2 h3 h4 h5 h6 rf13 sz ac sF sB sp ou tx nw tr di ke ik) := hD
    refine lv_if_eq (tgt := 43) hx hb dX4_unpin_38 (by decide) (fun c14 => ?_) (fun c14 => ?_)
    · replace h := zt c14 h
      refine lv_aload_n hx hb dX4_unpin_43 rfl (lv_at hl 0 rfl) ?_
      obtain ⟨ac15, di15, e15, h⟩ := zb2 h
      refine zVw (As := []) (rest := []) (zWv_q g _) ⟨hx, hb, hml, hown, hts⟩ (kX4_remember l g h0 h1 h2 h3 h4 h5 h6 rf13 sz ac sF sB sp ou tx nw tr di ke ik e15) (cwV 0 hts gX4_unpin_X4_remember rfl rfl rfl hdV_X4_remember ⟨Nat.le_of_ble_eq_true rfl, Nat.le_of_ble_eq_true rfl⟩) hK hP hD hS hA [0, 1, 2, 3, 4, 5, 6] (by decide) rfl rfl 0 rfl rfl rfl hl.1 rfl (Nat.le_of_ble_eq_true rfl) ⟨Nat.zero_le _, Nat.zero_le _⟩ dX4_unpin_44 (fun H locs hP hD hS => ?_)
      replace hP : zP g (zMA g h0 h1 h2 h3 h4 h5 h6 rf13 sz ac15 sF sB sp ou tx nw tr di15 ke ik) H := hP
      replace hD : va_D A (zMA g h0 h1 h2 h3 h4 h5 h6 rf13 sz ac15 sF sB sp ou tx nw tr di15 ke ik) := hD
      refine lv_aload_n hx hb dX4_unpin_47 rfl (lv_at hl 0 rfl) ?_
      refine va_get (ci := 4) (v := .ref h2) (C := RX4) (T := TX4) (N := 13) hx hb hts uX4_unpin_X4 hown hK hP 0 rfl rfl 3 (by decide) (hts _ mX4_unpin_13) (fun _ h9 => h9) rfl dX4_unpin_48 ?_
      refine lv_iload_n hx hb dX4_unpin_51 rfl (lv_at hl 1 rfl) ?_
      refine lv_iconst (v := 0) hx hb dX4_unpin_52 (by decide) ?_
      refine lv_iconst (v := 0) hx hb dX4_unpin_53 (by decide) ?_
      obtain ⟨r16, nw16, e16, h⟩ := zb2 h
      refine zSw (As := [.ref h2, .int a1, .int 0, .int 0]) (rest := []) (zWi_q g _ _) ⟨hx, hb, hml, hown, hts⟩ (kX4_pinOn l g h2 nw a1 0 0 e16) (va_cwS 4 hts gX4_unpin_X4_pinOn rfl rfl rfl hdS_X4_pinOn ⟨Nat.le_of_ble_eq_true rfl, Nat.le_of_ble_eq_true rfl⟩) hK hP hD hS hA [2] (by decide) rfl rfl rfl hl.1 rfl (Nat.le_of_ble_eq_true rfl) ⟨Nat.zero_le _, Nat.zero_le _⟩ dX4_unpin_54 (fun H locs hP hD hS => ?_)
      replace hP : zP g (zMA g h0 h1 h2 h3 h4 h5 h6 rf13 sz ac15 sF sB sp ou tx nw16 tr di15 ke ik) H := hP
      replace hD : va_D A (zMA g h0 h1 h2 h3 h4 h5 h6 rf13 sz ac15 sF sB sp ou tx nw16 tr di15 ke ik) := hD
      cases h
      exact zw_i hx hb hr hlocks hP hS dX4_unpin_57
    · replace h := zf c14 h
      refine lv_iconst (v := 0) hx hb dX4_unpin_41 (by decide) ?_
      cases h
      exact zw_i hx hb hr hlocks hP hS dX4_unpin_42
def fX4_run (ac : Int32) (sF : Int32) (sB : Int32) (nw : Nat → Int32) (di : Nat → Int32) (a1 : Int32) : Option (Int32 × (Int32) × (Int32) × (Int32) × (Int32) × (Nat → Int32) × (Nat → Int32)) :=
  ob (fX4_in a1.toInt64 1 (60)) fun r1 =>
  if r1 = 0 then
    ob2 (fX4_refused 1) fun r3 rf3 =>
    if r3 = 0 then
      ob2 (fX4_remember ac nw di) fun ac5 di5 =>
      ob4 (fX4_runOn sF sB nw a1) fun r6 sF6 sB6 nw6 =>
      some (r6, rf3, ac5, sF6, sB6, nw6, di5)
    else
      some (0, rf3, ac, sF, sB, nw, di)
  else
    ob2 (fX4_refused 0) fun r7 rf7 =>
    if r7 = 0 then
      ob2 (fX4_remember ac nw di) fun ac9 di9 =>
      ob4 (fX4_runOn sF sB nw a1) fun r10 sF10 sB10 nw10 =>
      some (r10, rf7, ac9, sF10, sB10, nw10, di9)
    else
      some (0, rf7, ac, sF, sB, nw, di)
theorem mX4_run_196 : Cond.constantLong RX4 196 (60) ∈ wsX4_run := by decide +kernel
theorem mX4_run_13 : Cond.fieldLink RX4 13 "IdleDiscardsModel" "now" "[I" ∈ wsX4_run := by decide +kernel
theorem uX4_run_X4 : ∀ w ∈ wsX40, w ∈ wsX4_run := by decide +kernel
set_option maxRecDepth 100000 in
set_option maxHeartbeats 4000000 in
theorem kX4_run (l : Launch) (g : zG) (h0 h1 h2 h3 h4 h5 h6 : Nat) (rf : Int32) (sz : Int32) (ac : Int32) (sF : Int32) (sB : Int32) (sp : Int32) (ou : Int32) (tx : Nat → Int32) (nw : Nat → Int32) (tr : Nat → Int32) (di : Nat → Int32) (ke : Nat → Int32) (ik : Nat → Int32) (a1 : Int32) {r : Int32} {rf' : Int32} {ac' : Int32} {sF' : Int32} {sB' : Int32} {nw' : Nat → Int32} {di' : Nat → Int32} (h : fX4_run ac sF sB nw di a1 = some (r, rf', ac', sF', sB', nw', di')) : Mw l g yX4_run wsX4_run { frames := 9, cells := 0, slots := 0, locals := 206 } [.ref h0, .int a1] (zMA g h0 h1 h2 h3 h4 h5 h6 rf sz ac sF sB sp ou tx nw tr di ke ik) (zWi g (zMA g h0 h1 h2 h3 h4 h5 h6 rf' sz ac' sF' sB' sp ou tx nw' tr di' ke ik) r) := by
  refine zw_in (cc := cX4_run) (maxL := 2) (ret := (some .int)) (by decide) rfl (Nat.le_of_ble_eq_true rfl) ?_
  intro p e s m below meth c hx hb hr hml hts hown hlocks hK A hA hP hD hS ls hl
  replace hl : lv_has ls 2 [(0, .ref h0), (1, .int a1)] := hl
  unfold fX4_run at h
  refine lv_aload_n hx hb dX4_run_0 rfl (lv_at hl 0 rfl) ?_
  refine lv_iload_n hx hb dX4_run_1 rfl (lv_at hl 1 rfl) ?_
  refine lv_i2l (v := a1.toInt64) hx hb dX4_run_2 rfl ?_
  refine lv_lconst (v := 1) hx hb dX4_run_3 (by decide) ?_
  refine lv_ldc2 hx hb hown (hts _ mX4_run_196) dX4_run_4 ?_
  obtain ⟨r1, e1, h⟩ := zb h
  refine zS (As := [.long a1.toInt64, .long 1, .long (60)]) (rest := [.ref h0]) (zQi_q _) ⟨hx, hb, hml, hown, hts⟩ (kX4_in l g a1.toInt64 1 (60) e1) (va_cwS 3 hts gX4_run_X4_in rfl rfl rfl hdS_X4_in ⟨Nat.le_of_ble_eq_true rfl, Nat.le_of_ble_eq_true rfl⟩) hK hP [] rfl rfl hl.1 rfl (Nat.le_of_ble_eq_true rfl) ⟨Nat.zero_le _, Nat.zero_le _⟩ dX4_run_7 ?_
  refine lv_if_eq (tgt := 17) hx hb dX4_run_10 (by decide) (fun c2 => ?_) (fun c2 => ?_)
  · replace h := zt c2 h
    refine lv_iconst (v := 1) hx hb dX4_run_17 (by decide) ?_
    obtain ⟨r3, rf3, e3, h⟩ := zb2 h
    refine zVw (As := [.int 1]) (rest := []) (zWi_q g _ _) ⟨hx, hb, hml, hown, hts⟩ (kX4_refused l g h0 h1 (.ref h2) (.ref h3) (.ref h4) (.ref h5) (.ref h6) rf sz ac sF sB sp ou tx 1 e3) (cwV 1 hts gX4_run_X4_refused rfl rfl rfl hdV_X4_refused ⟨Nat.le_of_ble_eq_true rfl, Nat.le_of_ble_eq_true rfl⟩) hK hP hD hS hA [0, 1] (by decide) rfl rfl 0 rfl rfl rfl hl.1 rfl (Nat.le_of_ble_eq_true rfl) ⟨Nat.zero_le _, Nat.zero_le _⟩ dX4_run_18 (fun H locs hP hD hS => ?_)
    replace hP : zP g (zMA g h0 h1 h2 h3 h4 h5 h6 rf3 sz ac sF sB sp ou tx nw tr di ke ik) H := hP
    replace hD : va_D A (zMA g h0 h1 h2 h3 h4 h5 h6 rf3 sz ac sF sB sp ou tx nw tr di ke ik) := hD
    refine lv_if_eq (tgt := 26) hx hb dX4_run_21 (by decide) (fun c4 => ?_) (fun c4 => ?_)
    · replace h := zt c4 h
      refine lv_aload_n hx hb dX4_run_26 rfl (lv_at hl 0 rfl) ?_
      obtain ⟨ac5, di5, e5, h⟩ := zb2 h
      refine zVw (As := []) (rest := []) (zWv_q g _) ⟨hx, hb, hml, hown, hts⟩ (kX4_remember l g h0 h1 h2 h3 h4 h5 h6 rf3 sz ac sF sB sp ou tx nw tr di ke ik e5) (cwV 0 hts gX4_run_X4_remember rfl rfl rfl hdV_X4_remember ⟨Nat.le_of_ble_eq_true rfl, Nat.le_of_ble_eq_true rfl⟩) hK hP hD hS hA [0, 1, 2, 3, 4, 5, 6] (by decide) rfl rfl 0 rfl rfl rfl hl.1 rfl (Nat.le_of_ble_eq_true rfl) ⟨Nat.zero_le _, Nat.zero_le _⟩ dX4_run_27 (fun H locs hP hD hS => ?_)
      replace hP : zP g (zMA g h0 h1 h2 h3 h4 h5 h6 rf3 sz ac5 sF sB sp ou tx nw tr di5 ke ik) H := hP
      replace hD : va_D A (zMA g h0 h1 h2 h3 h4 h5 h6 rf3 sz ac5 sF sB sp ou tx nw tr di5 ke ik) := hD
      refine lv_aload_n hx hb dX4_run_30 rfl (lv_at hl 0 rfl) ?_
      refine lv_aload_n hx hb dX4_run_31 rfl (lv_at hl 0 rfl) ?_
      refine va_get (ci := 4) (v := .ref h2) (C := RX4) (T := TX4) (N := 13) hx hb hts uX4_run_X4 hown hK hP 0 rfl rfl 3 (by decide) (hts _ mX4_run_13) (fun _ h9 => h9) rfl dX4_run_32 ?_
      refine lv_iload_n hx hb dX4_run_35 rfl (lv_at hl 1 rfl) ?_
      obtain ⟨r6, sF6, sB6, nw6, e6, h⟩ := zb4 h
      refine zVw (As := [.ref h2, .int a1]) (rest := []) (zWi_q g _ _) ⟨hx, hb, hml, hown, hts⟩ (kX4_runOn l g h0 h1 h2 (.ref h2) (.ref h3) (.ref h4) (.ref h5) (.ref h6) rf3 sz ac5 sF sB sp ou tx nw a1 e6) (cwV 2 hts gX4_run_X4_runOn rfl rfl rfl hdV_X4_runOn ⟨Nat.le_of_ble_eq_true rfl, Nat.le_of_ble_eq_true rfl⟩) hK hP hD hS hA [0, 1, 2] (by decide) rfl rfl 0 rfl rfl rfl hl.1 rfl (Nat.le_of_ble_eq_true rfl) ⟨Nat.zero_le _, Nat.zero_le _⟩ dX4_run_36 (fun H locs hP hD hS => ?_)
      replace hP : zP g (zMA g h0 h1 h2 h3 h4 h5 h6 rf3 sz ac5 sF6 sB6 sp ou tx nw6 tr di5 ke ik) H := hP
      replace hD : va_D A (zMA g h0 h1 h2 h3 h4 h5 h6 rf3 sz ac5 sF6 sB6 sp ou tx nw6 tr di5 ke ik) := hD
      cases h
      exact zw_i hx hb hr hlocks hP hS dX4_run_39
    · replace h := zf c4 h
      refine lv_iconst (v := 0) hx hb dX4_run_24 (by decide) ?_
      cases h
      exact zw_i hx hb hr hlocks hP hS dX4_run_25
  · replace h := zf c2 h
    refine lv_iconst (v := 0) hx hb dX4_run_13 (by decide) ?_
    refine lv_goto (tgt := 18) hx hb dX4_run_14 (by decide) ?_
    obtain ⟨r7, rf7, e7, h⟩ := zb2 h
    refine zVw (As := [.int 0]) (rest := []) (zWi_q g _ _) ⟨hx, hb, hml, hown, hts⟩ (kX4_refused l g h0 h1 (.ref h2) (.ref h3) (.ref h4) (.ref h5) (.ref h6) rf sz ac sF sB sp ou tx 0 e7) (cwV 1 hts gX4_run_X4_refused rfl rfl rfl hdV_X4_refused ⟨Nat.le_of_ble_eq_true rfl, Nat.le_of_ble_eq_true rfl⟩) hK hP hD hS hA [0, 1] (by decide) rfl rfl 0 rfl rfl rfl hl.1 rfl (Nat.le_of_ble_eq_true rfl) ⟨Nat.zero_le _, Nat.zero_le _⟩ dX4_run_18 (fun H locs hP hD hS => ?_)
    replace hP : zP g (zMA g h0 h1 h2 h3 h4 h5 h6 rf7 sz ac sF sB sp ou tx nw tr di ke ik) H := hP
    replace hD : va_D A (zMA g h0 h1 h2 h3 h4 h5 h6 rf7 sz ac sF sB sp ou tx nw tr di ke ik) := hD
    refine lv_if_eq (tgt := 26) hx hb dX4_run_21 (by decide) (fun c8 => ?_) (fun c8 => ?_)
    · replace h := zt c8 h
      refine lv_aload_n hx hb dX4_run_26 rfl (lv_at hl 0 rfl) ?_
      obtain ⟨ac9, di9, e9, h⟩ := zb2 h
      refine zVw (As := []) (rest := []) (zWv_q g _) ⟨hx, hb, hml, hown, hts⟩ (kX4_remember l g h0 h1 h2 h3 h4 h5 h6 rf7 sz ac sF sB sp ou tx nw tr di ke ik e9) (cwV 0 hts gX4_run_X4_remember rfl rfl rfl hdV_X4_remember ⟨Nat.le_of_ble_eq_true rfl, Nat.le_of_ble_eq_true rfl⟩) hK hP hD hS hA [0, 1, 2, 3, 4, 5, 6] (by decide) rfl rfl 0 rfl rfl rfl hl.1 rfl (Nat.le_of_ble_eq_true rfl) ⟨Nat.zero_le _, Nat.zero_le _⟩ dX4_run_27 (fun H locs hP hD hS => ?_)
      replace hP : zP g (zMA g h0 h1 h2 h3 h4 h5 h6 rf7 sz ac9 sF sB sp ou tx nw tr di9 ke ik) H := hP
      replace hD : va_D A (zMA g h0 h1 h2 h3 h4 h5 h6 rf7 sz ac9 sF sB sp ou tx nw tr di9 ke ik) := hD
      refine lv_aload_n hx hb dX4_run_30 rfl (lv_at hl 0 rfl) ?_
      refine lv_aload_n hx hb dX4_run_31 rfl (lv_at hl 0 rfl) ?_
      refine va_get (ci := 4) (v := .ref h2) (C := RX4) (T := TX4) (N := 13) hx hb hts uX4_run_X4 hown hK hP 0 rfl rfl 3 (by decide) (hts _ mX4_run_13) (fun _ h9 => h9) rfl dX4_run_32 ?_
      refine lv_iload_n hx hb dX4_run_35 rfl (lv_at hl 1 rfl) ?_
      obtain ⟨r10, sF10, sB10, nw10, e10, h⟩ := zb4 h
      refine zVw (As := [.ref h2, .int a1]) (rest := []) (zWi_q g _ _) ⟨hx, hb, hml, hown, hts⟩ (kX4_runOn l g h0 h1 h2 (.ref h2) (.ref h3) (.ref h4) (.ref h5) (.ref h6) rf7 sz ac9 sF sB sp ou tx nw a1 e10) (cwV 2 hts gX4_run_X4_runOn rfl rfl rfl hdV_X4_runOn ⟨Nat.le_of_ble_eq_true rfl, Nat.le_of_ble_eq_true rfl⟩) hK hP hD hS hA [0, 1, 2] (by decide) rfl rfl 0 rfl rfl rfl hl.1 rfl (Nat.le_of_ble_eq_true rfl) ⟨Nat.zero_le _, Nat.zero_le _⟩ dX4_run_36 (fun H locs hP hD hS => ?_)
      replace hP : zP g (zMA g h0 h1 h2 h3 h4 h5 h6 rf7 sz ac9 sF10 sB10 sp ou tx nw10 tr di9 ke ik) H := hP
      replace hD : va_D A (zMA g h0 h1 h2 h3 h4 h5 h6 rf7 sz ac9 sF10 sB10 sp ou tx nw10 tr di9 ke ik) := hD
      cases h
      exact zw_i hx hb hr hlocks hP hS dX4_run_39
    · replace h := zf c8 h
      refine lv_iconst (v := 0) hx hb dX4_run_24 (by decide) ?_
      cases h
      exact zw_i hx hb hr hlocks hP hS dX4_run_25
theorem hdV_X4_flushOn : yX4_flushOn.cls = RX4 ∧ yX4_flushOn.cls ≠ "java/lang/invoke/MethodHandle" ∧ yX4_flushOn.cls ≠ "java/lang/invoke/VarHandle" ∧ (parseMethodDescriptor yX4_flushOn.desc).map (fun d => d.parameters.length) = some 1 := by decide +kernel
def fX4_flush (ac : Int32) (sF : Int32) (sB : Int32) (nw : Nat → Int32) (di : Nat → Int32) : Option (Int32 × (Int32) × (Int32) × (Int32) × (Int32) × (Nat → Int32) × (Nat → Int32)) :=
  ob2 (fX4_remember ac nw di) fun ac1 di1 =>
  ob4 (fX4_flushOn sF sB nw) fun r2 sF2 sB2 nw2 =>
  some (r2, 0, ac1, sF2, sB2, nw2, di1)
theorem mX4_flush_33 : Cond.fieldLink RX4 33 "IdleDiscardsModel" "refusal" "I" ∈ wsX4_flush := by decide +kernel
theorem uX4_flush_X4 : ∀ w ∈ wsX40, w ∈ wsX4_flush := by decide +kernel
theorem mX4_flush_13 : Cond.fieldLink RX4 13 "IdleDiscardsModel" "now" "[I" ∈ wsX4_flush := by decide +kernel
set_option maxRecDepth 100000 in
set_option maxHeartbeats 4000000 in
theorem kX4_flush (l : Launch) (g : zG) (h0 h1 h2 h3 h4 h5 h6 : Nat) (rf : Int32) (sz : Int32) (ac : Int32) (sF : Int32) (sB : Int32) (sp : Int32) (ou : Int32) (tx : Nat → Int32) (nw : Nat → Int32) (tr : Nat → Int32) (di : Nat → Int32) (ke : Nat → Int32) (ik : Nat → Int32) {r : Int32} {rf' : Int32} {ac' : Int32} {sF' : Int32} {sB' : Int32} {nw' : Nat → Int32} {di' : Nat → Int32} (h : fX4_flush ac sF sB nw di = some (r, rf', ac', sF', sB', nw', di')) : Mw l g yX4_flush wsX4_flush { frames := 8, cells := 0, slots := 0, locals := 180 } [.ref h0] (zMA g h0 h1 h2 h3 h4 h5 h6 rf sz ac sF sB sp ou tx nw tr di ke ik) (zWi g (zMA g h0 h1 h2 h3 h4 h5 h6 rf' sz ac' sF' sB' sp ou tx nw' tr di' ke ik) r) := by
  refine zw_in (cc := cX4_flush) (maxL := 1) (ret := (some .int)) (by decide) rfl (Nat.le_of_ble_eq_true rfl) ?_
  intro p e s m below meth c hx hb hr hml hts hown hlocks hK A hA hP hD hS ls hl
  replace hl : lv_has ls 1 [(0, .ref h0)] := hl
  unfold fX4_flush at h
  refine lv_aload_n hx hb dX4_flush_0 rfl (lv_at hl 0 rfl) ?_
  refine lv_iconst (v := 0) hx hb dX4_flush_1 (by decide) ?_
  refine va_put (ci := 4) (v := .int 0) (ty := .int) (C := RX4) (T := TX4) (N := 13) hx hb hts uX4_flush_X4 tyX4 tyX4_ok nmX4 hown hK hP hD hS 0 rfl rfl 0 (by decide) (hts _ mX4_flush_33) (fun _ h9 => h9) rfl (by decide +kernel) rfl rfl (Nat.le_of_ble_eq_true rfl) dX4_flush_2 (fun H locs hP hD hS => ?_)
  replace hP : zP g (zMA g h0 h1 h2 h3 h4 h5 h6 0 sz ac sF sB sp ou tx nw tr di ke ik) H := hP
  replace hD : va_D A (zMA g h0 h1 h2 h3 h4 h5 h6 0 sz ac sF sB sp ou tx nw tr di ke ik) := hD
  refine lv_aload_n hx hb dX4_flush_5 rfl (lv_at hl 0 rfl) ?_
  obtain ⟨ac1, di1, e1, h⟩ := zb2 h
  refine zVw (As := []) (rest := []) (zWv_q g _) ⟨hx, hb, hml, hown, hts⟩ (kX4_remember l g h0 h1 h2 h3 h4 h5 h6 0 sz ac sF sB sp ou tx nw tr di ke ik e1) (cwV 0 hts gX4_flush_X4_remember rfl rfl rfl hdV_X4_remember ⟨Nat.le_of_ble_eq_true rfl, Nat.le_of_ble_eq_true rfl⟩) hK hP hD hS hA [0, 1, 2, 3, 4, 5, 6] (by decide) rfl rfl 0 rfl rfl rfl hl.1 rfl (Nat.le_of_ble_eq_true rfl) ⟨Nat.zero_le _, Nat.zero_le _⟩ dX4_flush_6 (fun H locs hP hD hS => ?_)
  replace hP : zP g (zMA g h0 h1 h2 h3 h4 h5 h6 0 sz ac1 sF sB sp ou tx nw tr di1 ke ik) H := hP
  replace hD : va_D A (zMA g h0 h1 h2 h3 h4 h5 h6 0 sz ac1 sF sB sp ou tx nw tr di1 ke ik) := hD
  refine lv_aload_n hx hb dX4_flush_9 rfl (lv_at hl 0 rfl) ?_
  refine lv_aload_n hx hb dX4_flush_10 rfl (lv_at hl 0 rfl) ?_
  refine va_get (ci := 4) (v := .ref h2) (C := RX4) (T := TX4) (N := 13) hx hb hts uX4_flush_X4 hown hK hP 0 rfl rfl 3 (by decide) (hts _ mX4_flush_13) (fun _ h9 => h9) rfl dX4_flush_11 ?_
  obtain ⟨r2, sF2, sB2, nw2, e2, h⟩ := zb4 h
  refine zVw (As := [.ref h2]) (rest := []) (zWi_q g _ _) ⟨hx, hb, hml, hown, hts⟩ (kX4_flushOn l g h0 h1 h2 (.ref h2) (.ref h3) (.ref h4) (.ref h5) (.ref h6) 0 sz ac1 sF sB sp ou tx nw e2) (cwV 1 hts gX4_flush_X4_flushOn rfl rfl rfl hdV_X4_flushOn ⟨Nat.le_of_ble_eq_true rfl, Nat.le_of_ble_eq_true rfl⟩) hK hP hD hS hA [0, 1, 2] (by decide) rfl rfl 0 rfl rfl rfl hl.1 rfl (Nat.le_of_ble_eq_true rfl) ⟨Nat.zero_le _, Nat.zero_le _⟩ dX4_flush_14 (fun H locs hP hD hS => ?_)
  replace hP : zP g (zMA g h0 h1 h2 h3 h4 h5 h6 0 sz ac1 sF2 sB2 sp ou tx nw2 tr di1 ke ik) H := hP
  replace hD : va_D A (zMA g h0 h1 h2 h3 h4 h5 h6 0 sz ac1 sF2 sB2 sp ou tx nw2 tr di1 ke ik) := hD
  cases h
  exact zw_i hx hb hr hlocks hP hS dX4_flush_17
def fX4_set (ac : Int32) (nw : Nat → Int32) (di : Nat → Int32) (a1 : Int32) (a2 : Int32) : Option (Int32 × (Int32) × (Int32) × (Nat → Int32) × (Nat → Int32)) :=
  ob (fX4_isSetting a1 a2) fun r1 =>
  if r1 = 0 then
    ob2 (fX4_refused 1) fun r3 rf3 =>
    if r3 = 0 then
      ob2 (fX4_remember ac nw di) fun ac5 di5 =>
      ob2 (fX4_lay nw a1 a2) fun r6 nw6 =>
      some (r6, rf3, ac5, nw6, di5)
    else
      some (0, rf3, ac, nw, di)
  else
    ob2 (fX4_refused 0) fun r7 rf7 =>
    if r7 = 0 then
      ob2 (fX4_remember ac nw di) fun ac9 di9 =>
      ob2 (fX4_lay nw a1 a2) fun r10 nw10 =>
      some (r10, rf7, ac9, nw10, di9)
    else
      some (0, rf7, ac, nw, di)
theorem mX4_set_13 : Cond.fieldLink RX4 13 "IdleDiscardsModel" "now" "[I" ∈ wsX4_set := by decide +kernel
theorem uX4_set_X4 : ∀ w ∈ wsX40, w ∈ wsX4_set := by decide +kernel
set_option maxRecDepth 100000 in
set_option maxHeartbeats 4000000 in
theorem kX4_set (l : Launch) (g : zG) (h0 h1 h2 h3 h4 h5 h6 : Nat) (rf : Int32) (sz : Int32) (ac : Int32) (sF : Int32) (sB : Int32) (sp : Int32) (ou : Int32) (tx : Nat → Int32) (nw : Nat → Int32) (tr : Nat → Int32) (di : Nat → Int32) (ke : Nat → Int32) (ik : Nat → Int32) (a1 : Int32) (a2 : Int32) {r : Int32} {rf' : Int32} {ac' : Int32} {nw' : Nat → Int32} {di' : Nat → Int32} (h : fX4_set ac nw di a1 a2 = some (r, rf', ac', nw', di')) : Mw l g yX4_set wsX4_set { frames := 2, cells := 0, slots := 0, locals := 46 } [.ref h0, .int a1, .int a2] (zMA g h0 h1 h2 h3 h4 h5 h6 rf sz ac sF sB sp ou tx nw tr di ke ik) (zWi g (zMA g h0 h1 h2 h3 h4 h5 h6 rf' sz ac' sF sB sp ou tx nw' tr di' ke ik) r) := by
  refine zw_in (cc := cX4_set) (maxL := 3) (ret := (some .int)) (by decide) rfl (Nat.le_of_ble_eq_true rfl) ?_
  intro p e s m below meth c hx hb hr hml hts hown hlocks hK A hA hP hD hS ls hl
  replace hl : lv_has ls 3 [(0, .ref h0), (1, .int a1), (2, .int a2)] := hl
  unfold fX4_set at h
  refine lv_aload_n hx hb dX4_set_0 rfl (lv_at hl 0 rfl) ?_
  refine lv_iload_n hx hb dX4_set_1 rfl (lv_at hl 1 rfl) ?_
  refine lv_iload_n hx hb dX4_set_2 rfl (lv_at hl 2 rfl) ?_
  obtain ⟨r1, e1, h⟩ := zb h
  refine zS (As := [.int a1, .int a2]) (rest := [.ref h0]) (zQi_q _) ⟨hx, hb, hml, hown, hts⟩ (kX4_isSetting l g a1 a2 e1) (va_cwS 2 hts gX4_set_X4_isSetting rfl rfl rfl hdS_X4_isSetting ⟨Nat.le_of_ble_eq_true rfl, Nat.le_of_ble_eq_true rfl⟩) hK hP [] rfl rfl hl.1 rfl (Nat.le_of_ble_eq_true rfl) ⟨Nat.zero_le _, Nat.zero_le _⟩ dX4_set_3 ?_
  refine lv_if_eq (tgt := 13) hx hb dX4_set_6 (by decide) (fun c2 => ?_) (fun c2 => ?_)
  · replace h := zt c2 h
    refine lv_iconst (v := 1) hx hb dX4_set_13 (by decide) ?_
    obtain ⟨r3, rf3, e3, h⟩ := zb2 h
    refine zVw (As := [.int 1]) (rest := []) (zWi_q g _ _) ⟨hx, hb, hml, hown, hts⟩ (kX4_refused l g h0 h1 (.ref h2) (.ref h3) (.ref h4) (.ref h5) (.ref h6) rf sz ac sF sB sp ou tx 1 e3) (cwV 1 hts gX4_set_X4_refused rfl rfl rfl hdV_X4_refused ⟨Nat.le_of_ble_eq_true rfl, Nat.le_of_ble_eq_true rfl⟩) hK hP hD hS hA [0, 1] (by decide) rfl rfl 0 rfl rfl rfl hl.1 rfl (Nat.le_of_ble_eq_true rfl) ⟨Nat.zero_le _, Nat.zero_le _⟩ dX4_set_14 (fun H locs hP hD hS => ?_)
    replace hP : zP g (zMA g h0 h1 h2 h3 h4 h5 h6 rf3 sz ac sF sB sp ou tx nw tr di ke ik) H := hP
    replace hD : va_D A (zMA g h0 h1 h2 h3 h4 h5 h6 rf3 sz ac sF sB sp ou tx nw tr di ke ik) := hD
    refine lv_if_eq (tgt := 22) hx hb dX4_set_17 (by decide) (fun c4 => ?_) (fun c4 => ?_)
    · replace h := zt c4 h
      refine lv_aload_n hx hb dX4_set_22 rfl (lv_at hl 0 rfl) ?_
      obtain ⟨ac5, di5, e5, h⟩ := zb2 h
      refine zVw (As := []) (rest := []) (zWv_q g _) ⟨hx, hb, hml, hown, hts⟩ (kX4_remember l g h0 h1 h2 h3 h4 h5 h6 rf3 sz ac sF sB sp ou tx nw tr di ke ik e5) (cwV 0 hts gX4_set_X4_remember rfl rfl rfl hdV_X4_remember ⟨Nat.le_of_ble_eq_true rfl, Nat.le_of_ble_eq_true rfl⟩) hK hP hD hS hA [0, 1, 2, 3, 4, 5, 6] (by decide) rfl rfl 0 rfl rfl rfl hl.1 rfl (Nat.le_of_ble_eq_true rfl) ⟨Nat.zero_le _, Nat.zero_le _⟩ dX4_set_23 (fun H locs hP hD hS => ?_)
      replace hP : zP g (zMA g h0 h1 h2 h3 h4 h5 h6 rf3 sz ac5 sF sB sp ou tx nw tr di5 ke ik) H := hP
      replace hD : va_D A (zMA g h0 h1 h2 h3 h4 h5 h6 rf3 sz ac5 sF sB sp ou tx nw tr di5 ke ik) := hD
      refine lv_aload_n hx hb dX4_set_26 rfl (lv_at hl 0 rfl) ?_
      refine va_get (ci := 4) (v := .ref h2) (C := RX4) (T := TX4) (N := 13) hx hb hts uX4_set_X4 hown hK hP 0 rfl rfl 3 (by decide) (hts _ mX4_set_13) (fun _ h9 => h9) rfl dX4_set_27 ?_
      refine lv_iload_n hx hb dX4_set_30 rfl (lv_at hl 1 rfl) ?_
      refine lv_iload_n hx hb dX4_set_31 rfl (lv_at hl 2 rfl) ?_
      obtain ⟨r6, nw6, e6, h⟩ := zb2 h
      refine zSw (As := [.ref h2, .int a1, .int a2]) (rest := []) (zWi_q g _ _) ⟨hx, hb, hml, hown, hts⟩ (kX4_lay l g h2 nw a1 a2 e6) (va_cwS 3 hts gX4_set_X4_lay rfl rfl rfl hdS_X4_lay ⟨Nat.le_of_ble_eq_true rfl, Nat.le_of_ble_eq_true rfl⟩) hK hP hD hS hA [2] (by decide) rfl rfl rfl hl.1 rfl (Nat.le_of_ble_eq_true rfl) ⟨Nat.zero_le _, Nat.zero_le _⟩ dX4_set_32 (fun H locs hP hD hS => ?_)
      replace hP : zP g (zMA g h0 h1 h2 h3 h4 h5 h6 rf3 sz ac5 sF sB sp ou tx nw6 tr di5 ke ik) H := hP
      replace hD : va_D A (zMA g h0 h1 h2 h3 h4 h5 h6 rf3 sz ac5 sF sB sp ou tx nw6 tr di5 ke ik) := hD
      cases h
      exact zw_i hx hb hr hlocks hP hS dX4_set_35
    · replace h := zf c4 h
      refine lv_iconst (v := 0) hx hb dX4_set_20 (by decide) ?_
      cases h
      exact zw_i hx hb hr hlocks hP hS dX4_set_21
  · replace h := zf c2 h
    refine lv_iconst (v := 0) hx hb dX4_set_9 (by decide) ?_
    refine lv_goto (tgt := 14) hx hb dX4_set_10 (by decide) ?_
    obtain ⟨r7, rf7, e7, h⟩ := zb2 h
    refine zVw (As := [.int 0]) (rest := []) (zWi_q g _ _) ⟨hx, hb, hml, hown, hts⟩ (kX4_refused l g h0 h1 (.ref h2) (.ref h3) (.ref h4) (.ref h5) (.ref h6) rf sz ac sF sB sp ou tx 0 e7) (cwV 1 hts gX4_set_X4_refused rfl rfl rfl hdV_X4_refused ⟨Nat.le_of_ble_eq_true rfl, Nat.le_of_ble_eq_true rfl⟩) hK hP hD hS hA [0, 1] (by decide) rfl rfl 0 rfl rfl rfl hl.1 rfl (Nat.le_of_ble_eq_true rfl) ⟨Nat.zero_le _, Nat.zero_le _⟩ dX4_set_14 (fun H locs hP hD hS => ?_)
    replace hP : zP g (zMA g h0 h1 h2 h3 h4 h5 h6 rf7 sz ac sF sB sp ou tx nw tr di ke ik) H := hP
    replace hD : va_D A (zMA g h0 h1 h2 h3 h4 h5 h6 rf7 sz ac sF sB sp ou tx nw tr di ke ik) := hD
    refine lv_if_eq (tgt := 22) hx hb dX4_set_17 (by decide) (fun c8 => ?_) (fun c8 => ?_)
    · replace h := zt c8 h
      refine lv_aload_n hx hb dX4_set_22 rfl (lv_at hl 0 rfl) ?_
      obtain ⟨ac9, di9, e9, h⟩ := zb2 h
      refine zVw (As := []) (rest := []) (zWv_q g _) ⟨hx, hb, hml, hown, hts⟩ (kX4_remember l g h0 h1 h2 h3 h4 h5 h6 rf7 sz ac sF sB sp ou tx nw tr di ke ik e9) (cwV 0 hts gX4_set_X4_remember rfl rfl rfl hdV_X4_remember ⟨Nat.le_of_ble_eq_true rfl, Nat.le_of_ble_eq_true rfl⟩) hK hP hD hS hA [0, 1, 2, 3, 4, 5, 6] (by decide) rfl rfl 0 rfl rfl rfl hl.1 rfl (Nat.le_of_ble_eq_true rfl) ⟨Nat.zero_le _, Nat.zero_le _⟩ dX4_set_23 (fun H locs hP hD hS => ?_)
      replace hP : zP g (zMA g h0 h1 h2 h3 h4 h5 h6 rf7 sz ac9 sF sB sp ou tx nw tr di9 ke ik) H := hP
      replace hD : va_D A (zMA g h0 h1 h2 h3 h4 h5 h6 rf7 sz ac9 sF sB sp ou tx nw tr di9 ke ik) := hD
      refine lv_aload_n hx hb dX4_set_26 rfl (lv_at hl 0 rfl) ?_
      refine va_get (ci := 4) (v := .ref h2) (C := RX4) (T := TX4) (N := 13) hx hb hts uX4_set_X4 hown hK hP 0 rfl rfl 3 (by decide) (hts _ mX4_set_13) (fun _ h9 => h9) rfl dX4_set_27 ?_
      refine lv_iload_n hx hb dX4_set_30 rfl (lv_at hl 1 rfl) ?_
      refine lv_iload_n hx hb dX4_set_31 rfl (lv_at hl 2 rfl) ?_
      obtain ⟨r10, nw10, e10, h⟩ := zb2 h
      refine zSw (As := [.ref h2, .int a1, .int a2]) (rest := []) (zWi_q g _ _) ⟨hx, hb, hml, hown, hts⟩ (kX4_lay l g h2 nw a1 a2 e10) (va_cwS 3 hts gX4_set_X4_lay rfl rfl rfl hdS_X4_lay ⟨Nat.le_of_ble_eq_true rfl, Nat.le_of_ble_eq_true rfl⟩) hK hP hD hS hA [2] (by decide) rfl rfl rfl hl.1 rfl (Nat.le_of_ble_eq_true rfl) ⟨Nat.zero_le _, Nat.zero_le _⟩ dX4_set_32 (fun H locs hP hD hS => ?_)
      replace hP : zP g (zMA g h0 h1 h2 h3 h4 h5 h6 rf7 sz ac9 sF sB sp ou tx nw10 tr di9 ke ik) H := hP
      replace hD : va_D A (zMA g h0 h1 h2 h3 h4 h5 h6 rf7 sz ac9 sF sB sp ou tx nw10 tr di9 ke ik) := hD
      cases h
      exact zw_i hx hb hr hlocks hP hS dX4_set_35
    · replace h := zf c8 h
      refine lv_iconst (v := 0) hx hb dX4_set_20 (by decide) ?_
      cases h
      exact zw_i hx hb hr hlocks hP hS dX4_set_21
def fX4_undo (ac : Int32) (nw : Nat → Int32) (di : Nat → Int32) : Option (Int32 × (Int32) × (Int32) × (Nat → Int32)) :=
  if ac = 0 then
    ob2 (fX4_refused 1) fun r5 rf5 =>
    if r5 = 0 then
      ob (fX4_copyState 10990 785 di nw (785 * (ac - 1)) 0) fun nw7 =>
      some ((ac - 1), rf5, (ac - 1), nw7)
    else
      some (0, rf5, ac, nw)
  else
    ob2 (fX4_refused 0) fun r2 rf2 =>
    if r2 = 0 then
      ob (fX4_copyState 10990 785 di nw (785 * (ac - 1)) 0) fun nw4 =>
      some ((ac - 1), rf2, (ac - 1), nw4)
    else
      some (0, rf2, ac, nw)
theorem mX4_undo_172 : Cond.fieldLink RX4 172 "IdleDiscardsModel" "acts" "I" ∈ wsX4_undo := by decide +kernel
theorem uX4_undo_X4 : ∀ w ∈ wsX40, w ∈ wsX4_undo := by decide +kernel
theorem mX4_undo_19 : Cond.fieldLink RX4 19 "IdleDiscardsModel" "diary" "[I" ∈ wsX4_undo := by decide +kernel
theorem mX4_undo_13 : Cond.fieldLink RX4 13 "IdleDiscardsModel" "now" "[I" ∈ wsX4_undo := by decide +kernel
set_option maxRecDepth 100000 in
set_option maxHeartbeats 4000000 in
theorem kX4_undo (l : Launch) (g : zG) (h0 h1 h2 h3 h4 h5 h6 : Nat) (rf : Int32) (sz : Int32) (ac : Int32) (sF : Int32) (sB : Int32) (sp : Int32) (ou : Int32) (tx : Nat → Int32) (nw : Nat → Int32) (tr : Nat → Int32) (di : Nat → Int32) (ke : Nat → Int32) (ik : Nat → Int32) {r : Int32} {rf' : Int32} {ac' : Int32} {nw' : Nat → Int32} (h : fX4_undo ac nw di = some (r, rf', ac', nw')) : Mw l g yX4_undo wsX4_undo { frames := 1, cells := 0, slots := 0, locals := 24 } [.ref h0] (zMA g h0 h1 h2 h3 h4 h5 h6 rf sz ac sF sB sp ou tx nw tr di ke ik) (zWi g (zMA g h0 h1 h2 h3 h4 h5 h6 rf' sz ac' sF sB sp ou tx nw' tr di ke ik) r) := by
  refine zw_in (cc := cX4_undo) (maxL := 1) (ret := (some .int)) (by decide) rfl (Nat.le_of_ble_eq_true rfl) ?_
  intro p e s m below meth c hx hb hr hml hts hown hlocks hK A hA hP hD hS ls hl
  replace hl : lv_has ls 1 [(0, .ref h0)] := hl
  unfold fX4_undo at h
  refine lv_aload_n hx hb dX4_undo_0 rfl (lv_at hl 0 rfl) ?_
  refine lv_aload_n hx hb dX4_undo_1 rfl (lv_at hl 0 rfl) ?_
  refine va_get (ci := 4) (v := .int ac) (C := RX4) (T := TX4) (N := 13) hx hb hts uX4_undo_X4 hown hK hP 0 rfl rfl 6 (by decide) (hts _ mX4_undo_172) (fun _ h9 => h9) rfl dX4_undo_2 ?_
  refine lv_if_ne (tgt := 12) hx hb dX4_undo_5 (by decide) (fun c1 => ?_) (fun c1 => ?_)
  · replace h := zf c1 h
    refine lv_iconst (v := 0) hx hb dX4_undo_12 (by decide) ?_
    obtain ⟨r2, rf2, e2, h⟩ := zb2 h
    refine zVw (As := [.int 0]) (rest := []) (zWi_q g _ _) ⟨hx, hb, hml, hown, hts⟩ (kX4_refused l g h0 h1 (.ref h2) (.ref h3) (.ref h4) (.ref h5) (.ref h6) rf sz ac sF sB sp ou tx 0 e2) (cwV 1 hts gX4_undo_X4_refused rfl rfl rfl hdV_X4_refused ⟨Nat.le_of_ble_eq_true rfl, Nat.le_of_ble_eq_true rfl⟩) hK hP hD hS hA [0, 1] (by decide) rfl rfl 0 rfl rfl rfl hl.1 rfl (Nat.le_of_ble_eq_true rfl) ⟨Nat.zero_le _, Nat.zero_le _⟩ dX4_undo_13 (fun H locs hP hD hS => ?_)
    replace hP : zP g (zMA g h0 h1 h2 h3 h4 h5 h6 rf2 sz ac sF sB sp ou tx nw tr di ke ik) H := hP
    replace hD : va_D A (zMA g h0 h1 h2 h3 h4 h5 h6 rf2 sz ac sF sB sp ou tx nw tr di ke ik) := hD
    refine lv_if_eq (tgt := 21) hx hb dX4_undo_16 (by decide) (fun c3 => ?_) (fun c3 => ?_)
    · replace h := zt c3 h
      refine lv_aload_n hx hb dX4_undo_21 rfl (lv_at hl 0 rfl) ?_
      refine lv_dup hx hb dX4_undo_22 rfl ?_
      refine va_get (ci := 4) (v := .int ac) (C := RX4) (T := TX4) (N := 13) hx hb hts uX4_undo_X4 hown hK hP 0 rfl rfl 6 (by decide) (hts _ mX4_undo_172) (fun _ h9 => h9) rfl dX4_undo_23 ?_
      refine lv_iconst (v := 1) hx hb dX4_undo_26 (by decide) ?_
      refine lv_isub hx hb dX4_undo_27 ?_
      refine va_put (ci := 4) (v := .int (ac - 1)) (ty := .int) (C := RX4) (T := TX4) (N := 13) hx hb hts uX4_undo_X4 tyX4 tyX4_ok nmX4 hown hK hP hD hS 0 rfl rfl 6 (by decide) (hts _ mX4_undo_172) (fun _ h9 => h9) rfl (by decide +kernel) rfl rfl (Nat.le_of_ble_eq_true rfl) dX4_undo_28 (fun H locs hP hD hS => ?_)
      replace hP : zP g (zMA g h0 h1 h2 h3 h4 h5 h6 rf2 sz (ac - 1) sF sB sp ou tx nw tr di ke ik) H := hP
      replace hD : va_D A (zMA g h0 h1 h2 h3 h4 h5 h6 rf2 sz (ac - 1) sF sB sp ou tx nw tr di ke ik) := hD
      refine lv_aload_n hx hb dX4_undo_31 rfl (lv_at hl 0 rfl) ?_
      refine va_get (ci := 4) (v := .ref h4) (C := RX4) (T := TX4) (N := 13) hx hb hts uX4_undo_X4 hown hK hP 0 rfl rfl 5 (by decide) (hts _ mX4_undo_19) (fun _ h9 => h9) rfl dX4_undo_32 ?_
      refine lv_sipush (v := 785) hx hb dX4_undo_35 (by decide) ?_
      refine lv_aload_n hx hb dX4_undo_38 rfl (lv_at hl 0 rfl) ?_
      refine va_get (ci := 4) (v := .int (ac - 1)) (C := RX4) (T := TX4) (N := 13) hx hb hts uX4_undo_X4 hown hK hP 0 rfl rfl 6 (by decide) (hts _ mX4_undo_172) (fun _ h9 => h9) rfl dX4_undo_39 ?_
      refine lv_imul hx hb dX4_undo_42 ?_
      refine lv_aload_n hx hb dX4_undo_43 rfl (lv_at hl 0 rfl) ?_
      refine va_get (ci := 4) (v := .ref h2) (C := RX4) (T := TX4) (N := 13) hx hb hts uX4_undo_X4 hown hK hP 0 rfl rfl 3 (by decide) (hts _ mX4_undo_13) (fun _ h9 => h9) rfl dX4_undo_44 ?_
      refine lv_iconst (v := 0) hx hb dX4_undo_47 (by decide) ?_
      obtain ⟨nw4, e4, h⟩ := zb h
      refine zSw (As := [.ref h4, .int (785 * (ac - 1)), .ref h2, .int 0]) (rest := []) (zWv_q g _) ⟨hx, hb, hml, hown, hts⟩ (kX4_copyState l g 10990 785 h4 h2 di nw (785 * (ac - 1)) 0 e4) (va_cwS 4 hts gX4_undo_X4_copyState rfl rfl rfl hdS_X4_copyState ⟨Nat.le_of_ble_eq_true rfl, Nat.le_of_ble_eq_true rfl⟩) hK hP hD hS hA [4, 2] (by decide) rfl rfl rfl hl.1 rfl (Nat.le_of_ble_eq_true rfl) ⟨Nat.zero_le _, Nat.zero_le _⟩ dX4_undo_48 (fun H locs hP hD hS => ?_)
      replace hP : zP g (zMA g h0 h1 h2 h3 h4 h5 h6 rf2 sz (ac - 1) sF sB sp ou tx nw4 tr di ke ik) H := hP
      replace hD : va_D A (zMA g h0 h1 h2 h3 h4 h5 h6 rf2 sz (ac - 1) sF sB sp ou tx nw4 tr di ke ik) := hD
      refine lv_aload_n hx hb dX4_undo_51 rfl (lv_at hl 0 rfl) ?_
      refine va_get (ci := 4) (v := .int (ac - 1)) (C := RX4) (T := TX4) (N := 13) hx hb hts uX4_undo_X4 hown hK hP 0 rfl rfl 6 (by decide) (hts _ mX4_undo_172) (fun _ h9 => h9) rfl dX4_undo_52 ?_
      cases h
      exact zw_i hx hb hr hlocks hP hS dX4_undo_55
    · replace h := zf c3 h
      refine lv_iconst (v := 0) hx hb dX4_undo_19 (by decide) ?_
      cases h
      exact zw_i hx hb hr hlocks hP hS dX4_undo_20
  · replace h := zt c1 h
    refine lv_iconst (v := 1) hx hb dX4_undo_8 (by decide) ?_
    refine lv_goto (tgt := 13) hx hb dX4_undo_9 (by decide) ?_
    obtain ⟨r5, rf5, e5, h⟩ := zb2 h
    refine zVw (As := [.int 1]) (rest := []) (zWi_q g _ _) ⟨hx, hb, hml, hown, hts⟩ (kX4_refused l g h0 h1 (.ref h2) (.ref h3) (.ref h4) (.ref h5) (.ref h6) rf sz ac sF sB sp ou tx 1 e5) (cwV 1 hts gX4_undo_X4_refused rfl rfl rfl hdV_X4_refused ⟨Nat.le_of_ble_eq_true rfl, Nat.le_of_ble_eq_true rfl⟩) hK hP hD hS hA [0, 1] (by decide) rfl rfl 0 rfl rfl rfl hl.1 rfl (Nat.le_of_ble_eq_true rfl) ⟨Nat.zero_le _, Nat.zero_le _⟩ dX4_undo_13 (fun H locs hP hD hS => ?_)
    replace hP : zP g (zMA g h0 h1 h2 h3 h4 h5 h6 rf5 sz ac sF sB sp ou tx nw tr di ke ik) H := hP
    replace hD : va_D A (zMA g h0 h1 h2 h3 h4 h5 h6 rf5 sz ac sF sB sp ou tx nw tr di ke ik) := hD
    refine lv_if_eq (tgt := 21) hx hb dX4_undo_16 (by decide) (fun c6 => ?_) (fun c6 => ?_)
    · replace h := zt c6 h
      refine lv_aload_n hx hb dX4_undo_21 rfl (lv_at hl 0 rfl) ?_
      refine lv_dup hx hb dX4_undo_22 rfl ?_
      refine va_get (ci := 4) (v := .int ac) (C := RX4) (T := TX4) (N := 13) hx hb hts uX4_undo_X4 hown hK hP 0 rfl rfl 6 (by decide) (hts _ mX4_undo_172) (fun _ h9 => h9) rfl dX4_undo_23 ?_
      refine lv_iconst (v := 1) hx hb dX4_undo_26 (by decide) ?_
      refine lv_isub hx hb dX4_undo_27 ?_
      refine va_put (ci := 4) (v := .int (ac - 1)) (ty := .int) (C := RX4) (T := TX4) (N := 13) hx hb hts uX4_undo_X4 tyX4 tyX4_ok nmX4 hown hK hP hD hS 0 rfl rfl 6 (by decide) (hts _ mX4_undo_172) (fun _ h9 => h9) rfl (by decide +kernel) rfl rfl (Nat.le_of_ble_eq_true rfl) dX4_undo_28 (fun H locs hP hD hS => ?_)
      replace hP : zP g (zMA g h0 h1 h2 h3 h4 h5 h6 rf5 sz (ac - 1) sF sB sp ou tx nw tr di ke ik) H := hP
      replace hD : va_D A (zMA g h0 h1 h2 h3 h4 h5 h6 rf5 sz (ac - 1) sF sB sp ou tx nw tr di ke ik) := hD
      refine lv_aload_n hx hb dX4_undo_31 rfl (lv_at hl 0 rfl) ?_
      refine va_get (ci := 4) (v := .ref h4) (C := RX4) (T := TX4) (N := 13) hx hb hts uX4_undo_X4 hown hK hP 0 rfl rfl 5 (by decide) (hts _ mX4_undo_19) (fun _ h9 => h9) rfl dX4_undo_32 ?_
      refine lv_sipush (v := 785) hx hb dX4_undo_35 (by decide) ?_
      refine lv_aload_n hx hb dX4_undo_38 rfl (lv_at hl 0 rfl) ?_
      refine va_get (ci := 4) (v := .int (ac - 1)) (C := RX4) (T := TX4) (N := 13) hx hb hts uX4_undo_X4 hown hK hP 0 rfl rfl 6 (by decide) (hts _ mX4_undo_172) (fun _ h9 => h9) rfl dX4_undo_39 ?_
      refine lv_imul hx hb dX4_undo_42 ?_
      refine lv_aload_n hx hb dX4_undo_43 rfl (lv_at hl 0 rfl) ?_
      refine va_get (ci := 4) (v := .ref h2) (C := RX4) (T := TX4) (N := 13) hx hb hts uX4_undo_X4 hown hK hP 0 rfl rfl 3 (by decide) (hts _ mX4_undo_13) (fun _ h9 => h9) rfl dX4_undo_44 ?_
      refine lv_iconst (v := 0) hx hb dX4_undo_47 (by decide) ?_
      obtain ⟨nw7, e7, h⟩ := zb h
      refine zSw (As := [.ref h4, .int (785 * (ac - 1)), .ref h2, .int 0]) (rest := []) (zWv_q g _) ⟨hx, hb, hml, hown, hts⟩ (kX4_copyState l g 10990 785 h4 h2 di nw (785 * (ac - 1)) 0 e7) (va_cwS 4 hts gX4_undo_X4_copyState rfl rfl rfl hdS_X4_copyState ⟨Nat.le_of_ble_eq_true rfl, Nat.le_of_ble_eq_true rfl⟩) hK hP hD hS hA [4, 2] (by decide) rfl rfl rfl hl.1 rfl (Nat.le_of_ble_eq_true rfl) ⟨Nat.zero_le _, Nat.zero_le _⟩ dX4_undo_48 (fun H locs hP hD hS => ?_)
      replace hP : zP g (zMA g h0 h1 h2 h3 h4 h5 h6 rf5 sz (ac - 1) sF sB sp ou tx nw7 tr di ke ik) H := hP
      replace hD : va_D A (zMA g h0 h1 h2 h3 h4 h5 h6 rf5 sz (ac - 1) sF sB sp ou tx nw7 tr di ke ik) := hD
      refine lv_aload_n hx hb dX4_undo_51 rfl (lv_at hl 0 rfl) ?_
      refine va_get (ci := 4) (v := .int (ac - 1)) (C := RX4) (T := TX4) (N := 13) hx hb hts uX4_undo_X4 hown hK hP 0 rfl rfl 6 (by decide) (hts _ mX4_undo_172) (fun _ h9 => h9) rfl dX4_undo_52 ?_
      cases h
      exact zw_i hx hb hr hlocks hP hS dX4_undo_55
    · replace h := zf c6 h
      refine lv_iconst (v := 0) hx hb dX4_undo_19 (by decide) ?_
      cases h
      exact zw_i hx hb hr hlocks hP hS dX4_undo_20
def fX4_next_41  : Nat → Int32 → Int32 → (Int32) → (Int32) → (Int32) → (Nat → Int32) → Option (Int32 × (Int32) × (Int32) × (Int32) × (Nat → Int32))
  | 0, _, _, _, _, _, _ => none
  | n + 1, v1, v2, rf, sF, sB, tr =>
    if 100 ≤ v2 then
        some ((-1), rf, sF, sB, tr)
      else
        if (tr 769) < (tr 774) then
          ob3 (fX4_tick sF sB tr) fun sF3 sB3 tr3 =>
          fX4_next_41 n v1 (v2 + 1) rf sF3 sB3 tr3
        else
          if (tr 775) ≤ (tr 777) then
            ob3 (fX4_tick sF sB tr) fun sF5 sB5 tr5 =>
            fX4_next_41 n v1 (v2 + 1) rf sF5 sB5 tr5
          else
            ob (fX4_chosen tr (tr 778) 1) fun r6 =>
            if r6 = (-1) then
              ob3 (fX4_tick sF sB tr) fun sF8 sB8 tr8 =>
              fX4_next_41 n v1 (v2 + 1) rf sF8 sB8 tr8
            else
              ob (fX4_piece tr r6) fun r9 =>
              ob (fX4_least r9 ((tr 775) - (tr 777))) fun r10 =>
              ob (fX4_least 16 r10) fun r11 =>
              if v1 = 0 then
                some (r6, rf, sF, sB, tr)
              else
                if v1 = 1 then
                  ob (fX4_granule tr) fun r14 =>
                  some ((r11 * r14), rf, sF, sB, tr)
                else
                  some ((tr 768), rf, sF, sB, tr)
def fX4_next (sF : Int32) (sB : Int32) (nw : Nat → Int32) (tr : Nat → Int32) (a1 : Int32) : Option (Int32 × (Int32) × (Int32) × (Int32) × (Nat → Int32)) :=
  ob (fX4_in a1.toInt64 0 (2)) fun r15 =>
  if r15 = 0 then
    ob2 (fX4_refused 1) fun r17 rf17 =>
    if r17 = 0 then
      ob (fX4_copyState 785 785 nw tr 0 0) fun tr19 =>
      fX4_next_41 1000 a1 0 rf17 sF sB tr19
    else
      some (0, rf17, sF, sB, tr)
  else
    ob2 (fX4_refused 0) fun r20 rf20 =>
    if r20 = 0 then
      ob (fX4_copyState 785 785 nw tr 0 0) fun tr22 =>
      fX4_next_41 1000 a1 0 rf20 sF sB tr22
    else
      some (0, rf20, sF, sB, tr)
theorem mX4_next_16 : Cond.fieldLink RX4 16 "IdleDiscardsModel" "trial" "[I" ∈ wsX4_next := by decide +kernel
theorem uX4_next_X4 : ∀ w ∈ wsX40, w ∈ wsX4_next := by decide +kernel
theorem mX4_next_191 : Cond.constantLong RX4 191 (2) ∈ wsX4_next := by decide +kernel
theorem mX4_next_13 : Cond.fieldLink RX4 13 "IdleDiscardsModel" "now" "[I" ∈ wsX4_next := by decide +kernel
set_option maxRecDepth 100000 in
set_option maxHeartbeats 4000000 in
theorem kX4_next (l : Launch) (g : zG) (h0 h1 h2 h3 h4 h5 h6 : Nat) (rf : Int32) (sz : Int32) (ac : Int32) (sF : Int32) (sB : Int32) (sp : Int32) (ou : Int32) (tx : Nat → Int32) (nw : Nat → Int32) (tr : Nat → Int32) (di : Nat → Int32) (ke : Nat → Int32) (ik : Nat → Int32) (a1 : Int32) {r : Int32} {rf' : Int32} {sF' : Int32} {sB' : Int32} {tr' : Nat → Int32} (h : fX4_next sF sB nw tr a1 = some (r, rf', sF', sB', tr')) : Mw l g yX4_next wsX4_next { frames := 8, cells := 0, slots := 0, locals := 182 } [.ref h0, .int a1] (zMA g h0 h1 h2 h3 h4 h5 h6 rf sz ac sF sB sp ou tx nw tr di ke ik) (zWi g (zMA g h0 h1 h2 h3 h4 h5 h6 rf' sz ac sF' sB' sp ou tx nw tr' di ke ik) r) := by
  refine zw_in (cc := cX4_next) (maxL := 5) (ret := (some .int)) (by decide) rfl (Nat.le_of_ble_eq_true rfl) ?_
  intro p e s m below meth c hx hb hr hml hts hown hlocks hK A hA hP hD hS ls hl
  replace hl : lv_has ls 5 [(0, .ref h0), (1, .int a1)] := hl
  have loop_41 : ∀ (n : Nat) (v1 : Int32) (v2 : Int32) (rf : (Int32)) (sF : (Int32)) (sB : (Int32)) (tr : (Nat → Int32)), fX4_next_41 n v1 v2 rf sF sB tr = some (r, rf', sF', sB', tr') → ∀ (H : Heap) (locs : List Loc), zP g (zMA g h0 h1 h2 h3 h4 h5 h6 rf sz ac sF sB sp ou tx nw tr di ke ik) H → va_D A (zMA g h0 h1 h2 h3 h4 h5 h6 rf sz ac sF sB sp ou tx nw tr di ke ik) → va_S A s.heap H locs → ∀ (ls : Array Slot), lv_has ls 5 [(0, .ref h0), (1, .int v1), (2, .int v2)] → W p l e ({ frames := 8, cells := 0, slots := 0, locals := 182 } : Room) s m [.ref h0, .int a1].toArray below meth c H locs 0 0 (MQ below (zWi g (zMA g h0 h1 h2 h3 h4 h5 h6 rf' sz ac sF' sB' sp ou tx nw tr' di ke ik) r A) [.ref h0, .int a1].toArray s 0 0 A) (F0 m 41 ls []) := by
    intro n
    induction n with
    | zero => intro v1 v2 rf sF sB tr h H locs hP hD hS ls hl; exact zn h
    | succ n ih =>
      intro v1 v2 rf sF sB tr h H locs hP hD hS ls hl
      rw [fX4_next_41] at h
      refine lv_iload_n hx hb dX4_next_41 rfl (lv_at hl 2 rfl) ?_
      refine lv_bipush (v := 100) hx hb dX4_next_42 (by decide) ?_
      refine lv_icmp_ge (tgt := 191) hx hb dX4_next_44 (by decide) (fun c1 => ?_) (fun c1 => ?_)
      · replace h := zt c1 h
        refine lv_iconst (v := (-1)) hx hb dX4_next_191 (by decide) ?_
        cases h
        exact zw_i hx hb hr hlocks hP hS dX4_next_192
      · replace h := zf c1 h
        refine lv_aload_n hx hb dX4_next_47 rfl (lv_at hl 0 rfl) ?_
        refine va_get (ci := 4) (v := .ref h3) (C := RX4) (T := TX4) (N := 13) hx hb hts uX4_next_X4 hown hK hP 0 rfl rfl 4 (by decide) (hts _ mX4_next_16) (fun _ h9 => h9) rfl dX4_next_48 ?_
        refine lv_sipush (v := 769) hx hb dX4_next_51 (by decide) ?_
        refine za_ild hx hb hK hP 3 rfl 769 (by decide) (by decide) dX4_next_54 ?_
        refine lv_aload_n hx hb dX4_next_55 rfl (lv_at hl 0 rfl) ?_
        refine va_get (ci := 4) (v := .ref h3) (C := RX4) (T := TX4) (N := 13) hx hb hts uX4_next_X4 hown hK hP 0 rfl rfl 4 (by decide) (hts _ mX4_next_16) (fun _ h9 => h9) rfl dX4_next_56 ?_
        refine lv_sipush (v := 774) hx hb dX4_next_59 (by decide) ?_
        refine za_ild hx hb hK hP 3 rfl 774 (by decide) (by decide) dX4_next_62 ?_
        refine lv_icmp_lt (tgt := 177) hx hb dX4_next_63 (by decide) (fun c2 => ?_) (fun c2 => ?_)
        · replace h := zt c2 h
          refine lv_aload_n hx hb dX4_next_177 rfl (lv_at hl 0 rfl) ?_
          refine lv_aload_n hx hb dX4_next_178 rfl (lv_at hl 0 rfl) ?_
          refine va_get (ci := 4) (v := .ref h3) (C := RX4) (T := TX4) (N := 13) hx hb hts uX4_next_X4 hown hK hP 0 rfl rfl 4 (by decide) (hts _ mX4_next_16) (fun _ h9 => h9) rfl dX4_next_179 ?_
          obtain ⟨sF3, sB3, tr3, e3, h⟩ := zb3 h
          refine zVw (As := [.ref h3]) (rest := []) (zWv_q g _) ⟨hx, hb, hml, hown, hts⟩ (kX4_tick l g h0 h1 h3 (.ref h2) (.ref h3) (.ref h4) (.ref h5) (.ref h6) rf sz ac sF sB sp ou tx tr e3) (cwV 1 hts gX4_next_X4_tick rfl rfl rfl hdV_X4_tick ⟨Nat.le_of_ble_eq_true rfl, Nat.le_of_ble_eq_true rfl⟩) hK hP hD hS hA [0, 1, 3] (by decide) rfl rfl 0 rfl rfl rfl hl.1 rfl (Nat.le_of_ble_eq_true rfl) ⟨Nat.zero_le _, Nat.zero_le _⟩ dX4_next_182 (fun H locs hP hD hS => ?_)
          replace hP : zP g (zMA g h0 h1 h2 h3 h4 h5 h6 rf sz ac sF3 sB3 sp ou tx nw tr3 di ke ik) H := hP
          replace hD : va_D A (zMA g h0 h1 h2 h3 h4 h5 h6 rf sz ac sF3 sB3 sp ou tx nw tr3 di ke ik) := hD
          refine lv_iinc (v := (v2 + 1)) (lv' := [(2, .int (v2 + 1)), (0, .ref h0), (1, .int v1)]) hx hb dX4_next_185 hl (k := 2) rfl rfl (by decide) rfl (fun ls hl => ?_)
          refine lv_goto (tgt := 41) hx hb dX4_next_188 (by decide) ?_
          exact ih v1 (v2 + 1) rf sF3 sB3 tr3 h H locs hP hD hS ls (lv_sub hl [1, 2, 0] rfl)
        · replace h := zf c2 h
          refine lv_aload_n hx hb dX4_next_66 rfl (lv_at hl 0 rfl) ?_
          refine va_get (ci := 4) (v := .ref h3) (C := RX4) (T := TX4) (N := 13) hx hb hts uX4_next_X4 hown hK hP 0 rfl rfl 4 (by decide) (hts _ mX4_next_16) (fun _ h9 => h9) rfl dX4_next_67 ?_
          refine lv_sipush (v := 775) hx hb dX4_next_70 (by decide) ?_
          refine za_ild hx hb hK hP 3 rfl 775 (by decide) (by decide) dX4_next_73 ?_
          refine lv_aload_n hx hb dX4_next_74 rfl (lv_at hl 0 rfl) ?_
          refine va_get (ci := 4) (v := .ref h3) (C := RX4) (T := TX4) (N := 13) hx hb hts uX4_next_X4 hown hK hP 0 rfl rfl 4 (by decide) (hts _ mX4_next_16) (fun _ h9 => h9) rfl dX4_next_75 ?_
          refine lv_sipush (v := 777) hx hb dX4_next_78 (by decide) ?_
          refine za_ild hx hb hK hP 3 rfl 777 (by decide) (by decide) dX4_next_81 ?_
          refine lv_icmp_le (tgt := 177) hx hb dX4_next_82 (by decide) (fun c4 => ?_) (fun c4 => ?_)
          · replace h := zt c4 h
            refine lv_aload_n hx hb dX4_next_177 rfl (lv_at hl 0 rfl) ?_
            refine lv_aload_n hx hb dX4_next_178 rfl (lv_at hl 0 rfl) ?_
            refine va_get (ci := 4) (v := .ref h3) (C := RX4) (T := TX4) (N := 13) hx hb hts uX4_next_X4 hown hK hP 0 rfl rfl 4 (by decide) (hts _ mX4_next_16) (fun _ h9 => h9) rfl dX4_next_179 ?_
            obtain ⟨sF5, sB5, tr5, e5, h⟩ := zb3 h
            refine zVw (As := [.ref h3]) (rest := []) (zWv_q g _) ⟨hx, hb, hml, hown, hts⟩ (kX4_tick l g h0 h1 h3 (.ref h2) (.ref h3) (.ref h4) (.ref h5) (.ref h6) rf sz ac sF sB sp ou tx tr e5) (cwV 1 hts gX4_next_X4_tick rfl rfl rfl hdV_X4_tick ⟨Nat.le_of_ble_eq_true rfl, Nat.le_of_ble_eq_true rfl⟩) hK hP hD hS hA [0, 1, 3] (by decide) rfl rfl 0 rfl rfl rfl hl.1 rfl (Nat.le_of_ble_eq_true rfl) ⟨Nat.zero_le _, Nat.zero_le _⟩ dX4_next_182 (fun H locs hP hD hS => ?_)
            replace hP : zP g (zMA g h0 h1 h2 h3 h4 h5 h6 rf sz ac sF5 sB5 sp ou tx nw tr5 di ke ik) H := hP
            replace hD : va_D A (zMA g h0 h1 h2 h3 h4 h5 h6 rf sz ac sF5 sB5 sp ou tx nw tr5 di ke ik) := hD
            refine lv_iinc (v := (v2 + 1)) (lv' := [(2, .int (v2 + 1)), (0, .ref h0), (1, .int v1)]) hx hb dX4_next_185 hl (k := 2) rfl rfl (by decide) rfl (fun ls hl => ?_)
            refine lv_goto (tgt := 41) hx hb dX4_next_188 (by decide) ?_
            exact ih v1 (v2 + 1) rf sF5 sB5 tr5 h H locs hP hD hS ls (lv_sub hl [1, 2, 0] rfl)
          · replace h := zf c4 h
            refine lv_aload_n hx hb dX4_next_85 rfl (lv_at hl 0 rfl) ?_
            refine va_get (ci := 4) (v := .ref h3) (C := RX4) (T := TX4) (N := 13) hx hb hts uX4_next_X4 hown hK hP 0 rfl rfl 4 (by decide) (hts _ mX4_next_16) (fun _ h9 => h9) rfl dX4_next_86 ?_
            refine lv_aload_n hx hb dX4_next_89 rfl (lv_at hl 0 rfl) ?_
            refine va_get (ci := 4) (v := .ref h3) (C := RX4) (T := TX4) (N := 13) hx hb hts uX4_next_X4 hown hK hP 0 rfl rfl 4 (by decide) (hts _ mX4_next_16) (fun _ h9 => h9) rfl dX4_next_90 ?_
            refine lv_sipush (v := 778) hx hb dX4_next_93 (by decide) ?_
            refine za_ild hx hb hK hP 3 rfl 778 (by decide) (by decide) dX4_next_96 ?_
            refine lv_iconst (v := 1) hx hb dX4_next_97 (by decide) ?_
            obtain ⟨r6, e6, h⟩ := zb h
            refine zS (As := [.ref h3, .int (tr 778), .int 1]) (rest := []) (zQi_q _) ⟨hx, hb, hml, hown, hts⟩ (kX4_chosen l g h3 tr (tr 778) 1 e6) (va_cwS 3 hts gX4_next_X4_chosen rfl rfl rfl hdS_X4_chosen ⟨Nat.le_of_ble_eq_true rfl, Nat.le_of_ble_eq_true rfl⟩) hK hP [3] rfl rfl hl.1 rfl (Nat.le_of_ble_eq_true rfl) ⟨Nat.zero_le _, Nat.zero_le _⟩ dX4_next_98 ?_
            refine lv_istore_n (lv' := [(3, .int r6), (0, .ref h0), (1, .int v1), (2, .int v2)]) hx hb dX4_next_101 rfl hl (by decide) rfl (fun ls hl => ?_)
            refine lv_iload_n hx hb dX4_next_102 rfl (lv_at hl 0 rfl) ?_
            refine lv_iconst (v := (-1)) hx hb dX4_next_103 (by decide) ?_
            refine lv_icmp_eq (tgt := 177) hx hb dX4_next_104 (by decide) (fun c7 => ?_) (fun c7 => ?_)
            · replace h := zt c7 h
              refine lv_aload_n hx hb dX4_next_177 rfl (lv_at hl 1 rfl) ?_
              refine lv_aload_n hx hb dX4_next_178 rfl (lv_at hl 1 rfl) ?_
              refine va_get (ci := 4) (v := .ref h3) (C := RX4) (T := TX4) (N := 13) hx hb hts uX4_next_X4 hown hK hP 0 rfl rfl 4 (by decide) (hts _ mX4_next_16) (fun _ h9 => h9) rfl dX4_next_179 ?_
              obtain ⟨sF8, sB8, tr8, e8, h⟩ := zb3 h
              refine zVw (As := [.ref h3]) (rest := []) (zWv_q g _) ⟨hx, hb, hml, hown, hts⟩ (kX4_tick l g h0 h1 h3 (.ref h2) (.ref h3) (.ref h4) (.ref h5) (.ref h6) rf sz ac sF sB sp ou tx tr e8) (cwV 1 hts gX4_next_X4_tick rfl rfl rfl hdV_X4_tick ⟨Nat.le_of_ble_eq_true rfl, Nat.le_of_ble_eq_true rfl⟩) hK hP hD hS hA [0, 1, 3] (by decide) rfl rfl 0 rfl rfl rfl hl.1 rfl (Nat.le_of_ble_eq_true rfl) ⟨Nat.zero_le _, Nat.zero_le _⟩ dX4_next_182 (fun H locs hP hD hS => ?_)
              replace hP : zP g (zMA g h0 h1 h2 h3 h4 h5 h6 rf sz ac sF8 sB8 sp ou tx nw tr8 di ke ik) H := hP
              replace hD : va_D A (zMA g h0 h1 h2 h3 h4 h5 h6 rf sz ac sF8 sB8 sp ou tx nw tr8 di ke ik) := hD
              refine lv_iinc (v := (v2 + 1)) (lv' := [(2, .int (v2 + 1)), (3, .int r6), (0, .ref h0), (1, .int v1)]) hx hb dX4_next_185 hl (k := 3) rfl rfl (by decide) rfl (fun ls hl => ?_)
              refine lv_goto (tgt := 41) hx hb dX4_next_188 (by decide) ?_
              exact ih v1 (v2 + 1) rf sF8 sB8 tr8 h H locs hP hD hS ls (lv_sub hl [2, 3, 0] rfl)
            · replace h := zf c7 h
              refine lv_bipush (v := 16) hx hb dX4_next_107 (by decide) ?_
              refine lv_aload_n hx hb dX4_next_109 rfl (lv_at hl 1 rfl) ?_
              refine va_get (ci := 4) (v := .ref h3) (C := RX4) (T := TX4) (N := 13) hx hb hts uX4_next_X4 hown hK hP 0 rfl rfl 4 (by decide) (hts _ mX4_next_16) (fun _ h9 => h9) rfl dX4_next_110 ?_
              refine lv_iload_n hx hb dX4_next_113 rfl (lv_at hl 0 rfl) ?_
              obtain ⟨r9, e9, h⟩ := zb h
              refine zS (As := [.ref h3, .int r6]) (rest := [.int 16]) (zQi_q _) ⟨hx, hb, hml, hown, hts⟩ (kX4_piece l g h3 tr r6 e9) (va_cwS 2 hts gX4_next_X4_piece rfl rfl rfl hdS_X4_piece ⟨Nat.le_of_ble_eq_true rfl, Nat.le_of_ble_eq_true rfl⟩) hK hP [3] rfl rfl hl.1 rfl (Nat.le_of_ble_eq_true rfl) ⟨Nat.zero_le _, Nat.zero_le _⟩ dX4_next_114 ?_
              refine lv_aload_n hx hb dX4_next_117 rfl (lv_at hl 1 rfl) ?_
              refine va_get (ci := 4) (v := .ref h3) (C := RX4) (T := TX4) (N := 13) hx hb hts uX4_next_X4 hown hK hP 0 rfl rfl 4 (by decide) (hts _ mX4_next_16) (fun _ h9 => h9) rfl dX4_next_118 ?_
              refine lv_sipush (v := 775) hx hb dX4_next_121 (by decide) ?_
              refine za_ild hx hb hK hP 3 rfl 775 (by decide) (by decide) dX4_next_124 ?_
              refine lv_aload_n hx hb dX4_next_125 rfl (lv_at hl 1 rfl) ?_
              refine va_get (ci := 4) (v := .ref h3) (C := RX4) (T := TX4) (N := 13) hx hb hts uX4_next_X4 hown hK hP 0 rfl rfl 4 (by decide) (hts _ mX4_next_16) (fun _ h9 => h9) rfl dX4_next_126 ?_
              refine lv_sipush (v := 777) hx hb dX4_next_129 (by decide) ?_
              refine za_ild hx hb hK hP 3 rfl 777 (by decide) (by decide) dX4_next_132 ?_
              refine lv_isub hx hb dX4_next_133 ?_
              obtain ⟨r10, e10, h⟩ := zb h
              refine zS (As := [.int r9, .int ((tr 775) - (tr 777))]) (rest := [.int 16]) (zQi_q _) ⟨hx, hb, hml, hown, hts⟩ (kX4_least l g r9 ((tr 775) - (tr 777)) e10) (va_cwS 2 hts gX4_next_X4_least rfl rfl rfl hdS_X4_least ⟨Nat.le_of_ble_eq_true rfl, Nat.le_of_ble_eq_true rfl⟩) hK hP [] rfl rfl hl.1 rfl (Nat.le_of_ble_eq_true rfl) ⟨Nat.zero_le _, Nat.zero_le _⟩ dX4_next_134 ?_
              obtain ⟨r11, e11, h⟩ := zb h
              refine zS (As := [.int 16, .int r10]) (rest := []) (zQi_q _) ⟨hx, hb, hml, hown, hts⟩ (kX4_least l g 16 r10 e11) (va_cwS 2 hts gX4_next_X4_least rfl rfl rfl hdS_X4_least ⟨Nat.le_of_ble_eq_true rfl, Nat.le_of_ble_eq_true rfl⟩) hK hP [] rfl rfl hl.1 rfl (Nat.le_of_ble_eq_true rfl) ⟨Nat.zero_le _, Nat.zero_le _⟩ dX4_next_137 ?_
              refine lv_istore (lv' := [(4, .int r11), (3, .int r6), (0, .ref h0), (1, .int v1), (2, .int v2)]) hx hb dX4_next_140 hl (by decide) rfl (fun ls hl => ?_)
              refine lv_iload_n hx hb dX4_next_142 rfl (lv_at hl 3 rfl) ?_
              refine lv_if_ne (tgt := 150) hx hb dX4_next_143 (by decide) (fun c12 => ?_) (fun c12 => ?_)
              · replace h := zf c12 h
                refine lv_iload_n hx hb dX4_next_150 rfl (lv_at hl 3 rfl) ?_
                refine lv_iconst (v := 1) hx hb dX4_next_151 (by decide) ?_
                refine lv_icmp_ne (tgt := 168) hx hb dX4_next_152 (by decide) (fun c13 => ?_) (fun c13 => ?_)
                · replace h := zf c13 h
                  refine lv_aload_n hx hb dX4_next_168 rfl (lv_at hl 2 rfl) ?_
                  refine va_get (ci := 4) (v := .ref h3) (C := RX4) (T := TX4) (N := 13) hx hb hts uX4_next_X4 hown hK hP 0 rfl rfl 4 (by decide) (hts _ mX4_next_16) (fun _ h9 => h9) rfl dX4_next_169 ?_
                  refine lv_sipush (v := 768) hx hb dX4_next_172 (by decide) ?_
                  refine za_ild hx hb hK hP 3 rfl 768 (by decide) (by decide) dX4_next_175 ?_
                  cases h
                  exact zw_i hx hb hr hlocks hP hS dX4_next_176
                · replace h := zt c13 h
                  refine lv_iload hx hb dX4_next_155 (lv_at hl 0 rfl) ?_
                  refine lv_aload_n hx hb dX4_next_157 rfl (lv_at hl 2 rfl) ?_
                  refine va_get (ci := 4) (v := .ref h3) (C := RX4) (T := TX4) (N := 13) hx hb hts uX4_next_X4 hown hK hP 0 rfl rfl 4 (by decide) (hts _ mX4_next_16) (fun _ h9 => h9) rfl dX4_next_158 ?_
                  obtain ⟨r14, e14, h⟩ := zb h
                  refine zS (As := [.ref h3]) (rest := [.int r11]) (zQi_q _) ⟨hx, hb, hml, hown, hts⟩ (kX4_granule l g h3 tr e14) (va_cwS 1 hts gX4_next_X4_granule rfl rfl rfl hdS_X4_granule ⟨Nat.le_of_ble_eq_true rfl, Nat.le_of_ble_eq_true rfl⟩) hK hP [3] rfl rfl hl.1 rfl (Nat.le_of_ble_eq_true rfl) ⟨Nat.zero_le _, Nat.zero_le _⟩ dX4_next_161 ?_
                  refine lv_imul hx hb dX4_next_164 ?_
                  refine lv_goto (tgt := 176) hx hb dX4_next_165 (by decide) ?_
                  cases h
                  exact zw_i hx hb hr hlocks hP hS dX4_next_176
              · replace h := zt c12 h
                refine lv_iload_n hx hb dX4_next_146 rfl (lv_at hl 1 rfl) ?_
                refine lv_goto (tgt := 176) hx hb dX4_next_147 (by decide) ?_
                cases h
                exact zw_i hx hb hr hlocks hP hS dX4_next_176
  unfold fX4_next at h
  refine lv_aload_n hx hb dX4_next_0 rfl (lv_at hl 0 rfl) ?_
  refine lv_iload_n hx hb dX4_next_1 rfl (lv_at hl 1 rfl) ?_
  refine lv_i2l (v := a1.toInt64) hx hb dX4_next_2 rfl ?_
  refine lv_lconst (v := 0) hx hb dX4_next_3 (by decide) ?_
  refine lv_ldc2 hx hb hown (hts _ mX4_next_191) dX4_next_4 ?_
  obtain ⟨r15, e15, h⟩ := zb h
  refine zS (As := [.long a1.toInt64, .long 0, .long (2)]) (rest := [.ref h0]) (zQi_q _) ⟨hx, hb, hml, hown, hts⟩ (kX4_in l g a1.toInt64 0 (2) e15) (va_cwS 3 hts gX4_next_X4_in rfl rfl rfl hdS_X4_in ⟨Nat.le_of_ble_eq_true rfl, Nat.le_of_ble_eq_true rfl⟩) hK hP [] rfl rfl hl.1 rfl (Nat.le_of_ble_eq_true rfl) ⟨Nat.zero_le _, Nat.zero_le _⟩ dX4_next_7 ?_
  refine lv_if_eq (tgt := 17) hx hb dX4_next_10 (by decide) (fun c16 => ?_) (fun c16 => ?_)
  · replace h := zt c16 h
    refine lv_iconst (v := 1) hx hb dX4_next_17 (by decide) ?_
    obtain ⟨r17, rf17, e17, h⟩ := zb2 h
    refine zVw (As := [.int 1]) (rest := []) (zWi_q g _ _) ⟨hx, hb, hml, hown, hts⟩ (kX4_refused l g h0 h1 (.ref h2) (.ref h3) (.ref h4) (.ref h5) (.ref h6) rf sz ac sF sB sp ou tx 1 e17) (cwV 1 hts gX4_next_X4_refused rfl rfl rfl hdV_X4_refused ⟨Nat.le_of_ble_eq_true rfl, Nat.le_of_ble_eq_true rfl⟩) hK hP hD hS hA [0, 1] (by decide) rfl rfl 0 rfl rfl rfl hl.1 rfl (Nat.le_of_ble_eq_true rfl) ⟨Nat.zero_le _, Nat.zero_le _⟩ dX4_next_18 (fun H locs hP hD hS => ?_)
    replace hP : zP g (zMA g h0 h1 h2 h3 h4 h5 h6 rf17 sz ac sF sB sp ou tx nw tr di ke ik) H := hP
    replace hD : va_D A (zMA g h0 h1 h2 h3 h4 h5 h6 rf17 sz ac sF sB sp ou tx nw tr di ke ik) := hD
    refine lv_if_eq (tgt := 26) hx hb dX4_next_21 (by decide) (fun c18 => ?_) (fun c18 => ?_)
    · replace h := zt c18 h
      refine lv_aload_n hx hb dX4_next_26 rfl (lv_at hl 0 rfl) ?_
      refine va_get (ci := 4) (v := .ref h2) (C := RX4) (T := TX4) (N := 13) hx hb hts uX4_next_X4 hown hK hP 0 rfl rfl 3 (by decide) (hts _ mX4_next_13) (fun _ h9 => h9) rfl dX4_next_27 ?_
      refine lv_iconst (v := 0) hx hb dX4_next_30 (by decide) ?_
      refine lv_aload_n hx hb dX4_next_31 rfl (lv_at hl 0 rfl) ?_
      refine va_get (ci := 4) (v := .ref h3) (C := RX4) (T := TX4) (N := 13) hx hb hts uX4_next_X4 hown hK hP 0 rfl rfl 4 (by decide) (hts _ mX4_next_16) (fun _ h9 => h9) rfl dX4_next_32 ?_
      refine lv_iconst (v := 0) hx hb dX4_next_35 (by decide) ?_
      obtain ⟨tr19, e19, h⟩ := zb h
      refine zSw (As := [.ref h2, .int 0, .ref h3, .int 0]) (rest := []) (zWv_q g _) ⟨hx, hb, hml, hown, hts⟩ (kX4_copyState l g 785 785 h2 h3 nw tr 0 0 e19) (va_cwS 4 hts gX4_next_X4_copyState rfl rfl rfl hdS_X4_copyState ⟨Nat.le_of_ble_eq_true rfl, Nat.le_of_ble_eq_true rfl⟩) hK hP hD hS hA [2, 3] (by decide) rfl rfl rfl hl.1 rfl (Nat.le_of_ble_eq_true rfl) ⟨Nat.zero_le _, Nat.zero_le _⟩ dX4_next_36 (fun H locs hP hD hS => ?_)
      replace hP : zP g (zMA g h0 h1 h2 h3 h4 h5 h6 rf17 sz ac sF sB sp ou tx nw tr19 di ke ik) H := hP
      replace hD : va_D A (zMA g h0 h1 h2 h3 h4 h5 h6 rf17 sz ac sF sB sp ou tx nw tr19 di ke ik) := hD
      refine lv_iconst (v := 0) hx hb dX4_next_39 (by decide) ?_
      refine lv_istore_n (lv' := [(2, .int 0), (0, .ref h0), (1, .int a1)]) hx hb dX4_next_40 rfl hl (by decide) rfl (fun ls hl => ?_)
      exact loop_41 1000 a1 0 rf17 sF sB tr19 h H locs hP hD hS ls (lv_sub hl [1, 2, 0] rfl)
    · replace h := zf c18 h
      refine lv_iconst (v := 0) hx hb dX4_next_24 (by decide) ?_
      cases h
      exact zw_i hx hb hr hlocks hP hS dX4_next_25
  · replace h := zf c16 h
    refine lv_iconst (v := 0) hx hb dX4_next_13 (by decide) ?_
    refine lv_goto (tgt := 18) hx hb dX4_next_14 (by decide) ?_
    obtain ⟨r20, rf20, e20, h⟩ := zb2 h
    refine zVw (As := [.int 0]) (rest := []) (zWi_q g _ _) ⟨hx, hb, hml, hown, hts⟩ (kX4_refused l g h0 h1 (.ref h2) (.ref h3) (.ref h4) (.ref h5) (.ref h6) rf sz ac sF sB sp ou tx 0 e20) (cwV 1 hts gX4_next_X4_refused rfl rfl rfl hdV_X4_refused ⟨Nat.le_of_ble_eq_true rfl, Nat.le_of_ble_eq_true rfl⟩) hK hP hD hS hA [0, 1] (by decide) rfl rfl 0 rfl rfl rfl hl.1 rfl (Nat.le_of_ble_eq_true rfl) ⟨Nat.zero_le _, Nat.zero_le _⟩ dX4_next_18 (fun H locs hP hD hS => ?_)
    replace hP : zP g (zMA g h0 h1 h2 h3 h4 h5 h6 rf20 sz ac sF sB sp ou tx nw tr di ke ik) H := hP
    replace hD : va_D A (zMA g h0 h1 h2 h3 h4 h5 h6 rf20 sz ac sF sB sp ou tx nw tr di ke ik) := hD
    refine lv_if_eq (tgt := 26) hx hb dX4_next_21 (by decide) (fun c21 => ?_) (fun c21 => ?_)
    · replace h := zt c21 h
      refine lv_aload_n hx hb dX4_next_26 rfl (lv_at hl 0 rfl) ?_
      refine va_get (ci := 4) (v := .ref h2) (C := RX4) (T := TX4) (N := 13) hx hb hts uX4_next_X4 hown hK hP 0 rfl rfl 3 (by decide) (hts _ mX4_next_13) (fun _ h9 => h9) rfl dX4_next_27 ?_
      refine lv_iconst (v := 0) hx hb dX4_next_30 (by decide) ?_
      refine lv_aload_n hx hb dX4_next_31 rfl (lv_at hl 0 rfl) ?_
      refine va_get (ci := 4) (v := .ref h3) (C := RX4) (T := TX4) (N := 13) hx hb hts uX4_next_X4 hown hK hP 0 rfl rfl 4 (by decide) (hts _ mX4_next_16) (fun _ h9 => h9) rfl dX4_next_32 ?_
      refine lv_iconst (v := 0) hx hb dX4_next_35 (by decide) ?_
      obtain ⟨tr22, e22, h⟩ := zb h
      refine zSw (As := [.ref h2, .int 0, .ref h3, .int 0]) (rest := []) (zWv_q g _) ⟨hx, hb, hml, hown, hts⟩ (kX4_copyState l g 785 785 h2 h3 nw tr 0 0 e22) (va_cwS 4 hts gX4_next_X4_copyState rfl rfl rfl hdS_X4_copyState ⟨Nat.le_of_ble_eq_true rfl, Nat.le_of_ble_eq_true rfl⟩) hK hP hD hS hA [2, 3] (by decide) rfl rfl rfl hl.1 rfl (Nat.le_of_ble_eq_true rfl) ⟨Nat.zero_le _, Nat.zero_le _⟩ dX4_next_36 (fun H locs hP hD hS => ?_)
      replace hP : zP g (zMA g h0 h1 h2 h3 h4 h5 h6 rf20 sz ac sF sB sp ou tx nw tr22 di ke ik) H := hP
      replace hD : va_D A (zMA g h0 h1 h2 h3 h4 h5 h6 rf20 sz ac sF sB sp ou tx nw tr22 di ke ik) := hD
      refine lv_iconst (v := 0) hx hb dX4_next_39 (by decide) ?_
      refine lv_istore_n (lv' := [(2, .int 0), (0, .ref h0), (1, .int a1)]) hx hb dX4_next_40 rfl hl (by decide) rfl (fun ls hl => ?_)
      exact loop_41 1000 a1 0 rf20 sF sB tr22 h H locs hP hD hS ls (lv_sub hl [1, 2, 0] rfl)
    · replace h := zf c21 h
      refine lv_iconst (v := 0) hx hb dX4_next_24 (by decide) ?_
      cases h
      exact zw_i hx hb hr hlocks hP hS dX4_next_25
def fX4_goneIn_36  : Nat → Int32 → Int32 → (Int32) → (Int32) → (Int32) → (Nat → Int32) → Option (Int32 × (Int32) × (Int32) × (Int32) × (Nat → Int32))
  | 0, _, _, _, _, _, _ => none
  | n + 1, v1, v2, rf, sF, sB, tr =>
    if 100 < v2 then
        some ((-1), rf, sF, sB, tr)
      else
        if (256 + v1) < 0 ∨ 785 ≤ (256 + v1).toNatClampNeg then none else
        if (tr (256 + v1).toNatClampNeg) = 0 then
          some (v2, rf, sF, sB, tr)
        else
          ob3 (fX4_tick sF sB tr) fun sF4 sB4 tr4 =>
          fX4_goneIn_36 n v1 (v2 + 1) rf sF4 sB4 tr4
def fX4_goneIn (sF : Int32) (sB : Int32) (nw : Nat → Int32) (tr : Nat → Int32) (a1 : Int32) : Option (Int32 × (Int32) × (Int32) × (Int32) × (Nat → Int32)) :=
  ob (fX4_isBlock a1) fun r5 =>
  if r5 = 0 then
    ob2 (fX4_refused 1) fun r7 rf7 =>
    if r7 = 0 then
      ob (fX4_copyState 785 785 nw tr 0 0) fun tr9 =>
      fX4_goneIn_36 1000 a1 0 rf7 sF sB tr9
    else
      some (0, rf7, sF, sB, tr)
  else
    ob2 (fX4_refused 0) fun r10 rf10 =>
    if r10 = 0 then
      ob (fX4_copyState 785 785 nw tr 0 0) fun tr12 =>
      fX4_goneIn_36 1000 a1 0 rf10 sF sB tr12
    else
      some (0, rf10, sF, sB, tr)
theorem mX4_goneIn_16 : Cond.fieldLink RX4 16 "IdleDiscardsModel" "trial" "[I" ∈ wsX4_goneIn := by decide +kernel
theorem uX4_goneIn_X4 : ∀ w ∈ wsX40, w ∈ wsX4_goneIn := by decide +kernel
theorem mX4_goneIn_13 : Cond.fieldLink RX4 13 "IdleDiscardsModel" "now" "[I" ∈ wsX4_goneIn := by decide +kernel
set_option maxRecDepth 100000 in
set_option maxHeartbeats 4000000 in
theorem kX4_goneIn (l : Launch) (g : zG) (h0 h1 h2 h3 h4 h5 h6 : Nat) (rf : Int32) (sz : Int32) (ac : Int32) (sF : Int32) (sB : Int32) (sp : Int32) (ou : Int32) (tx : Nat → Int32) (nw : Nat → Int32) (tr : Nat → Int32) (di : Nat → Int32) (ke : Nat → Int32) (ik : Nat → Int32) (a1 : Int32) {r : Int32} {rf' : Int32} {sF' : Int32} {sB' : Int32} {tr' : Nat → Int32} (h : fX4_goneIn sF sB nw tr a1 = some (r, rf', sF', sB', tr')) : Mw l g yX4_goneIn wsX4_goneIn { frames := 8, cells := 0, slots := 0, locals := 182 } [.ref h0, .int a1] (zMA g h0 h1 h2 h3 h4 h5 h6 rf sz ac sF sB sp ou tx nw tr di ke ik) (zWi g (zMA g h0 h1 h2 h3 h4 h5 h6 rf' sz ac sF' sB' sp ou tx nw tr' di ke ik) r) := by
  refine zw_in (cc := cX4_goneIn) (maxL := 3) (ret := (some .int)) (by decide) rfl (Nat.le_of_ble_eq_true rfl) ?_
  intro p e s m below meth c hx hb hr hml hts hown hlocks hK A hA hP hD hS ls hl
  replace hl : lv_has ls 3 [(0, .ref h0), (1, .int a1)] := hl
  have loop_36 : ∀ (n : Nat) (v1 : Int32) (v2 : Int32) (rf : (Int32)) (sF : (Int32)) (sB : (Int32)) (tr : (Nat → Int32)), fX4_goneIn_36 n v1 v2 rf sF sB tr = some (r, rf', sF', sB', tr') → ∀ (H : Heap) (locs : List Loc), zP g (zMA g h0 h1 h2 h3 h4 h5 h6 rf sz ac sF sB sp ou tx nw tr di ke ik) H → va_D A (zMA g h0 h1 h2 h3 h4 h5 h6 rf sz ac sF sB sp ou tx nw tr di ke ik) → va_S A s.heap H locs → ∀ (ls : Array Slot), lv_has ls 3 [(0, .ref h0), (1, .int v1), (2, .int v2)] → W p l e ({ frames := 8, cells := 0, slots := 0, locals := 182 } : Room) s m [.ref h0, .int a1].toArray below meth c H locs 0 0 (MQ below (zWi g (zMA g h0 h1 h2 h3 h4 h5 h6 rf' sz ac sF' sB' sp ou tx nw tr' di ke ik) r A) [.ref h0, .int a1].toArray s 0 0 A) (F0 m 36 ls []) := by
    intro n
    induction n with
    | zero => intro v1 v2 rf sF sB tr h H locs hP hD hS ls hl; exact zn h
    | succ n ih =>
      intro v1 v2 rf sF sB tr h H locs hP hD hS ls hl
      rw [fX4_goneIn_36] at h
      refine lv_iload_n hx hb dX4_goneIn_36 rfl (lv_at hl 2 rfl) ?_
      refine lv_bipush (v := 100) hx hb dX4_goneIn_37 (by decide) ?_
      refine lv_icmp_gt (tgt := 71) hx hb dX4_goneIn_39 (by decide) (fun c1 => ?_) (fun c1 => ?_)
      · replace h := zt c1 h
        refine lv_iconst (v := (-1)) hx hb dX4_goneIn_71 (by decide) ?_
        cases h
        exact zw_i hx hb hr hlocks hP hS dX4_goneIn_72
      · replace h := zf c1 h
        refine lv_aload_n hx hb dX4_goneIn_42 rfl (lv_at hl 0 rfl) ?_
        refine va_get (ci := 4) (v := .ref h3) (C := RX4) (T := TX4) (N := 13) hx hb hts uX4_goneIn_X4 hown hK hP 0 rfl rfl 4 (by decide) (hts _ mX4_goneIn_16) (fun _ h9 => h9) rfl dX4_goneIn_43 ?_
        refine lv_sipush (v := 256) hx hb dX4_goneIn_46 (by decide) ?_
        refine lv_iload_n hx hb dX4_goneIn_49 rfl (lv_at hl 1 rfl) ?_
        refine lv_iadd hx hb dX4_goneIn_50 ?_
        obtain ⟨i2, h⟩ := zi h
        refine za_ild hx hb hK hP 3 rfl _ rfl i2 dX4_goneIn_51 ?_
        refine lv_if_ne (tgt := 57) hx hb dX4_goneIn_52 (by decide) (fun c3 => ?_) (fun c3 => ?_)
        · replace h := zf c3 h
          refine lv_aload_n hx hb dX4_goneIn_57 rfl (lv_at hl 0 rfl) ?_
          refine lv_aload_n hx hb dX4_goneIn_58 rfl (lv_at hl 0 rfl) ?_
          refine va_get (ci := 4) (v := .ref h3) (C := RX4) (T := TX4) (N := 13) hx hb hts uX4_goneIn_X4 hown hK hP 0 rfl rfl 4 (by decide) (hts _ mX4_goneIn_16) (fun _ h9 => h9) rfl dX4_goneIn_59 ?_
          obtain ⟨sF4, sB4, tr4, e4, h⟩ := zb3 h
          refine zVw (As := [.ref h3]) (rest := []) (zWv_q g _) ⟨hx, hb, hml, hown, hts⟩ (kX4_tick l g h0 h1 h3 (.ref h2) (.ref h3) (.ref h4) (.ref h5) (.ref h6) rf sz ac sF sB sp ou tx tr e4) (cwV 1 hts gX4_goneIn_X4_tick rfl rfl rfl hdV_X4_tick ⟨Nat.le_of_ble_eq_true rfl, Nat.le_of_ble_eq_true rfl⟩) hK hP hD hS hA [0, 1, 3] (by decide) rfl rfl 0 rfl rfl rfl hl.1 rfl (Nat.le_of_ble_eq_true rfl) ⟨Nat.zero_le _, Nat.zero_le _⟩ dX4_goneIn_62 (fun H locs hP hD hS => ?_)
          replace hP : zP g (zMA g h0 h1 h2 h3 h4 h5 h6 rf sz ac sF4 sB4 sp ou tx nw tr4 di ke ik) H := hP
          replace hD : va_D A (zMA g h0 h1 h2 h3 h4 h5 h6 rf sz ac sF4 sB4 sp ou tx nw tr4 di ke ik) := hD
          refine lv_iinc (v := (v2 + 1)) (lv' := [(2, .int (v2 + 1)), (0, .ref h0), (1, .int v1)]) hx hb dX4_goneIn_65 hl (k := 2) rfl rfl (by decide) rfl (fun ls hl => ?_)
          refine lv_goto (tgt := 36) hx hb dX4_goneIn_68 (by decide) ?_
          exact ih v1 (v2 + 1) rf sF4 sB4 tr4 h H locs hP hD hS ls (lv_sub hl [1, 2, 0] rfl)
        · replace h := zt c3 h
          refine lv_iload_n hx hb dX4_goneIn_55 rfl (lv_at hl 2 rfl) ?_
          cases h
          exact zw_i hx hb hr hlocks hP hS dX4_goneIn_56
  unfold fX4_goneIn at h
  refine lv_aload_n hx hb dX4_goneIn_0 rfl (lv_at hl 0 rfl) ?_
  refine lv_iload_n hx hb dX4_goneIn_1 rfl (lv_at hl 1 rfl) ?_
  obtain ⟨r5, e5, h⟩ := zb h
  refine zS (As := [.int a1]) (rest := [.ref h0]) (zQi_q _) ⟨hx, hb, hml, hown, hts⟩ (kX4_isBlock l g a1 e5) (va_cwS 1 hts gX4_goneIn_X4_isBlock rfl rfl rfl hdS_X4_isBlock ⟨Nat.le_of_ble_eq_true rfl, Nat.le_of_ble_eq_true rfl⟩) hK hP [] rfl rfl hl.1 rfl (Nat.le_of_ble_eq_true rfl) ⟨Nat.zero_le _, Nat.zero_le _⟩ dX4_goneIn_2 ?_
  refine lv_if_eq (tgt := 12) hx hb dX4_goneIn_5 (by decide) (fun c6 => ?_) (fun c6 => ?_)
  · replace h := zt c6 h
    refine lv_iconst (v := 1) hx hb dX4_goneIn_12 (by decide) ?_
    obtain ⟨r7, rf7, e7, h⟩ := zb2 h
    refine zVw (As := [.int 1]) (rest := []) (zWi_q g _ _) ⟨hx, hb, hml, hown, hts⟩ (kX4_refused l g h0 h1 (.ref h2) (.ref h3) (.ref h4) (.ref h5) (.ref h6) rf sz ac sF sB sp ou tx 1 e7) (cwV 1 hts gX4_goneIn_X4_refused rfl rfl rfl hdV_X4_refused ⟨Nat.le_of_ble_eq_true rfl, Nat.le_of_ble_eq_true rfl⟩) hK hP hD hS hA [0, 1] (by decide) rfl rfl 0 rfl rfl rfl hl.1 rfl (Nat.le_of_ble_eq_true rfl) ⟨Nat.zero_le _, Nat.zero_le _⟩ dX4_goneIn_13 (fun H locs hP hD hS => ?_)
    replace hP : zP g (zMA g h0 h1 h2 h3 h4 h5 h6 rf7 sz ac sF sB sp ou tx nw tr di ke ik) H := hP
    replace hD : va_D A (zMA g h0 h1 h2 h3 h4 h5 h6 rf7 sz ac sF sB sp ou tx nw tr di ke ik) := hD
    refine lv_if_eq (tgt := 21) hx hb dX4_goneIn_16 (by decide) (fun c8 => ?_) (fun c8 => ?_)
    · replace h := zt c8 h
      refine lv_aload_n hx hb dX4_goneIn_21 rfl (lv_at hl 0 rfl) ?_
      refine va_get (ci := 4) (v := .ref h2) (C := RX4) (T := TX4) (N := 13) hx hb hts uX4_goneIn_X4 hown hK hP 0 rfl rfl 3 (by decide) (hts _ mX4_goneIn_13) (fun _ h9 => h9) rfl dX4_goneIn_22 ?_
      refine lv_iconst (v := 0) hx hb dX4_goneIn_25 (by decide) ?_
      refine lv_aload_n hx hb dX4_goneIn_26 rfl (lv_at hl 0 rfl) ?_
      refine va_get (ci := 4) (v := .ref h3) (C := RX4) (T := TX4) (N := 13) hx hb hts uX4_goneIn_X4 hown hK hP 0 rfl rfl 4 (by decide) (hts _ mX4_goneIn_16) (fun _ h9 => h9) rfl dX4_goneIn_27 ?_
      refine lv_iconst (v := 0) hx hb dX4_goneIn_30 (by decide) ?_
      obtain ⟨tr9, e9, h⟩ := zb h
      refine zSw (As := [.ref h2, .int 0, .ref h3, .int 0]) (rest := []) (zWv_q g _) ⟨hx, hb, hml, hown, hts⟩ (kX4_copyState l g 785 785 h2 h3 nw tr 0 0 e9) (va_cwS 4 hts gX4_goneIn_X4_copyState rfl rfl rfl hdS_X4_copyState ⟨Nat.le_of_ble_eq_true rfl, Nat.le_of_ble_eq_true rfl⟩) hK hP hD hS hA [2, 3] (by decide) rfl rfl rfl hl.1 rfl (Nat.le_of_ble_eq_true rfl) ⟨Nat.zero_le _, Nat.zero_le _⟩ dX4_goneIn_31 (fun H locs hP hD hS => ?_)
      replace hP : zP g (zMA g h0 h1 h2 h3 h4 h5 h6 rf7 sz ac sF sB sp ou tx nw tr9 di ke ik) H := hP
      replace hD : va_D A (zMA g h0 h1 h2 h3 h4 h5 h6 rf7 sz ac sF sB sp ou tx nw tr9 di ke ik) := hD
      refine lv_iconst (v := 0) hx hb dX4_goneIn_34 (by decide) ?_
      refine lv_istore_n (lv' := [(2, .int 0), (0, .ref h0), (1, .int a1)]) hx hb dX4_goneIn_35 rfl hl (by decide) rfl (fun ls hl => ?_)
      exact loop_36 1000 a1 0 rf7 sF sB tr9 h H locs hP hD hS ls (lv_sub hl [1, 2, 0] rfl)
    · replace h := zf c8 h
      refine lv_iconst (v := 0) hx hb dX4_goneIn_19 (by decide) ?_
      cases h
      exact zw_i hx hb hr hlocks hP hS dX4_goneIn_20
  · replace h := zf c6 h
    refine lv_iconst (v := 0) hx hb dX4_goneIn_8 (by decide) ?_
    refine lv_goto (tgt := 13) hx hb dX4_goneIn_9 (by decide) ?_
    obtain ⟨r10, rf10, e10, h⟩ := zb2 h
    refine zVw (As := [.int 0]) (rest := []) (zWi_q g _ _) ⟨hx, hb, hml, hown, hts⟩ (kX4_refused l g h0 h1 (.ref h2) (.ref h3) (.ref h4) (.ref h5) (.ref h6) rf sz ac sF sB sp ou tx 0 e10) (cwV 1 hts gX4_goneIn_X4_refused rfl rfl rfl hdV_X4_refused ⟨Nat.le_of_ble_eq_true rfl, Nat.le_of_ble_eq_true rfl⟩) hK hP hD hS hA [0, 1] (by decide) rfl rfl 0 rfl rfl rfl hl.1 rfl (Nat.le_of_ble_eq_true rfl) ⟨Nat.zero_le _, Nat.zero_le _⟩ dX4_goneIn_13 (fun H locs hP hD hS => ?_)
    replace hP : zP g (zMA g h0 h1 h2 h3 h4 h5 h6 rf10 sz ac sF sB sp ou tx nw tr di ke ik) H := hP
    replace hD : va_D A (zMA g h0 h1 h2 h3 h4 h5 h6 rf10 sz ac sF sB sp ou tx nw tr di ke ik) := hD
    refine lv_if_eq (tgt := 21) hx hb dX4_goneIn_16 (by decide) (fun c11 => ?_) (fun c11 => ?_)
    · replace h := zt c11 h
      refine lv_aload_n hx hb dX4_goneIn_21 rfl (lv_at hl 0 rfl) ?_
      refine va_get (ci := 4) (v := .ref h2) (C := RX4) (T := TX4) (N := 13) hx hb hts uX4_goneIn_X4 hown hK hP 0 rfl rfl 3 (by decide) (hts _ mX4_goneIn_13) (fun _ h9 => h9) rfl dX4_goneIn_22 ?_
      refine lv_iconst (v := 0) hx hb dX4_goneIn_25 (by decide) ?_
      refine lv_aload_n hx hb dX4_goneIn_26 rfl (lv_at hl 0 rfl) ?_
      refine va_get (ci := 4) (v := .ref h3) (C := RX4) (T := TX4) (N := 13) hx hb hts uX4_goneIn_X4 hown hK hP 0 rfl rfl 4 (by decide) (hts _ mX4_goneIn_16) (fun _ h9 => h9) rfl dX4_goneIn_27 ?_
      refine lv_iconst (v := 0) hx hb dX4_goneIn_30 (by decide) ?_
      obtain ⟨tr12, e12, h⟩ := zb h
      refine zSw (As := [.ref h2, .int 0, .ref h3, .int 0]) (rest := []) (zWv_q g _) ⟨hx, hb, hml, hown, hts⟩ (kX4_copyState l g 785 785 h2 h3 nw tr 0 0 e12) (va_cwS 4 hts gX4_goneIn_X4_copyState rfl rfl rfl hdS_X4_copyState ⟨Nat.le_of_ble_eq_true rfl, Nat.le_of_ble_eq_true rfl⟩) hK hP hD hS hA [2, 3] (by decide) rfl rfl rfl hl.1 rfl (Nat.le_of_ble_eq_true rfl) ⟨Nat.zero_le _, Nat.zero_le _⟩ dX4_goneIn_31 (fun H locs hP hD hS => ?_)
      replace hP : zP g (zMA g h0 h1 h2 h3 h4 h5 h6 rf10 sz ac sF sB sp ou tx nw tr12 di ke ik) H := hP
      replace hD : va_D A (zMA g h0 h1 h2 h3 h4 h5 h6 rf10 sz ac sF sB sp ou tx nw tr12 di ke ik) := hD
      refine lv_iconst (v := 0) hx hb dX4_goneIn_34 (by decide) ?_
      refine lv_istore_n (lv' := [(2, .int 0), (0, .ref h0), (1, .int a1)]) hx hb dX4_goneIn_35 rfl hl (by decide) rfl (fun ls hl => ?_)
      exact loop_36 1000 a1 0 rf10 sF sB tr12 h H locs hP hD hS ls (lv_sub hl [1, 2, 0] rfl)
    · replace h := zf c11 h
      refine lv_iconst (v := 0) hx hb dX4_goneIn_19 (by decide) ?_
      cases h
      exact zw_i hx hb hr hlocks hP hS dX4_goneIn_20
def fX4_coming (sF : Int32) (sB : Int32) (nw : Nat → Int32) (tr : Nat → Int32) (a1 : Int32) (a2 : Int32) : Option (Int32 × (Int32) × (Int32) × (Int32) × (Nat → Int32)) :=
  ob (fX4_in a1.toInt64 1 (100)) fun r1 =>
  if r1 = 0 then
    ob2 (fX4_refused 1) fun r3 rf3 =>
    if r3 = 0 then
      ob (fX4_copyState 785 785 nw tr 0 0) fun tr5 =>
      ob4 (fX4_runOn sF sB tr5 a1) fun r6 sF6 sB6 tr6 =>
      if a2 = 0 then
        some (r6, rf3, sF6, sB6, tr6)
      else
        if a2 = 1 then
          some (((tr6 770) - (nw 770)), rf3, sF6, sB6, tr6)
        else
          if a2 = 2 then
            ob (fX4_ranges tr6) fun r11 =>
            some (r11, rf3, sF6, sB6, tr6)
          else
            ob (fX4_queuedBlocks tr6) fun r10 =>
            some (r10, rf3, sF6, sB6, tr6)
    else
      some (0, rf3, sF, sB, tr)
  else
    ob (fX4_in a2.toInt64 0 (3)) fun r12 =>
    if r12 = 0 then
      ob2 (fX4_refused 1) fun r14 rf14 =>
      if r14 = 0 then
        ob (fX4_copyState 785 785 nw tr 0 0) fun tr16 =>
        ob4 (fX4_runOn sF sB tr16 a1) fun r17 sF17 sB17 tr17 =>
        if a2 = 0 then
          some (r17, rf14, sF17, sB17, tr17)
        else
          if a2 = 1 then
            some (((tr17 770) - (nw 770)), rf14, sF17, sB17, tr17)
          else
            if a2 = 2 then
              ob (fX4_ranges tr17) fun r22 =>
              some (r22, rf14, sF17, sB17, tr17)
            else
              ob (fX4_queuedBlocks tr17) fun r21 =>
              some (r21, rf14, sF17, sB17, tr17)
      else
        some (0, rf14, sF, sB, tr)
    else
      ob2 (fX4_refused 0) fun r23 rf23 =>
      if r23 = 0 then
        ob (fX4_copyState 785 785 nw tr 0 0) fun tr25 =>
        ob4 (fX4_runOn sF sB tr25 a1) fun r26 sF26 sB26 tr26 =>
        if a2 = 0 then
          some (r26, rf23, sF26, sB26, tr26)
        else
          if a2 = 1 then
            some (((tr26 770) - (nw 770)), rf23, sF26, sB26, tr26)
          else
            if a2 = 2 then
              ob (fX4_ranges tr26) fun r31 =>
              some (r31, rf23, sF26, sB26, tr26)
            else
              ob (fX4_queuedBlocks tr26) fun r30 =>
              some (r30, rf23, sF26, sB26, tr26)
      else
        some (0, rf23, sF, sB, tr)
theorem mX4_coming_201 : Cond.constantLong RX4 201 (100) ∈ wsX4_coming := by decide +kernel
theorem mX4_coming_13 : Cond.fieldLink RX4 13 "IdleDiscardsModel" "now" "[I" ∈ wsX4_coming := by decide +kernel
theorem uX4_coming_X4 : ∀ w ∈ wsX40, w ∈ wsX4_coming := by decide +kernel
theorem mX4_coming_16 : Cond.fieldLink RX4 16 "IdleDiscardsModel" "trial" "[I" ∈ wsX4_coming := by decide +kernel
theorem mX4_coming_186 : Cond.constantLong RX4 186 (3) ∈ wsX4_coming := by decide +kernel
set_option maxRecDepth 100000 in
set_option maxHeartbeats 4000000 in
theorem kX4_coming (l : Launch) (g : zG) (h0 h1 h2 h3 h4 h5 h6 : Nat) (rf : Int32) (sz : Int32) (ac : Int32) (sF : Int32) (sB : Int32) (sp : Int32) (ou : Int32) (tx : Nat → Int32) (nw : Nat → Int32) (tr : Nat → Int32) (di : Nat → Int32) (ke : Nat → Int32) (ik : Nat → Int32) (a1 : Int32) (a2 : Int32) {r : Int32} {rf' : Int32} {sF' : Int32} {sB' : Int32} {tr' : Nat → Int32} (h : fX4_coming sF sB nw tr a1 a2 = some (r, rf', sF', sB', tr')) : Mw l g yX4_coming wsX4_coming { frames := 9, cells := 0, slots := 0, locals := 206 } [.ref h0, .int a1, .int a2] (zMA g h0 h1 h2 h3 h4 h5 h6 rf sz ac sF sB sp ou tx nw tr di ke ik) (zWi g (zMA g h0 h1 h2 h3 h4 h5 h6 rf' sz ac sF' sB' sp ou tx nw tr' di ke ik) r) := by
  refine zw_in (cc := cX4_coming) (maxL := 4) (ret := (some .int)) (by decide) rfl (Nat.le_of_ble_eq_true rfl) ?_
  intro p e s m below meth c hx hb hr hml hts hown hlocks hK A hA hP hD hS ls hl
  replace hl : lv_has ls 4 [(0, .ref h0), (1, .int a1), (2, .int a2)] := hl
  unfold fX4_coming at h
  refine lv_aload_n hx hb dX4_coming_0 rfl (lv_at hl 0 rfl) ?_
  refine lv_iload_n hx hb dX4_coming_1 rfl (lv_at hl 1 rfl) ?_
  refine lv_i2l (v := a1.toInt64) hx hb dX4_coming_2 rfl ?_
  refine lv_lconst (v := 1) hx hb dX4_coming_3 (by decide) ?_
  refine lv_ldc2 hx hb hown (hts _ mX4_coming_201) dX4_coming_4 ?_
  obtain ⟨r1, e1, h⟩ := zb h
  refine zS (As := [.long a1.toInt64, .long 1, .long (100)]) (rest := [.ref h0]) (zQi_q _) ⟨hx, hb, hml, hown, hts⟩ (kX4_in l g a1.toInt64 1 (100) e1) (va_cwS 3 hts gX4_coming_X4_in rfl rfl rfl hdS_X4_in ⟨Nat.le_of_ble_eq_true rfl, Nat.le_of_ble_eq_true rfl⟩) hK hP [] rfl rfl hl.1 rfl (Nat.le_of_ble_eq_true rfl) ⟨Nat.zero_le _, Nat.zero_le _⟩ dX4_coming_7 ?_
  refine lv_if_eq (tgt := 29) hx hb dX4_coming_10 (by decide) (fun c2 => ?_) (fun c2 => ?_)
  · replace h := zt c2 h
    refine lv_iconst (v := 1) hx hb dX4_coming_29 (by decide) ?_
    obtain ⟨r3, rf3, e3, h⟩ := zb2 h
    refine zVw (As := [.int 1]) (rest := []) (zWi_q g _ _) ⟨hx, hb, hml, hown, hts⟩ (kX4_refused l g h0 h1 (.ref h2) (.ref h3) (.ref h4) (.ref h5) (.ref h6) rf sz ac sF sB sp ou tx 1 e3) (cwV 1 hts gX4_coming_X4_refused rfl rfl rfl hdV_X4_refused ⟨Nat.le_of_ble_eq_true rfl, Nat.le_of_ble_eq_true rfl⟩) hK hP hD hS hA [0, 1] (by decide) rfl rfl 0 rfl rfl rfl hl.1 rfl (Nat.le_of_ble_eq_true rfl) ⟨Nat.zero_le _, Nat.zero_le _⟩ dX4_coming_30 (fun H locs hP hD hS => ?_)
    replace hP : zP g (zMA g h0 h1 h2 h3 h4 h5 h6 rf3 sz ac sF sB sp ou tx nw tr di ke ik) H := hP
    replace hD : va_D A (zMA g h0 h1 h2 h3 h4 h5 h6 rf3 sz ac sF sB sp ou tx nw tr di ke ik) := hD
    refine lv_if_eq (tgt := 38) hx hb dX4_coming_33 (by decide) (fun c4 => ?_) (fun c4 => ?_)
    · replace h := zt c4 h
      refine lv_aload_n hx hb dX4_coming_38 rfl (lv_at hl 0 rfl) ?_
      refine va_get (ci := 4) (v := .ref h2) (C := RX4) (T := TX4) (N := 13) hx hb hts uX4_coming_X4 hown hK hP 0 rfl rfl 3 (by decide) (hts _ mX4_coming_13) (fun _ h9 => h9) rfl dX4_coming_39 ?_
      refine lv_iconst (v := 0) hx hb dX4_coming_42 (by decide) ?_
      refine lv_aload_n hx hb dX4_coming_43 rfl (lv_at hl 0 rfl) ?_
      refine va_get (ci := 4) (v := .ref h3) (C := RX4) (T := TX4) (N := 13) hx hb hts uX4_coming_X4 hown hK hP 0 rfl rfl 4 (by decide) (hts _ mX4_coming_16) (fun _ h9 => h9) rfl dX4_coming_44 ?_
      refine lv_iconst (v := 0) hx hb dX4_coming_47 (by decide) ?_
      obtain ⟨tr5, e5, h⟩ := zb h
      refine zSw (As := [.ref h2, .int 0, .ref h3, .int 0]) (rest := []) (zWv_q g _) ⟨hx, hb, hml, hown, hts⟩ (kX4_copyState l g 785 785 h2 h3 nw tr 0 0 e5) (va_cwS 4 hts gX4_coming_X4_copyState rfl rfl rfl hdS_X4_copyState ⟨Nat.le_of_ble_eq_true rfl, Nat.le_of_ble_eq_true rfl⟩) hK hP hD hS hA [2, 3] (by decide) rfl rfl rfl hl.1 rfl (Nat.le_of_ble_eq_true rfl) ⟨Nat.zero_le _, Nat.zero_le _⟩ dX4_coming_48 (fun H locs hP hD hS => ?_)
      replace hP : zP g (zMA g h0 h1 h2 h3 h4 h5 h6 rf3 sz ac sF sB sp ou tx nw tr5 di ke ik) H := hP
      replace hD : va_D A (zMA g h0 h1 h2 h3 h4 h5 h6 rf3 sz ac sF sB sp ou tx nw tr5 di ke ik) := hD
      refine lv_aload_n hx hb dX4_coming_51 rfl (lv_at hl 0 rfl) ?_
      refine lv_aload_n hx hb dX4_coming_52 rfl (lv_at hl 0 rfl) ?_
      refine va_get (ci := 4) (v := .ref h3) (C := RX4) (T := TX4) (N := 13) hx hb hts uX4_coming_X4 hown hK hP 0 rfl rfl 4 (by decide) (hts _ mX4_coming_16) (fun _ h9 => h9) rfl dX4_coming_53 ?_
      refine lv_iload_n hx hb dX4_coming_56 rfl (lv_at hl 1 rfl) ?_
      obtain ⟨r6, sF6, sB6, tr6, e6, h⟩ := zb4 h
      refine zVw (As := [.ref h3, .int a1]) (rest := []) (zWi_q g _ _) ⟨hx, hb, hml, hown, hts⟩ (kX4_runOn l g h0 h1 h3 (.ref h2) (.ref h3) (.ref h4) (.ref h5) (.ref h6) rf3 sz ac sF sB sp ou tx tr5 a1 e6) (cwV 2 hts gX4_coming_X4_runOn rfl rfl rfl hdV_X4_runOn ⟨Nat.le_of_ble_eq_true rfl, Nat.le_of_ble_eq_true rfl⟩) hK hP hD hS hA [0, 1, 3] (by decide) rfl rfl 0 rfl rfl rfl hl.1 rfl (Nat.le_of_ble_eq_true rfl) ⟨Nat.zero_le _, Nat.zero_le _⟩ dX4_coming_57 (fun H locs hP hD hS => ?_)
      replace hP : zP g (zMA g h0 h1 h2 h3 h4 h5 h6 rf3 sz ac sF6 sB6 sp ou tx nw tr6 di ke ik) H := hP
      replace hD : va_D A (zMA g h0 h1 h2 h3 h4 h5 h6 rf3 sz ac sF6 sB6 sp ou tx nw tr6 di ke ik) := hD
      refine lv_istore_n (lv' := [(3, .int r6), (0, .ref h0), (1, .int a1), (2, .int a2)]) hx hb dX4_coming_60 rfl hl (by decide) rfl (fun ls hl => ?_)
      refine lv_iload_n hx hb dX4_coming_61 rfl (lv_at hl 3 rfl) ?_
      refine lv_if_ne (tgt := 69) hx hb dX4_coming_62 (by decide) (fun c7 => ?_) (fun c7 => ?_)
      · replace h := zf c7 h
        refine lv_iload_n hx hb dX4_coming_69 rfl (lv_at hl 3 rfl) ?_
        refine lv_iconst (v := 1) hx hb dX4_coming_70 (by decide) ?_
        refine lv_icmp_ne (tgt := 94) hx hb dX4_coming_71 (by decide) (fun c8 => ?_) (fun c8 => ?_)
        · replace h := zf c8 h
          refine lv_iload_n hx hb dX4_coming_94 rfl (lv_at hl 3 rfl) ?_
          refine lv_iconst (v := 2) hx hb dX4_coming_95 (by decide) ?_
          refine lv_icmp_ne (tgt := 109) hx hb dX4_coming_96 (by decide) (fun c9 => ?_) (fun c9 => ?_)
          · replace h := zf c9 h
            refine lv_aload_n hx hb dX4_coming_109 rfl (lv_at hl 1 rfl) ?_
            refine va_get (ci := 4) (v := .ref h3) (C := RX4) (T := TX4) (N := 13) hx hb hts uX4_coming_X4 hown hK hP 0 rfl rfl 4 (by decide) (hts _ mX4_coming_16) (fun _ h9 => h9) rfl dX4_coming_110 ?_
            obtain ⟨r10, e10, h⟩ := zb h
            refine zS (As := [.ref h3]) (rest := []) (zQi_q _) ⟨hx, hb, hml, hown, hts⟩ (kX4_queuedBlocks l g h3 tr6 e10) (va_cwS 1 hts gX4_coming_X4_queuedBlocks rfl rfl rfl hdS_X4_queuedBlocks ⟨Nat.le_of_ble_eq_true rfl, Nat.le_of_ble_eq_true rfl⟩) hK hP [3] rfl rfl hl.1 rfl (Nat.le_of_ble_eq_true rfl) ⟨Nat.zero_le _, Nat.zero_le _⟩ dX4_coming_113 ?_
            cases h
            exact zw_i hx hb hr hlocks hP hS dX4_coming_116
          · replace h := zt c9 h
            refine lv_aload_n hx hb dX4_coming_99 rfl (lv_at hl 1 rfl) ?_
            refine va_get (ci := 4) (v := .ref h3) (C := RX4) (T := TX4) (N := 13) hx hb hts uX4_coming_X4 hown hK hP 0 rfl rfl 4 (by decide) (hts _ mX4_coming_16) (fun _ h9 => h9) rfl dX4_coming_100 ?_
            obtain ⟨r11, e11, h⟩ := zb h
            refine zS (As := [.ref h3]) (rest := []) (zQi_q _) ⟨hx, hb, hml, hown, hts⟩ (kX4_ranges l g h3 tr6 e11) (va_cwS 1 hts gX4_coming_X4_ranges rfl rfl rfl hdS_X4_ranges ⟨Nat.le_of_ble_eq_true rfl, Nat.le_of_ble_eq_true rfl⟩) hK hP [3] rfl rfl hl.1 rfl (Nat.le_of_ble_eq_true rfl) ⟨Nat.zero_le _, Nat.zero_le _⟩ dX4_coming_103 ?_
            refine lv_goto (tgt := 116) hx hb dX4_coming_106 (by decide) ?_
            cases h
            exact zw_i hx hb hr hlocks hP hS dX4_coming_116
        · replace h := zt c8 h
          refine lv_aload_n hx hb dX4_coming_74 rfl (lv_at hl 1 rfl) ?_
          refine va_get (ci := 4) (v := .ref h3) (C := RX4) (T := TX4) (N := 13) hx hb hts uX4_coming_X4 hown hK hP 0 rfl rfl 4 (by decide) (hts _ mX4_coming_16) (fun _ h9 => h9) rfl dX4_coming_75 ?_
          refine lv_sipush (v := 770) hx hb dX4_coming_78 (by decide) ?_
          refine za_ild hx hb hK hP 3 rfl 770 (by decide) (by decide) dX4_coming_81 ?_
          refine lv_aload_n hx hb dX4_coming_82 rfl (lv_at hl 1 rfl) ?_
          refine va_get (ci := 4) (v := .ref h2) (C := RX4) (T := TX4) (N := 13) hx hb hts uX4_coming_X4 hown hK hP 0 rfl rfl 3 (by decide) (hts _ mX4_coming_13) (fun _ h9 => h9) rfl dX4_coming_83 ?_
          refine lv_sipush (v := 770) hx hb dX4_coming_86 (by decide) ?_
          refine za_ild hx hb hK hP 2 rfl 770 (by decide) (by decide) dX4_coming_89 ?_
          refine lv_isub hx hb dX4_coming_90 ?_
          refine lv_goto (tgt := 116) hx hb dX4_coming_91 (by decide) ?_
          cases h
          exact zw_i hx hb hr hlocks hP hS dX4_coming_116
      · replace h := zt c7 h
        refine lv_iload_n hx hb dX4_coming_65 rfl (lv_at hl 0 rfl) ?_
        refine lv_goto (tgt := 116) hx hb dX4_coming_66 (by decide) ?_
        cases h
        exact zw_i hx hb hr hlocks hP hS dX4_coming_116
    · replace h := zf c4 h
      refine lv_iconst (v := 0) hx hb dX4_coming_36 (by decide) ?_
      cases h
      exact zw_i hx hb hr hlocks hP hS dX4_coming_37
  · replace h := zf c2 h
    refine lv_iload_n hx hb dX4_coming_13 rfl (lv_at hl 2 rfl) ?_
    refine lv_i2l (v := a2.toInt64) hx hb dX4_coming_14 rfl ?_
    refine lv_lconst (v := 0) hx hb dX4_coming_15 (by decide) ?_
    refine lv_ldc2 hx hb hown (hts _ mX4_coming_186) dX4_coming_16 ?_
    obtain ⟨r12, e12, h⟩ := zb h
    refine zS (As := [.long a2.toInt64, .long 0, .long (3)]) (rest := [.ref h0]) (zQi_q _) ⟨hx, hb, hml, hown, hts⟩ (kX4_in l g a2.toInt64 0 (3) e12) (va_cwS 3 hts gX4_coming_X4_in rfl rfl rfl hdS_X4_in ⟨Nat.le_of_ble_eq_true rfl, Nat.le_of_ble_eq_true rfl⟩) hK hP [] rfl rfl hl.1 rfl (Nat.le_of_ble_eq_true rfl) ⟨Nat.zero_le _, Nat.zero_le _⟩ dX4_coming_19 ?_
    refine lv_if_eq (tgt := 29) hx hb dX4_coming_22 (by decide) (fun c13 => ?_) (fun c13 => ?_)
    · replace h := zt c13 h
      refine lv_iconst (v := 1) hx hb dX4_coming_29 (by decide) ?_
      obtain ⟨r14, rf14, e14, h⟩ := zb2 h
      refine zVw (As := [.int 1]) (rest := []) (zWi_q g _ _) ⟨hx, hb, hml, hown, hts⟩ (kX4_refused l g h0 h1 (.ref h2) (.ref h3) (.ref h4) (.ref h5) (.ref h6) rf sz ac sF sB sp ou tx 1 e14) (cwV 1 hts gX4_coming_X4_refused rfl rfl rfl hdV_X4_refused ⟨Nat.le_of_ble_eq_true rfl, Nat.le_of_ble_eq_true rfl⟩) hK hP hD hS hA [0, 1] (by decide) rfl rfl 0 rfl rfl rfl hl.1 rfl (Nat.le_of_ble_eq_true rfl) ⟨Nat.zero_le _, Nat.zero_le _⟩ dX4_coming_30 (fun H locs hP hD hS => ?_)
      replace hP : zP g (zMA g h0 h1 h2 h3 h4 h5 h6 rf14 sz ac sF sB sp ou tx nw tr di ke ik) H := hP
      replace hD : va_D A (zMA g h0 h1 h2 h3 h4 h5 h6 rf14 sz ac sF sB sp ou tx nw tr di ke ik) := hD
      refine lv_if_eq (tgt := 38) hx hb dX4_coming_33 (by decide) (fun c15 => ?_) (fun c15 => ?_)
      · replace h := zt c15 h
        refine lv_aload_n hx hb dX4_coming_38 rfl (lv_at hl 0 rfl) ?_
        refine va_get (ci := 4) (v := .ref h2) (C := RX4) (T := TX4) (N := 13) hx hb hts uX4_coming_X4 hown hK hP 0 rfl rfl 3 (by decide) (hts _ mX4_coming_13) (fun _ h9 => h9) rfl dX4_coming_39 ?_
        refine lv_iconst (v := 0) hx hb dX4_coming_42 (by decide) ?_
        refine lv_aload_n hx hb dX4_coming_43 rfl (lv_at hl 0 rfl) ?_
        refine va_get (ci := 4) (v := .ref h3) (C := RX4) (T := TX4) (N := 13) hx hb hts uX4_coming_X4 hown hK hP 0 rfl rfl 4 (by decide) (hts _ mX4_coming_16) (fun _ h9 => h9) rfl dX4_coming_44 ?_
        refine lv_iconst (v := 0) hx hb dX4_coming_47 (by decide) ?_
        obtain ⟨tr16, e16, h⟩ := zb h
        refine zSw (As := [.ref h2, .int 0, .ref h3, .int 0]) (rest := []) (zWv_q g _) ⟨hx, hb, hml, hown, hts⟩ (kX4_copyState l g 785 785 h2 h3 nw tr 0 0 e16) (va_cwS 4 hts gX4_coming_X4_copyState rfl rfl rfl hdS_X4_copyState ⟨Nat.le_of_ble_eq_true rfl, Nat.le_of_ble_eq_true rfl⟩) hK hP hD hS hA [2, 3] (by decide) rfl rfl rfl hl.1 rfl (Nat.le_of_ble_eq_true rfl) ⟨Nat.zero_le _, Nat.zero_le _⟩ dX4_coming_48 (fun H locs hP hD hS => ?_)
        replace hP : zP g (zMA g h0 h1 h2 h3 h4 h5 h6 rf14 sz ac sF sB sp ou tx nw tr16 di ke ik) H := hP
        replace hD : va_D A (zMA g h0 h1 h2 h3 h4 h5 h6 rf14 sz ac sF sB sp ou tx nw tr16 di ke ik) := hD
        refine lv_aload_n hx hb dX4_coming_51 rfl (lv_at hl 0 rfl) ?_
        refine lv_aload_n hx hb dX4_coming_52 rfl (lv_at hl 0 rfl) ?_
        refine va_get (ci := 4) (v := .ref h3) (C := RX4) (T := TX4) (N := 13) hx hb hts uX4_coming_X4 hown hK hP 0 rfl rfl 4 (by decide) (hts _ mX4_coming_16) (fun _ h9 => h9) rfl dX4_coming_53 ?_
        refine lv_iload_n hx hb dX4_coming_56 rfl (lv_at hl 1 rfl) ?_
        obtain ⟨r17, sF17, sB17, tr17, e17, h⟩ := zb4 h
        refine zVw (As := [.ref h3, .int a1]) (rest := []) (zWi_q g _ _) ⟨hx, hb, hml, hown, hts⟩ (kX4_runOn l g h0 h1 h3 (.ref h2) (.ref h3) (.ref h4) (.ref h5) (.ref h6) rf14 sz ac sF sB sp ou tx tr16 a1 e17) (cwV 2 hts gX4_coming_X4_runOn rfl rfl rfl hdV_X4_runOn ⟨Nat.le_of_ble_eq_true rfl, Nat.le_of_ble_eq_true rfl⟩) hK hP hD hS hA [0, 1, 3] (by decide) rfl rfl 0 rfl rfl rfl hl.1 rfl (Nat.le_of_ble_eq_true rfl) ⟨Nat.zero_le _, Nat.zero_le _⟩ dX4_coming_57 (fun H locs hP hD hS => ?_)
        replace hP : zP g (zMA g h0 h1 h2 h3 h4 h5 h6 rf14 sz ac sF17 sB17 sp ou tx nw tr17 di ke ik) H := hP
        replace hD : va_D A (zMA g h0 h1 h2 h3 h4 h5 h6 rf14 sz ac sF17 sB17 sp ou tx nw tr17 di ke ik) := hD
        refine lv_istore_n (lv' := [(3, .int r17), (0, .ref h0), (1, .int a1), (2, .int a2)]) hx hb dX4_coming_60 rfl hl (by decide) rfl (fun ls hl => ?_)
        refine lv_iload_n hx hb dX4_coming_61 rfl (lv_at hl 3 rfl) ?_
        refine lv_if_ne (tgt := 69) hx hb dX4_coming_62 (by decide) (fun c18 => ?_) (fun c18 => ?_)
        · replace h := zf c18 h
          refine lv_iload_n hx hb dX4_coming_69 rfl (lv_at hl 3 rfl) ?_
          refine lv_iconst (v := 1) hx hb dX4_coming_70 (by decide) ?_
          refine lv_icmp_ne (tgt := 94) hx hb dX4_coming_71 (by decide) (fun c19 => ?_) (fun c19 => ?_)
          · replace h := zf c19 h
            refine lv_iload_n hx hb dX4_coming_94 rfl (lv_at hl 3 rfl) ?_
            refine lv_iconst (v := 2) hx hb dX4_coming_95 (by decide) ?_
            refine lv_icmp_ne (tgt := 109) hx hb dX4_coming_96 (by decide) (fun c20 => ?_) (fun c20 => ?_)
            · replace h := zf c20 h
              refine lv_aload_n hx hb dX4_coming_109 rfl (lv_at hl 1 rfl) ?_
              refine va_get (ci := 4) (v := .ref h3) (C := RX4) (T := TX4) (N := 13) hx hb hts uX4_coming_X4 hown hK hP 0 rfl rfl 4 (by decide) (hts _ mX4_coming_16) (fun _ h9 => h9) rfl dX4_coming_110 ?_
              obtain ⟨r21, e21, h⟩ := zb h
              refine zS (As := [.ref h3]) (rest := []) (zQi_q _) ⟨hx, hb, hml, hown, hts⟩ (kX4_queuedBlocks l g h3 tr17 e21) (va_cwS 1 hts gX4_coming_X4_queuedBlocks rfl rfl rfl hdS_X4_queuedBlocks ⟨Nat.le_of_ble_eq_true rfl, Nat.le_of_ble_eq_true rfl⟩) hK hP [3] rfl rfl hl.1 rfl (Nat.le_of_ble_eq_true rfl) ⟨Nat.zero_le _, Nat.zero_le _⟩ dX4_coming_113 ?_
              cases h
              exact zw_i hx hb hr hlocks hP hS dX4_coming_116
            · replace h := zt c20 h
              refine lv_aload_n hx hb dX4_coming_99 rfl (lv_at hl 1 rfl) ?_
              refine va_get (ci := 4) (v := .ref h3) (C := RX4) (T := TX4) (N := 13) hx hb hts uX4_coming_X4 hown hK hP 0 rfl rfl 4 (by decide) (hts _ mX4_coming_16) (fun _ h9 => h9) rfl dX4_coming_100 ?_
              obtain ⟨r22, e22, h⟩ := zb h
              refine zS (As := [.ref h3]) (rest := []) (zQi_q _) ⟨hx, hb, hml, hown, hts⟩ (kX4_ranges l g h3 tr17 e22) (va_cwS 1 hts gX4_coming_X4_ranges rfl rfl rfl hdS_X4_ranges ⟨Nat.le_of_ble_eq_true rfl, Nat.le_of_ble_eq_true rfl⟩) hK hP [3] rfl rfl hl.1 rfl (Nat.le_of_ble_eq_true rfl) ⟨Nat.zero_le _, Nat.zero_le _⟩ dX4_coming_103 ?_
              refine lv_goto (tgt := 116) hx hb dX4_coming_106 (by decide) ?_
              cases h
              exact zw_i hx hb hr hlocks hP hS dX4_coming_116
          · replace h := zt c19 h
            refine lv_aload_n hx hb dX4_coming_74 rfl (lv_at hl 1 rfl) ?_
            refine va_get (ci := 4) (v := .ref h3) (C := RX4) (T := TX4) (N := 13) hx hb hts uX4_coming_X4 hown hK hP 0 rfl rfl 4 (by decide) (hts _ mX4_coming_16) (fun _ h9 => h9) rfl dX4_coming_75 ?_
            refine lv_sipush (v := 770) hx hb dX4_coming_78 (by decide) ?_
            refine za_ild hx hb hK hP 3 rfl 770 (by decide) (by decide) dX4_coming_81 ?_
            refine lv_aload_n hx hb dX4_coming_82 rfl (lv_at hl 1 rfl) ?_
            refine va_get (ci := 4) (v := .ref h2) (C := RX4) (T := TX4) (N := 13) hx hb hts uX4_coming_X4 hown hK hP 0 rfl rfl 3 (by decide) (hts _ mX4_coming_13) (fun _ h9 => h9) rfl dX4_coming_83 ?_
            refine lv_sipush (v := 770) hx hb dX4_coming_86 (by decide) ?_
            refine za_ild hx hb hK hP 2 rfl 770 (by decide) (by decide) dX4_coming_89 ?_
            refine lv_isub hx hb dX4_coming_90 ?_
            refine lv_goto (tgt := 116) hx hb dX4_coming_91 (by decide) ?_
            cases h
            exact zw_i hx hb hr hlocks hP hS dX4_coming_116
        · replace h := zt c18 h
          refine lv_iload_n hx hb dX4_coming_65 rfl (lv_at hl 0 rfl) ?_
          refine lv_goto (tgt := 116) hx hb dX4_coming_66 (by decide) ?_
          cases h
          exact zw_i hx hb hr hlocks hP hS dX4_coming_116
      · replace h := zf c15 h
        refine lv_iconst (v := 0) hx hb dX4_coming_36 (by decide) ?_
        cases h
        exact zw_i hx hb hr hlocks hP hS dX4_coming_37
    · replace h := zf c13 h
      refine lv_iconst (v := 0) hx hb dX4_coming_25 (by decide) ?_
      refine lv_goto (tgt := 30) hx hb dX4_coming_26 (by decide) ?_
      obtain ⟨r23, rf23, e23, h⟩ := zb2 h
      refine zVw (As := [.int 0]) (rest := []) (zWi_q g _ _) ⟨hx, hb, hml, hown, hts⟩ (kX4_refused l g h0 h1 (.ref h2) (.ref h3) (.ref h4) (.ref h5) (.ref h6) rf sz ac sF sB sp ou tx 0 e23) (cwV 1 hts gX4_coming_X4_refused rfl rfl rfl hdV_X4_refused ⟨Nat.le_of_ble_eq_true rfl, Nat.le_of_ble_eq_true rfl⟩) hK hP hD hS hA [0, 1] (by decide) rfl rfl 0 rfl rfl rfl hl.1 rfl (Nat.le_of_ble_eq_true rfl) ⟨Nat.zero_le _, Nat.zero_le _⟩ dX4_coming_30 (fun H locs hP hD hS => ?_)
      replace hP : zP g (zMA g h0 h1 h2 h3 h4 h5 h6 rf23 sz ac sF sB sp ou tx nw tr di ke ik) H := hP
      replace hD : va_D A (zMA g h0 h1 h2 h3 h4 h5 h6 rf23 sz ac sF sB sp ou tx nw tr di ke ik) := hD
      refine lv_if_eq (tgt := 38) hx hb dX4_coming_33 (by decide) (fun c24 => ?_) (fun c24 => ?_)
      · replace h := zt c24 h
        refine lv_aload_n hx hb dX4_coming_38 rfl (lv_at hl 0 rfl) ?_
        refine va_get (ci := 4) (v := .ref h2) (C := RX4) (T := TX4) (N := 13) hx hb hts uX4_coming_X4 hown hK hP 0 rfl rfl 3 (by decide) (hts _ mX4_coming_13) (fun _ h9 => h9) rfl dX4_coming_39 ?_
        refine lv_iconst (v := 0) hx hb dX4_coming_42 (by decide) ?_
        refine lv_aload_n hx hb dX4_coming_43 rfl (lv_at hl 0 rfl) ?_
        refine va_get (ci := 4) (v := .ref h3) (C := RX4) (T := TX4) (N := 13) hx hb hts uX4_coming_X4 hown hK hP 0 rfl rfl 4 (by decide) (hts _ mX4_coming_16) (fun _ h9 => h9) rfl dX4_coming_44 ?_
        refine lv_iconst (v := 0) hx hb dX4_coming_47 (by decide) ?_
        obtain ⟨tr25, e25, h⟩ := zb h
        refine zSw (As := [.ref h2, .int 0, .ref h3, .int 0]) (rest := []) (zWv_q g _) ⟨hx, hb, hml, hown, hts⟩ (kX4_copyState l g 785 785 h2 h3 nw tr 0 0 e25) (va_cwS 4 hts gX4_coming_X4_copyState rfl rfl rfl hdS_X4_copyState ⟨Nat.le_of_ble_eq_true rfl, Nat.le_of_ble_eq_true rfl⟩) hK hP hD hS hA [2, 3] (by decide) rfl rfl rfl hl.1 rfl (Nat.le_of_ble_eq_true rfl) ⟨Nat.zero_le _, Nat.zero_le _⟩ dX4_coming_48 (fun H locs hP hD hS => ?_)
        replace hP : zP g (zMA g h0 h1 h2 h3 h4 h5 h6 rf23 sz ac sF sB sp ou tx nw tr25 di ke ik) H := hP
        replace hD : va_D A (zMA g h0 h1 h2 h3 h4 h5 h6 rf23 sz ac sF sB sp ou tx nw tr25 di ke ik) := hD
        refine lv_aload_n hx hb dX4_coming_51 rfl (lv_at hl 0 rfl) ?_
        refine lv_aload_n hx hb dX4_coming_52 rfl (lv_at hl 0 rfl) ?_
        refine va_get (ci := 4) (v := .ref h3) (C := RX4) (T := TX4) (N := 13) hx hb hts uX4_coming_X4 hown hK hP 0 rfl rfl 4 (by decide) (hts _ mX4_coming_16) (fun _ h9 => h9) rfl dX4_coming_53 ?_
        refine lv_iload_n hx hb dX4_coming_56 rfl (lv_at hl 1 rfl) ?_
        obtain ⟨r26, sF26, sB26, tr26, e26, h⟩ := zb4 h
        refine zVw (As := [.ref h3, .int a1]) (rest := []) (zWi_q g _ _) ⟨hx, hb, hml, hown, hts⟩ (kX4_runOn l g h0 h1 h3 (.ref h2) (.ref h3) (.ref h4) (.ref h5) (.ref h6) rf23 sz ac sF sB sp ou tx tr25 a1 e26) (cwV 2 hts gX4_coming_X4_runOn rfl rfl rfl hdV_X4_runOn ⟨Nat.le_of_ble_eq_true rfl, Nat.le_of_ble_eq_true rfl⟩) hK hP hD hS hA [0, 1, 3] (by decide) rfl rfl 0 rfl rfl rfl hl.1 rfl (Nat.le_of_ble_eq_true rfl) ⟨Nat.zero_le _, Nat.zero_le _⟩ dX4_coming_57 (fun H locs hP hD hS => ?_)
        replace hP : zP g (zMA g h0 h1 h2 h3 h4 h5 h6 rf23 sz ac sF26 sB26 sp ou tx nw tr26 di ke ik) H := hP
        replace hD : va_D A (zMA g h0 h1 h2 h3 h4 h5 h6 rf23 sz ac sF26 sB26 sp ou tx nw tr26 di ke ik) := hD
        refine lv_istore_n (lv' := [(3, .int r26), (0, .ref h0), (1, .int a1), (2, .int a2)]) hx hb dX4_coming_60 rfl hl (by decide) rfl (fun ls hl => ?_)
        refine lv_iload_n hx hb dX4_coming_61 rfl (lv_at hl 3 rfl) ?_
        refine lv_if_ne (tgt := 69) hx hb dX4_coming_62 (by decide) (fun c27 => ?_) (fun c27 => ?_)
        · replace h := zf c27 h
          refine lv_iload_n hx hb dX4_coming_69 rfl (lv_at hl 3 rfl) ?_
          refine lv_iconst (v := 1) hx hb dX4_coming_70 (by decide) ?_
          refine lv_icmp_ne (tgt := 94) hx hb dX4_coming_71 (by decide) (fun c28 => ?_) (fun c28 => ?_)
          · replace h := zf c28 h
            refine lv_iload_n hx hb dX4_coming_94 rfl (lv_at hl 3 rfl) ?_
            refine lv_iconst (v := 2) hx hb dX4_coming_95 (by decide) ?_
            refine lv_icmp_ne (tgt := 109) hx hb dX4_coming_96 (by decide) (fun c29 => ?_) (fun c29 => ?_)
            · replace h := zf c29 h
              refine lv_aload_n hx hb dX4_coming_109 rfl (lv_at hl 1 rfl) ?_
              refine va_get (ci := 4) (v := .ref h3) (C := RX4) (T := TX4) (N := 13) hx hb hts uX4_coming_X4 hown hK hP 0 rfl rfl 4 (by decide) (hts _ mX4_coming_16) (fun _ h9 => h9) rfl dX4_coming_110 ?_
              obtain ⟨r30, e30, h⟩ := zb h
              refine zS (As := [.ref h3]) (rest := []) (zQi_q _) ⟨hx, hb, hml, hown, hts⟩ (kX4_queuedBlocks l g h3 tr26 e30) (va_cwS 1 hts gX4_coming_X4_queuedBlocks rfl rfl rfl hdS_X4_queuedBlocks ⟨Nat.le_of_ble_eq_true rfl, Nat.le_of_ble_eq_true rfl⟩) hK hP [3] rfl rfl hl.1 rfl (Nat.le_of_ble_eq_true rfl) ⟨Nat.zero_le _, Nat.zero_le _⟩ dX4_coming_113 ?_
              cases h
              exact zw_i hx hb hr hlocks hP hS dX4_coming_116
            · replace h := zt c29 h
              refine lv_aload_n hx hb dX4_coming_99 rfl (lv_at hl 1 rfl) ?_
              refine va_get (ci := 4) (v := .ref h3) (C := RX4) (T := TX4) (N := 13) hx hb hts uX4_coming_X4 hown hK hP 0 rfl rfl 4 (by decide) (hts _ mX4_coming_16) (fun _ h9 => h9) rfl dX4_coming_100 ?_
              obtain ⟨r31, e31, h⟩ := zb h
              refine zS (As := [.ref h3]) (rest := []) (zQi_q _) ⟨hx, hb, hml, hown, hts⟩ (kX4_ranges l g h3 tr26 e31) (va_cwS 1 hts gX4_coming_X4_ranges rfl rfl rfl hdS_X4_ranges ⟨Nat.le_of_ble_eq_true rfl, Nat.le_of_ble_eq_true rfl⟩) hK hP [3] rfl rfl hl.1 rfl (Nat.le_of_ble_eq_true rfl) ⟨Nat.zero_le _, Nat.zero_le _⟩ dX4_coming_103 ?_
              refine lv_goto (tgt := 116) hx hb dX4_coming_106 (by decide) ?_
              cases h
              exact zw_i hx hb hr hlocks hP hS dX4_coming_116
          · replace h := zt c28 h
            refine lv_aload_n hx hb dX4_coming_74 rfl (lv_at hl 1 rfl) ?_
            refine va_get (ci := 4) (v := .ref h3) (C := RX4) (T := TX4) (N := 13) hx hb hts uX4_coming_X4 hown hK hP 0 rfl rfl 4 (by decide) (hts _ mX4_coming_16) (fun _ h9 => h9) rfl dX4_coming_75 ?_
            refine lv_sipush (v := 770) hx hb dX4_coming_78 (by decide) ?_
            refine za_ild hx hb hK hP 3 rfl 770 (by decide) (by decide) dX4_coming_81 ?_
            refine lv_aload_n hx hb dX4_coming_82 rfl (lv_at hl 1 rfl) ?_
            refine va_get (ci := 4) (v := .ref h2) (C := RX4) (T := TX4) (N := 13) hx hb hts uX4_coming_X4 hown hK hP 0 rfl rfl 3 (by decide) (hts _ mX4_coming_13) (fun _ h9 => h9) rfl dX4_coming_83 ?_
            refine lv_sipush (v := 770) hx hb dX4_coming_86 (by decide) ?_
            refine za_ild hx hb hK hP 2 rfl 770 (by decide) (by decide) dX4_coming_89 ?_
            refine lv_isub hx hb dX4_coming_90 ?_
            refine lv_goto (tgt := 116) hx hb dX4_coming_91 (by decide) ?_
            cases h
            exact zw_i hx hb hr hlocks hP hS dX4_coming_116
        · replace h := zt c27 h
          refine lv_iload_n hx hb dX4_coming_65 rfl (lv_at hl 0 rfl) ?_
          refine lv_goto (tgt := 116) hx hb dX4_coming_66 (by decide) ?_
          cases h
          exact zw_i hx hb hr hlocks hP hS dX4_coming_116
      · replace h := zf c24 h
        refine lv_iconst (v := 0) hx hb dX4_coming_36 (by decide) ?_
        cases h
        exact zw_i hx hb hr hlocks hP hS dX4_coming_37
def fX4_bestGranule_33 (nw : Nat → Int32) : Nat → Int32 → Int32 → Int32 → Int32 → (Int32) → (Int32) → (Int32) → (Nat → Int32) → Option (Int32 × (Int32) × (Int32) × (Int32) × (Nat → Int32))
  | 0, _, _, _, _, _, _, _, _ => none
  | n + 1, v1, v2, v3, v4, rf, sF, sB, tr =>
    ob (fX4_greatest 0) fun r1 =>
      if r1 < v4 then
        some (v2, rf, sF, sB, tr)
      else
        ob (fX4_copyState 785 785 nw tr 0 0) fun tr3 =>
        ob4 (fX4_runOn sF sB (upd tr3 773 v4) v1) fun r4 sF4 sB4 tr4 =>
        if r4 < v3 then
          fX4_bestGranule_33 nw n v1 v2 v3 (v4 + 1) rf sF4 sB4 tr4
        else
          fX4_bestGranule_33 nw n v1 v4 r4 (v4 + 1) rf sF4 sB4 tr4
def fX4_bestGranule (sF : Int32) (sB : Int32) (nw : Nat → Int32) (tr : Nat → Int32) (a1 : Int32) : Option (Int32 × (Int32) × (Int32) × (Int32) × (Nat → Int32)) :=
  ob (fX4_in a1.toInt64 1 (60)) fun r6 =>
  if r6 = 0 then
    ob2 (fX4_refused 1) fun r8 rf8 =>
    if r8 = 0 then
      fX4_bestGranule_33 nw 1000 a1 (-1) (-1) 0 rf8 sF sB tr
    else
      some (0, rf8, sF, sB, tr)
  else
    ob2 (fX4_refused 0) fun r10 rf10 =>
    if r10 = 0 then
      fX4_bestGranule_33 nw 1000 a1 (-1) (-1) 0 rf10 sF sB tr
    else
      some (0, rf10, sF, sB, tr)
theorem mX4_bestGranule_13 : Cond.fieldLink RX4 13 "IdleDiscardsModel" "now" "[I" ∈ wsX4_bestGranule := by decide +kernel
theorem uX4_bestGranule_X4 : ∀ w ∈ wsX40, w ∈ wsX4_bestGranule := by decide +kernel
theorem mX4_bestGranule_16 : Cond.fieldLink RX4 16 "IdleDiscardsModel" "trial" "[I" ∈ wsX4_bestGranule := by decide +kernel
theorem mX4_bestGranule_196 : Cond.constantLong RX4 196 (60) ∈ wsX4_bestGranule := by decide +kernel
set_option maxRecDepth 100000 in
set_option maxHeartbeats 4000000 in
theorem kX4_bestGranule (l : Launch) (g : zG) (h0 h1 h2 h3 h4 h5 h6 : Nat) (rf : Int32) (sz : Int32) (ac : Int32) (sF : Int32) (sB : Int32) (sp : Int32) (ou : Int32) (tx : Nat → Int32) (nw : Nat → Int32) (tr : Nat → Int32) (di : Nat → Int32) (ke : Nat → Int32) (ik : Nat → Int32) (a1 : Int32) {r : Int32} {rf' : Int32} {sF' : Int32} {sB' : Int32} {tr' : Nat → Int32} (h : fX4_bestGranule sF sB nw tr a1 = some (r, rf', sF', sB', tr')) : Mw l g yX4_bestGranule wsX4_bestGranule { frames := 9, cells := 0, slots := 0, locals := 206 } [.ref h0, .int a1] (zMA g h0 h1 h2 h3 h4 h5 h6 rf sz ac sF sB sp ou tx nw tr di ke ik) (zWi g (zMA g h0 h1 h2 h3 h4 h5 h6 rf' sz ac sF' sB' sp ou tx nw tr' di ke ik) r) := by
  refine zw_in (cc := cX4_bestGranule) (maxL := 6) (ret := (some .int)) (by decide) rfl (Nat.le_of_ble_eq_true rfl) ?_
  intro p e s m below meth c hx hb hr hml hts hown hlocks hK A hA hP hD hS ls hl
  replace hl : lv_has ls 6 [(0, .ref h0), (1, .int a1)] := hl
  have loop_33 : ∀ (n : Nat) (v1 : Int32) (v2 : Int32) (v3 : Int32) (v4 : Int32) (rf : (Int32)) (sF : (Int32)) (sB : (Int32)) (tr : (Nat → Int32)), fX4_bestGranule_33 nw n v1 v2 v3 v4 rf sF sB tr = some (r, rf', sF', sB', tr') → ∀ (H : Heap) (locs : List Loc), zP g (zMA g h0 h1 h2 h3 h4 h5 h6 rf sz ac sF sB sp ou tx nw tr di ke ik) H → va_D A (zMA g h0 h1 h2 h3 h4 h5 h6 rf sz ac sF sB sp ou tx nw tr di ke ik) → va_S A s.heap H locs → ∀ (ls : Array Slot), lv_has ls 6 [(0, .ref h0), (1, .int v1), (2, .int v2), (3, .int v3), (4, .int v4)] → W p l e ({ frames := 9, cells := 0, slots := 0, locals := 206 } : Room) s m [.ref h0, .int a1].toArray below meth c H locs 0 0 (MQ below (zWi g (zMA g h0 h1 h2 h3 h4 h5 h6 rf' sz ac sF' sB' sp ou tx nw tr' di ke ik) r A) [.ref h0, .int a1].toArray s 0 0 A) (F0 m 33 ls []) := by
    intro n
    induction n with
    | zero => intro v1 v2 v3 v4 rf sF sB tr h H locs hP hD hS ls hl; exact zn h
    | succ n ih =>
      intro v1 v2 v3 v4 rf sF sB tr h H locs hP hD hS ls hl
      rw [fX4_bestGranule_33] at h
      refine lv_iload hx hb dX4_bestGranule_33 (lv_at hl 4 rfl) ?_
      refine lv_iconst (v := 0) hx hb dX4_bestGranule_35 (by decide) ?_
      obtain ⟨r1, e1, h⟩ := zb h
      refine zS (As := [.int 0]) (rest := [.int v4]) (zQi_q _) ⟨hx, hb, hml, hown, hts⟩ (kX4_greatest l g 0 e1) (va_cwS 1 hts gX4_bestGranule_X4_greatest rfl rfl rfl hdS_X4_greatest ⟨Nat.le_of_ble_eq_true rfl, Nat.le_of_ble_eq_true rfl⟩) hK hP [] rfl rfl hl.1 rfl (Nat.le_of_ble_eq_true rfl) ⟨Nat.zero_le _, Nat.zero_le _⟩ dX4_bestGranule_36 ?_
      refine lv_icmp_gt (tgt := 94) hx hb dX4_bestGranule_39 (by decide) (fun c2 => ?_) (fun c2 => ?_)
      · replace h := zt c2 h
        refine lv_iload_n hx hb dX4_bestGranule_94 rfl (lv_at hl 2 rfl) ?_
        cases h
        exact zw_i hx hb hr hlocks hP hS dX4_bestGranule_95
      · replace h := zf c2 h
        refine lv_aload_n hx hb dX4_bestGranule_42 rfl (lv_at hl 0 rfl) ?_
        refine va_get (ci := 4) (v := .ref h2) (C := RX4) (T := TX4) (N := 13) hx hb hts uX4_bestGranule_X4 hown hK hP 0 rfl rfl 3 (by decide) (hts _ mX4_bestGranule_13) (fun _ h9 => h9) rfl dX4_bestGranule_43 ?_
        refine lv_iconst (v := 0) hx hb dX4_bestGranule_46 (by decide) ?_
        refine lv_aload_n hx hb dX4_bestGranule_47 rfl (lv_at hl 0 rfl) ?_
        refine va_get (ci := 4) (v := .ref h3) (C := RX4) (T := TX4) (N := 13) hx hb hts uX4_bestGranule_X4 hown hK hP 0 rfl rfl 4 (by decide) (hts _ mX4_bestGranule_16) (fun _ h9 => h9) rfl dX4_bestGranule_48 ?_
        refine lv_iconst (v := 0) hx hb dX4_bestGranule_51 (by decide) ?_
        obtain ⟨tr3, e3, h⟩ := zb h
        refine zSw (As := [.ref h2, .int 0, .ref h3, .int 0]) (rest := []) (zWv_q g _) ⟨hx, hb, hml, hown, hts⟩ (kX4_copyState l g 785 785 h2 h3 nw tr 0 0 e3) (va_cwS 4 hts gX4_bestGranule_X4_copyState rfl rfl rfl hdS_X4_copyState ⟨Nat.le_of_ble_eq_true rfl, Nat.le_of_ble_eq_true rfl⟩) hK hP hD hS hA [2, 3] (by decide) rfl rfl rfl hl.1 rfl (Nat.le_of_ble_eq_true rfl) ⟨Nat.zero_le _, Nat.zero_le _⟩ dX4_bestGranule_52 (fun H locs hP hD hS => ?_)
        replace hP : zP g (zMA g h0 h1 h2 h3 h4 h5 h6 rf sz ac sF sB sp ou tx nw tr3 di ke ik) H := hP
        replace hD : va_D A (zMA g h0 h1 h2 h3 h4 h5 h6 rf sz ac sF sB sp ou tx nw tr3 di ke ik) := hD
        refine lv_aload_n hx hb dX4_bestGranule_55 rfl (lv_at hl 0 rfl) ?_
        refine va_get (ci := 4) (v := .ref h3) (C := RX4) (T := TX4) (N := 13) hx hb hts uX4_bestGranule_X4 hown hK hP 0 rfl rfl 4 (by decide) (hts _ mX4_bestGranule_16) (fun _ h9 => h9) rfl dX4_bestGranule_56 ?_
        refine lv_sipush (v := 773) hx hb dX4_bestGranule_59 (by decide) ?_
        refine lv_iload hx hb dX4_bestGranule_62 (lv_at hl 4 rfl) ?_
        refine za_ist hx hb hK hP hD hS 3 rfl 773 (by decide) (by decide) dX4_bestGranule_64 (fun H locs hP hD hS => ?_)
        replace hP : zP g (zMA g h0 h1 h2 h3 h4 h5 h6 rf sz ac sF sB sp ou tx nw (upd tr3 773 v4) di ke ik) H := hP
        replace hD : va_D A (zMA g h0 h1 h2 h3 h4 h5 h6 rf sz ac sF sB sp ou tx nw (upd tr3 773 v4) di ke ik) := hD
        refine lv_aload_n hx hb dX4_bestGranule_65 rfl (lv_at hl 0 rfl) ?_
        refine lv_aload_n hx hb dX4_bestGranule_66 rfl (lv_at hl 0 rfl) ?_
        refine va_get (ci := 4) (v := .ref h3) (C := RX4) (T := TX4) (N := 13) hx hb hts uX4_bestGranule_X4 hown hK hP 0 rfl rfl 4 (by decide) (hts _ mX4_bestGranule_16) (fun _ h9 => h9) rfl dX4_bestGranule_67 ?_
        refine lv_iload_n hx hb dX4_bestGranule_70 rfl (lv_at hl 1 rfl) ?_
        obtain ⟨r4, sF4, sB4, tr4, e4, h⟩ := zb4 h
        refine zVw (As := [.ref h3, .int v1]) (rest := []) (zWi_q g _ _) ⟨hx, hb, hml, hown, hts⟩ (kX4_runOn l g h0 h1 h3 (.ref h2) (.ref h3) (.ref h4) (.ref h5) (.ref h6) rf sz ac sF sB sp ou tx (upd tr3 773 v4) v1 e4) (cwV 2 hts gX4_bestGranule_X4_runOn rfl rfl rfl hdV_X4_runOn ⟨Nat.le_of_ble_eq_true rfl, Nat.le_of_ble_eq_true rfl⟩) hK hP hD hS hA [0, 1, 3] (by decide) rfl rfl 0 rfl rfl rfl hl.1 rfl (Nat.le_of_ble_eq_true rfl) ⟨Nat.zero_le _, Nat.zero_le _⟩ dX4_bestGranule_71 (fun H locs hP hD hS => ?_)
        replace hP : zP g (zMA g h0 h1 h2 h3 h4 h5 h6 rf sz ac sF4 sB4 sp ou tx nw tr4 di ke ik) H := hP
        replace hD : va_D A (zMA g h0 h1 h2 h3 h4 h5 h6 rf sz ac sF4 sB4 sp ou tx nw tr4 di ke ik) := hD
        refine lv_istore (lv' := [(5, .int r4), (0, .ref h0), (1, .int v1), (2, .int v2), (3, .int v3), (4, .int v4)]) hx hb dX4_bestGranule_74 hl (by decide) rfl (fun ls hl => ?_)
        refine lv_iload hx hb dX4_bestGranule_76 (lv_at hl 0 rfl) ?_
        refine lv_iload_n hx hb dX4_bestGranule_78 rfl (lv_at hl 4 rfl) ?_
        refine lv_icmp_lt (tgt := 88) hx hb dX4_bestGranule_79 (by decide) (fun c5 => ?_) (fun c5 => ?_)
        · replace h := zt c5 h
          refine lv_iinc (v := (v4 + 1)) (lv' := [(4, .int (v4 + 1)), (5, .int r4), (0, .ref h0), (1, .int v1), (2, .int v2), (3, .int v3)]) hx hb dX4_bestGranule_88 hl (k := 5) rfl rfl (by decide) rfl (fun ls hl => ?_)
          refine lv_goto (tgt := 33) hx hb dX4_bestGranule_91 (by decide) ?_
          exact ih v1 v2 v3 (v4 + 1) rf sF4 sB4 tr4 h H locs hP hD hS ls (lv_sub hl [2, 3, 4, 5, 0] rfl)
        · replace h := zf c5 h
          refine lv_iload hx hb dX4_bestGranule_82 (lv_at hl 5 rfl) ?_
          refine lv_istore_n (lv' := [(2, .int v4), (5, .int r4), (0, .ref h0), (1, .int v1), (3, .int v3), (4, .int v4)]) hx hb dX4_bestGranule_84 rfl hl (by decide) rfl (fun ls hl => ?_)
          refine lv_iload hx hb dX4_bestGranule_85 (lv_at hl 1 rfl) ?_
          refine lv_istore_n (lv' := [(3, .int r4), (2, .int v4), (5, .int r4), (0, .ref h0), (1, .int v1), (4, .int v4)]) hx hb dX4_bestGranule_87 rfl hl (by decide) rfl (fun ls hl => ?_)
          refine lv_iinc (v := (v4 + 1)) (lv' := [(4, .int (v4 + 1)), (3, .int r4), (2, .int v4), (5, .int r4), (0, .ref h0), (1, .int v1)]) hx hb dX4_bestGranule_88 hl (k := 5) rfl rfl (by decide) rfl (fun ls hl => ?_)
          refine lv_goto (tgt := 33) hx hb dX4_bestGranule_91 (by decide) ?_
          exact ih v1 v4 r4 (v4 + 1) rf sF4 sB4 tr4 h H locs hP hD hS ls (lv_sub hl [4, 5, 2, 1, 0] rfl)
  unfold fX4_bestGranule at h
  refine lv_aload_n hx hb dX4_bestGranule_0 rfl (lv_at hl 0 rfl) ?_
  refine lv_iload_n hx hb dX4_bestGranule_1 rfl (lv_at hl 1 rfl) ?_
  refine lv_i2l (v := a1.toInt64) hx hb dX4_bestGranule_2 rfl ?_
  refine lv_lconst (v := 1) hx hb dX4_bestGranule_3 (by decide) ?_
  refine lv_ldc2 hx hb hown (hts _ mX4_bestGranule_196) dX4_bestGranule_4 ?_
  obtain ⟨r6, e6, h⟩ := zb h
  refine zS (As := [.long a1.toInt64, .long 1, .long (60)]) (rest := [.ref h0]) (zQi_q _) ⟨hx, hb, hml, hown, hts⟩ (kX4_in l g a1.toInt64 1 (60) e6) (va_cwS 3 hts gX4_bestGranule_X4_in rfl rfl rfl hdS_X4_in ⟨Nat.le_of_ble_eq_true rfl, Nat.le_of_ble_eq_true rfl⟩) hK hP [] rfl rfl hl.1 rfl (Nat.le_of_ble_eq_true rfl) ⟨Nat.zero_le _, Nat.zero_le _⟩ dX4_bestGranule_7 ?_
  refine lv_if_eq (tgt := 17) hx hb dX4_bestGranule_10 (by decide) (fun c7 => ?_) (fun c7 => ?_)
  · replace h := zt c7 h
    refine lv_iconst (v := 1) hx hb dX4_bestGranule_17 (by decide) ?_
    obtain ⟨r8, rf8, e8, h⟩ := zb2 h
    refine zVw (As := [.int 1]) (rest := []) (zWi_q g _ _) ⟨hx, hb, hml, hown, hts⟩ (kX4_refused l g h0 h1 (.ref h2) (.ref h3) (.ref h4) (.ref h5) (.ref h6) rf sz ac sF sB sp ou tx 1 e8) (cwV 1 hts gX4_bestGranule_X4_refused rfl rfl rfl hdV_X4_refused ⟨Nat.le_of_ble_eq_true rfl, Nat.le_of_ble_eq_true rfl⟩) hK hP hD hS hA [0, 1] (by decide) rfl rfl 0 rfl rfl rfl hl.1 rfl (Nat.le_of_ble_eq_true rfl) ⟨Nat.zero_le _, Nat.zero_le _⟩ dX4_bestGranule_18 (fun H locs hP hD hS => ?_)
    replace hP : zP g (zMA g h0 h1 h2 h3 h4 h5 h6 rf8 sz ac sF sB sp ou tx nw tr di ke ik) H := hP
    replace hD : va_D A (zMA g h0 h1 h2 h3 h4 h5 h6 rf8 sz ac sF sB sp ou tx nw tr di ke ik) := hD
    refine lv_if_eq (tgt := 26) hx hb dX4_bestGranule_21 (by decide) (fun c9 => ?_) (fun c9 => ?_)
    · replace h := zt c9 h
      refine lv_iconst (v := (-1)) hx hb dX4_bestGranule_26 (by decide) ?_
      refine lv_istore_n (lv' := [(2, .int (-1)), (0, .ref h0), (1, .int a1)]) hx hb dX4_bestGranule_27 rfl hl (by decide) rfl (fun ls hl => ?_)
      refine lv_iconst (v := (-1)) hx hb dX4_bestGranule_28 (by decide) ?_
      refine lv_istore_n (lv' := [(3, .int (-1)), (2, .int (-1)), (0, .ref h0), (1, .int a1)]) hx hb dX4_bestGranule_29 rfl hl (by decide) rfl (fun ls hl => ?_)
      refine lv_iconst (v := 0) hx hb dX4_bestGranule_30 (by decide) ?_
      refine lv_istore (lv' := [(4, .int 0), (3, .int (-1)), (2, .int (-1)), (0, .ref h0), (1, .int a1)]) hx hb dX4_bestGranule_31 hl (by decide) rfl (fun ls hl => ?_)
      exact loop_33 1000 a1 (-1) (-1) 0 rf8 sF sB tr h H locs hP hD hS ls (lv_sub hl [3, 4, 2, 1, 0] rfl)
    · replace h := zf c9 h
      refine lv_iconst (v := 0) hx hb dX4_bestGranule_24 (by decide) ?_
      cases h
      exact zw_i hx hb hr hlocks hP hS dX4_bestGranule_25
  · replace h := zf c7 h
    refine lv_iconst (v := 0) hx hb dX4_bestGranule_13 (by decide) ?_
    refine lv_goto (tgt := 18) hx hb dX4_bestGranule_14 (by decide) ?_
    obtain ⟨r10, rf10, e10, h⟩ := zb2 h
    refine zVw (As := [.int 0]) (rest := []) (zWi_q g _ _) ⟨hx, hb, hml, hown, hts⟩ (kX4_refused l g h0 h1 (.ref h2) (.ref h3) (.ref h4) (.ref h5) (.ref h6) rf sz ac sF sB sp ou tx 0 e10) (cwV 1 hts gX4_bestGranule_X4_refused rfl rfl rfl hdV_X4_refused ⟨Nat.le_of_ble_eq_true rfl, Nat.le_of_ble_eq_true rfl⟩) hK hP hD hS hA [0, 1] (by decide) rfl rfl 0 rfl rfl rfl hl.1 rfl (Nat.le_of_ble_eq_true rfl) ⟨Nat.zero_le _, Nat.zero_le _⟩ dX4_bestGranule_18 (fun H locs hP hD hS => ?_)
    replace hP : zP g (zMA g h0 h1 h2 h3 h4 h5 h6 rf10 sz ac sF sB sp ou tx nw tr di ke ik) H := hP
    replace hD : va_D A (zMA g h0 h1 h2 h3 h4 h5 h6 rf10 sz ac sF sB sp ou tx nw tr di ke ik) := hD
    refine lv_if_eq (tgt := 26) hx hb dX4_bestGranule_21 (by decide) (fun c11 => ?_) (fun c11 => ?_)
    · replace h := zt c11 h
      refine lv_iconst (v := (-1)) hx hb dX4_bestGranule_26 (by decide) ?_
      refine lv_istore_n (lv' := [(2, .int (-1)), (0, .ref h0), (1, .int a1)]) hx hb dX4_bestGranule_27 rfl hl (by decide) rfl (fun ls hl => ?_)
      refine lv_iconst (v := (-1)) hx hb dX4_bestGranule_28 (by decide) ?_
      refine lv_istore_n (lv' := [(3, .int (-1)), (2, .int (-1)), (0, .ref h0), (1, .int a1)]) hx hb dX4_bestGranule_29 rfl hl (by decide) rfl (fun ls hl => ?_)
      refine lv_iconst (v := 0) hx hb dX4_bestGranule_30 (by decide) ?_
      refine lv_istore (lv' := [(4, .int 0), (3, .int (-1)), (2, .int (-1)), (0, .ref h0), (1, .int a1)]) hx hb dX4_bestGranule_31 hl (by decide) rfl (fun ls hl => ?_)
      exact loop_33 1000 a1 (-1) (-1) 0 rf10 sF sB tr h H locs hP hD hS ls (lv_sub hl [3, 4, 2, 1, 0] rfl)
    · replace h := zf c11 h
      refine lv_iconst (v := 0) hx hb dX4_bestGranule_24 (by decide) ?_
      cases h
      exact zw_i hx hb hr hlocks hP hS dX4_bestGranule_25
def fX4_ifWritten (nw : Nat → Int32) (tr : Nat → Int32) (a1 : Int32) (a2 : Int32) : Option (Int32 × (Int32) × (Nat → Int32)) :=
  ob (fX4_whyNotSpan a1 a2) fun r1 =>
  ob2 (fX4_refused r1) fun r2 rf2 =>
  if r2 = 0 then
    ob (fX4_copyState 785 785 nw tr 0 0) fun tr4 =>
    ob2 (fX4_writeOn tr4 a1 a2) fun r5 tr5 =>
    ob (fX4_ranges tr5) fun r6 =>
    some (r6, rf2, tr5)
  else
    some (0, rf2, tr)
theorem mX4_ifWritten_13 : Cond.fieldLink RX4 13 "IdleDiscardsModel" "now" "[I" ∈ wsX4_ifWritten := by decide +kernel
theorem uX4_ifWritten_X4 : ∀ w ∈ wsX40, w ∈ wsX4_ifWritten := by decide +kernel
theorem mX4_ifWritten_16 : Cond.fieldLink RX4 16 "IdleDiscardsModel" "trial" "[I" ∈ wsX4_ifWritten := by decide +kernel
set_option maxRecDepth 100000 in
set_option maxHeartbeats 4000000 in
theorem kX4_ifWritten (l : Launch) (g : zG) (h0 h1 h2 h3 h4 h5 h6 : Nat) (rf : Int32) (sz : Int32) (ac : Int32) (sF : Int32) (sB : Int32) (sp : Int32) (ou : Int32) (tx : Nat → Int32) (nw : Nat → Int32) (tr : Nat → Int32) (di : Nat → Int32) (ke : Nat → Int32) (ik : Nat → Int32) (a1 : Int32) (a2 : Int32) {r : Int32} {rf' : Int32} {tr' : Nat → Int32} (h : fX4_ifWritten nw tr a1 a2 = some (r, rf', tr')) : Mw l g yX4_ifWritten wsX4_ifWritten { frames := 7, cells := 0, slots := 0, locals := 156 } [.ref h0, .int a1, .int a2] (zMA g h0 h1 h2 h3 h4 h5 h6 rf sz ac sF sB sp ou tx nw tr di ke ik) (zWi g (zMA g h0 h1 h2 h3 h4 h5 h6 rf' sz ac sF sB sp ou tx nw tr' di ke ik) r) := by
  refine zw_in (cc := cX4_ifWritten) (maxL := 3) (ret := (some .int)) (by decide) rfl (Nat.le_of_ble_eq_true rfl) ?_
  intro p e s m below meth c hx hb hr hml hts hown hlocks hK A hA hP hD hS ls hl
  replace hl : lv_has ls 3 [(0, .ref h0), (1, .int a1), (2, .int a2)] := hl
  unfold fX4_ifWritten at h
  refine lv_aload_n hx hb dX4_ifWritten_0 rfl (lv_at hl 0 rfl) ?_
  refine lv_iload_n hx hb dX4_ifWritten_1 rfl (lv_at hl 1 rfl) ?_
  refine lv_iload_n hx hb dX4_ifWritten_2 rfl (lv_at hl 2 rfl) ?_
  obtain ⟨r1, e1, h⟩ := zb h
  refine zS (As := [.int a1, .int a2]) (rest := [.ref h0]) (zQi_q _) ⟨hx, hb, hml, hown, hts⟩ (kX4_whyNotSpan l g a1 a2 e1) (va_cwS 2 hts gX4_ifWritten_X4_whyNotSpan rfl rfl rfl hdS_X4_whyNotSpan ⟨Nat.le_of_ble_eq_true rfl, Nat.le_of_ble_eq_true rfl⟩) hK hP [] rfl rfl hl.1 rfl (Nat.le_of_ble_eq_true rfl) ⟨Nat.zero_le _, Nat.zero_le _⟩ dX4_ifWritten_3 ?_
  obtain ⟨r2, rf2, e2, h⟩ := zb2 h
  refine zVw (As := [.int r1]) (rest := []) (zWi_q g _ _) ⟨hx, hb, hml, hown, hts⟩ (kX4_refused l g h0 h1 (.ref h2) (.ref h3) (.ref h4) (.ref h5) (.ref h6) rf sz ac sF sB sp ou tx r1 e2) (cwV 1 hts gX4_ifWritten_X4_refused rfl rfl rfl hdV_X4_refused ⟨Nat.le_of_ble_eq_true rfl, Nat.le_of_ble_eq_true rfl⟩) hK hP hD hS hA [0, 1] (by decide) rfl rfl 0 rfl rfl rfl hl.1 rfl (Nat.le_of_ble_eq_true rfl) ⟨Nat.zero_le _, Nat.zero_le _⟩ dX4_ifWritten_6 (fun H locs hP hD hS => ?_)
  replace hP : zP g (zMA g h0 h1 h2 h3 h4 h5 h6 rf2 sz ac sF sB sp ou tx nw tr di ke ik) H := hP
  replace hD : va_D A (zMA g h0 h1 h2 h3 h4 h5 h6 rf2 sz ac sF sB sp ou tx nw tr di ke ik) := hD
  refine lv_if_eq (tgt := 14) hx hb dX4_ifWritten_9 (by decide) (fun c3 => ?_) (fun c3 => ?_)
  · replace h := zt c3 h
    refine lv_aload_n hx hb dX4_ifWritten_14 rfl (lv_at hl 0 rfl) ?_
    refine va_get (ci := 4) (v := .ref h2) (C := RX4) (T := TX4) (N := 13) hx hb hts uX4_ifWritten_X4 hown hK hP 0 rfl rfl 3 (by decide) (hts _ mX4_ifWritten_13) (fun _ h9 => h9) rfl dX4_ifWritten_15 ?_
    refine lv_iconst (v := 0) hx hb dX4_ifWritten_18 (by decide) ?_
    refine lv_aload_n hx hb dX4_ifWritten_19 rfl (lv_at hl 0 rfl) ?_
    refine va_get (ci := 4) (v := .ref h3) (C := RX4) (T := TX4) (N := 13) hx hb hts uX4_ifWritten_X4 hown hK hP 0 rfl rfl 4 (by decide) (hts _ mX4_ifWritten_16) (fun _ h9 => h9) rfl dX4_ifWritten_20 ?_
    refine lv_iconst (v := 0) hx hb dX4_ifWritten_23 (by decide) ?_
    obtain ⟨tr4, e4, h⟩ := zb h
    refine zSw (As := [.ref h2, .int 0, .ref h3, .int 0]) (rest := []) (zWv_q g _) ⟨hx, hb, hml, hown, hts⟩ (kX4_copyState l g 785 785 h2 h3 nw tr 0 0 e4) (va_cwS 4 hts gX4_ifWritten_X4_copyState rfl rfl rfl hdS_X4_copyState ⟨Nat.le_of_ble_eq_true rfl, Nat.le_of_ble_eq_true rfl⟩) hK hP hD hS hA [2, 3] (by decide) rfl rfl rfl hl.1 rfl (Nat.le_of_ble_eq_true rfl) ⟨Nat.zero_le _, Nat.zero_le _⟩ dX4_ifWritten_24 (fun H locs hP hD hS => ?_)
    replace hP : zP g (zMA g h0 h1 h2 h3 h4 h5 h6 rf2 sz ac sF sB sp ou tx nw tr4 di ke ik) H := hP
    replace hD : va_D A (zMA g h0 h1 h2 h3 h4 h5 h6 rf2 sz ac sF sB sp ou tx nw tr4 di ke ik) := hD
    refine lv_aload_n hx hb dX4_ifWritten_27 rfl (lv_at hl 0 rfl) ?_
    refine va_get (ci := 4) (v := .ref h3) (C := RX4) (T := TX4) (N := 13) hx hb hts uX4_ifWritten_X4 hown hK hP 0 rfl rfl 4 (by decide) (hts _ mX4_ifWritten_16) (fun _ h9 => h9) rfl dX4_ifWritten_28 ?_
    refine lv_iload_n hx hb dX4_ifWritten_31 rfl (lv_at hl 1 rfl) ?_
    refine lv_iload_n hx hb dX4_ifWritten_32 rfl (lv_at hl 2 rfl) ?_
    obtain ⟨r5, tr5, e5, h⟩ := zb2 h
    refine zSw (As := [.ref h3, .int a1, .int a2]) (rest := []) (zWi_q g _ _) ⟨hx, hb, hml, hown, hts⟩ (kX4_writeOn l g h3 tr4 a1 a2 e5) (va_cwS 3 hts gX4_ifWritten_X4_writeOn rfl rfl rfl hdS_X4_writeOn ⟨Nat.le_of_ble_eq_true rfl, Nat.le_of_ble_eq_true rfl⟩) hK hP hD hS hA [3] (by decide) rfl rfl rfl hl.1 rfl (Nat.le_of_ble_eq_true rfl) ⟨Nat.zero_le _, Nat.zero_le _⟩ dX4_ifWritten_33 (fun H locs hP hD hS => ?_)
    replace hP : zP g (zMA g h0 h1 h2 h3 h4 h5 h6 rf2 sz ac sF sB sp ou tx nw tr5 di ke ik) H := hP
    replace hD : va_D A (zMA g h0 h1 h2 h3 h4 h5 h6 rf2 sz ac sF sB sp ou tx nw tr5 di ke ik) := hD
    refine lv_pop hx hb dX4_ifWritten_36 rfl ?_
    refine lv_aload_n hx hb dX4_ifWritten_37 rfl (lv_at hl 0 rfl) ?_
    refine va_get (ci := 4) (v := .ref h3) (C := RX4) (T := TX4) (N := 13) hx hb hts uX4_ifWritten_X4 hown hK hP 0 rfl rfl 4 (by decide) (hts _ mX4_ifWritten_16) (fun _ h9 => h9) rfl dX4_ifWritten_38 ?_
    obtain ⟨r6, e6, h⟩ := zb h
    refine zS (As := [.ref h3]) (rest := []) (zQi_q _) ⟨hx, hb, hml, hown, hts⟩ (kX4_ranges l g h3 tr5 e6) (va_cwS 1 hts gX4_ifWritten_X4_ranges rfl rfl rfl hdS_X4_ranges ⟨Nat.le_of_ble_eq_true rfl, Nat.le_of_ble_eq_true rfl⟩) hK hP [3] rfl rfl hl.1 rfl (Nat.le_of_ble_eq_true rfl) ⟨Nat.zero_le _, Nat.zero_le _⟩ dX4_ifWritten_41 ?_
    cases h
    exact zw_i hx hb hr hlocks hP hS dX4_ifWritten_44
  · replace h := zf c3 h
    refine lv_iconst (v := 0) hx hb dX4_ifWritten_12 (by decide) ?_
    cases h
    exact zw_i hx hb hr hlocks hP hS dX4_ifWritten_13
def fX4_stuck_15 (nw : Nat → Int32) : Nat → Int32 → Int32 → (Int32) → Option (Int32 × (Int32))
  | 0, _, _, _ => none
  | n + 1, v1, v2, rf =>
    if 256 ≤ v2 then
        some (v1, rf)
      else
        ob (fX4_isGood nw v2) fun r2 =>
        if r2 = 0 then
          fX4_stuck_15 nw n (v1 - 0) (v2 + 1) rf
        else
          ob (fX4_granule nw) fun r4 =>
          fX4_stuck_15 nw n (v1 - r4) (v2 + 1) rf
def fX4_stuck (nw : Nat → Int32) : Option (Int32 × (Int32)) :=
  ob (fX4_queuedBlocks nw) fun r5 =>
  fX4_stuck_15 nw 1000 r5 0 0
theorem mX4_stuck_13 : Cond.fieldLink RX4 13 "IdleDiscardsModel" "now" "[I" ∈ wsX4_stuck := by decide +kernel
theorem uX4_stuck_X4 : ∀ w ∈ wsX40, w ∈ wsX4_stuck := by decide +kernel
theorem mX4_stuck_33 : Cond.fieldLink RX4 33 "IdleDiscardsModel" "refusal" "I" ∈ wsX4_stuck := by decide +kernel
set_option maxRecDepth 100000 in
set_option maxHeartbeats 4000000 in
theorem kX4_stuck (l : Launch) (g : zG) (h0 h1 h2 h3 h4 h5 h6 : Nat) (rf : Int32) (sz : Int32) (ac : Int32) (sF : Int32) (sB : Int32) (sp : Int32) (ou : Int32) (tx : Nat → Int32) (nw : Nat → Int32) (tr : Nat → Int32) (di : Nat → Int32) (ke : Nat → Int32) (ik : Nat → Int32) {r : Int32} {rf' : Int32} (h : fX4_stuck nw = some (r, rf')) : Mw l g yX4_stuck wsX4_stuck { frames := 4, cells := 0, slots := 0, locals := 89 } [.ref h0] (zMA g h0 h1 h2 h3 h4 h5 h6 rf sz ac sF sB sp ou tx nw tr di ke ik) (zWi g (zMA g h0 h1 h2 h3 h4 h5 h6 rf' sz ac sF sB sp ou tx nw tr di ke ik) r) := by
  refine zw_in (cc := cX4_stuck) (maxL := 3) (ret := (some .int)) (by decide) rfl (Nat.le_of_ble_eq_true rfl) ?_
  intro p e s m below meth c hx hb hr hml hts hown hlocks hK A hA hP hD hS ls hl
  replace hl : lv_has ls 3 [(0, .ref h0)] := hl
  have loop_15 : ∀ (n : Nat) (v1 : Int32) (v2 : Int32) (rf : (Int32)), fX4_stuck_15 nw n v1 v2 rf = some (r, rf') → ∀ (H : Heap) (locs : List Loc), zP g (zMA g h0 h1 h2 h3 h4 h5 h6 rf sz ac sF sB sp ou tx nw tr di ke ik) H → va_D A (zMA g h0 h1 h2 h3 h4 h5 h6 rf sz ac sF sB sp ou tx nw tr di ke ik) → va_S A s.heap H locs → ∀ (ls : Array Slot), lv_has ls 3 [(0, .ref h0), (1, .int v1), (2, .int v2)] → W p l e ({ frames := 4, cells := 0, slots := 0, locals := 89 } : Room) s m [.ref h0].toArray below meth c H locs 0 0 (MQ below (zWi g (zMA g h0 h1 h2 h3 h4 h5 h6 rf' sz ac sF sB sp ou tx nw tr di ke ik) r A) [.ref h0].toArray s 0 0 A) (F0 m 15 ls []) := by
    intro n
    induction n with
    | zero => intro v1 v2 rf h H locs hP hD hS ls hl; exact zn h
    | succ n ih =>
      intro v1 v2 rf h H locs hP hD hS ls hl
      rw [fX4_stuck_15] at h
      refine lv_iload_n hx hb dX4_stuck_15 rfl (lv_at hl 2 rfl) ?_
      refine lv_sipush (v := 256) hx hb dX4_stuck_16 (by decide) ?_
      refine lv_icmp_ge (tgt := 53) hx hb dX4_stuck_19 (by decide) (fun c1 => ?_) (fun c1 => ?_)
      · replace h := zt c1 h
        refine lv_iload_n hx hb dX4_stuck_53 rfl (lv_at hl 1 rfl) ?_
        cases h
        exact zw_i hx hb hr hlocks hP hS dX4_stuck_54
      · replace h := zf c1 h
        refine lv_iload_n hx hb dX4_stuck_22 rfl (lv_at hl 1 rfl) ?_
        refine lv_aload_n hx hb dX4_stuck_23 rfl (lv_at hl 0 rfl) ?_
        refine va_get (ci := 4) (v := .ref h2) (C := RX4) (T := TX4) (N := 13) hx hb hts uX4_stuck_X4 hown hK hP 0 rfl rfl 3 (by decide) (hts _ mX4_stuck_13) (fun _ h9 => h9) rfl dX4_stuck_24 ?_
        refine lv_iload_n hx hb dX4_stuck_27 rfl (lv_at hl 2 rfl) ?_
        obtain ⟨r2, e2, h⟩ := zb h
        refine zS (As := [.ref h2, .int v2]) (rest := [.int v1]) (zQi_q _) ⟨hx, hb, hml, hown, hts⟩ (kX4_isGood l g h2 nw v2 e2) (va_cwS 2 hts gX4_stuck_X4_isGood rfl rfl rfl hdS_X4_isGood ⟨Nat.le_of_ble_eq_true rfl, Nat.le_of_ble_eq_true rfl⟩) hK hP [2] rfl rfl hl.1 rfl (Nat.le_of_ble_eq_true rfl) ⟨Nat.zero_le _, Nat.zero_le _⟩ dX4_stuck_28 ?_
        refine lv_if_eq (tgt := 44) hx hb dX4_stuck_31 (by decide) (fun c3 => ?_) (fun c3 => ?_)
        · replace h := zt c3 h
          refine lv_iconst (v := 0) hx hb dX4_stuck_44 (by decide) ?_
          refine lv_isub hx hb dX4_stuck_45 ?_
          refine lv_istore_n (lv' := [(1, .int (v1 - 0)), (0, .ref h0), (2, .int v2)]) hx hb dX4_stuck_46 rfl hl (by decide) rfl (fun ls hl => ?_)
          refine lv_iinc (v := (v2 + 1)) (lv' := [(2, .int (v2 + 1)), (1, .int (v1 - 0)), (0, .ref h0)]) hx hb dX4_stuck_47 hl (k := 2) rfl rfl (by decide) rfl (fun ls hl => ?_)
          refine lv_goto (tgt := 15) hx hb dX4_stuck_50 (by decide) ?_
          exact ih (v1 - 0) (v2 + 1) rf h H locs hP hD hS ls (lv_sub hl [2, 1, 0] rfl)
        · replace h := zf c3 h
          refine lv_aload_n hx hb dX4_stuck_34 rfl (lv_at hl 0 rfl) ?_
          refine va_get (ci := 4) (v := .ref h2) (C := RX4) (T := TX4) (N := 13) hx hb hts uX4_stuck_X4 hown hK hP 0 rfl rfl 3 (by decide) (hts _ mX4_stuck_13) (fun _ h9 => h9) rfl dX4_stuck_35 ?_
          obtain ⟨r4, e4, h⟩ := zb h
          refine zS (As := [.ref h2]) (rest := [.int v1]) (zQi_q _) ⟨hx, hb, hml, hown, hts⟩ (kX4_granule l g h2 nw e4) (va_cwS 1 hts gX4_stuck_X4_granule rfl rfl rfl hdS_X4_granule ⟨Nat.le_of_ble_eq_true rfl, Nat.le_of_ble_eq_true rfl⟩) hK hP [2] rfl rfl hl.1 rfl (Nat.le_of_ble_eq_true rfl) ⟨Nat.zero_le _, Nat.zero_le _⟩ dX4_stuck_38 ?_
          refine lv_goto (tgt := 45) hx hb dX4_stuck_41 (by decide) ?_
          refine lv_isub hx hb dX4_stuck_45 ?_
          refine lv_istore_n (lv' := [(1, .int (v1 - r4)), (0, .ref h0), (2, .int v2)]) hx hb dX4_stuck_46 rfl hl (by decide) rfl (fun ls hl => ?_)
          refine lv_iinc (v := (v2 + 1)) (lv' := [(2, .int (v2 + 1)), (1, .int (v1 - r4)), (0, .ref h0)]) hx hb dX4_stuck_47 hl (k := 2) rfl rfl (by decide) rfl (fun ls hl => ?_)
          refine lv_goto (tgt := 15) hx hb dX4_stuck_50 (by decide) ?_
          exact ih (v1 - r4) (v2 + 1) rf h H locs hP hD hS ls (lv_sub hl [2, 1, 0] rfl)
  unfold fX4_stuck at h
  refine lv_aload_n hx hb dX4_stuck_0 rfl (lv_at hl 0 rfl) ?_
  refine lv_iconst (v := 0) hx hb dX4_stuck_1 (by decide) ?_
  refine va_put (ci := 4) (v := .int 0) (ty := .int) (C := RX4) (T := TX4) (N := 13) hx hb hts uX4_stuck_X4 tyX4 tyX4_ok nmX4 hown hK hP hD hS 0 rfl rfl 0 (by decide) (hts _ mX4_stuck_33) (fun _ h9 => h9) rfl (by decide +kernel) rfl rfl (Nat.le_of_ble_eq_true rfl) dX4_stuck_2 (fun H locs hP hD hS => ?_)
  replace hP : zP g (zMA g h0 h1 h2 h3 h4 h5 h6 0 sz ac sF sB sp ou tx nw tr di ke ik) H := hP
  replace hD : va_D A (zMA g h0 h1 h2 h3 h4 h5 h6 0 sz ac sF sB sp ou tx nw tr di ke ik) := hD
  refine lv_aload_n hx hb dX4_stuck_5 rfl (lv_at hl 0 rfl) ?_
  refine va_get (ci := 4) (v := .ref h2) (C := RX4) (T := TX4) (N := 13) hx hb hts uX4_stuck_X4 hown hK hP 0 rfl rfl 3 (by decide) (hts _ mX4_stuck_13) (fun _ h9 => h9) rfl dX4_stuck_6 ?_
  obtain ⟨r5, e5, h⟩ := zb h
  refine zS (As := [.ref h2]) (rest := []) (zQi_q _) ⟨hx, hb, hml, hown, hts⟩ (kX4_queuedBlocks l g h2 nw e5) (va_cwS 1 hts gX4_stuck_X4_queuedBlocks rfl rfl rfl hdS_X4_queuedBlocks ⟨Nat.le_of_ble_eq_true rfl, Nat.le_of_ble_eq_true rfl⟩) hK hP [2] rfl rfl hl.1 rfl (Nat.le_of_ble_eq_true rfl) ⟨Nat.zero_le _, Nat.zero_le _⟩ dX4_stuck_9 ?_
  refine lv_istore_n (lv' := [(1, .int r5), (0, .ref h0)]) hx hb dX4_stuck_12 rfl hl (by decide) rfl (fun ls hl => ?_)
  refine lv_iconst (v := 0) hx hb dX4_stuck_13 (by decide) ?_
  refine lv_istore_n (lv' := [(2, .int 0), (1, .int r5), (0, .ref h0)]) hx hb dX4_stuck_14 rfl hl (by decide) rfl (fun ls hl => ?_)
  exact loop_15 1000 r5 0 0 h H locs hP hD hS ls (lv_sub hl [2, 1, 0] rfl)
def fX4_command (sF : Int32) (sB : Int32) (tr : Nat → Int32) (a1 : Int32) (a2 : Int32) : Option (Int32 × (Int32) × (Int32) × (Nat → Int32)) :=
  if a1 = 1 then
    ob (fX4_whyNotSpan (a2 / 100) (irem a2 100)) fun r2 =>
    if r2 = 0 then
      ob2 (fX4_writeOn tr (a2 / 100) (irem a2 100)) fun r4 tr4 =>
      if r4 < 0 then
        some (0, sF, sB, tr4)
      else
        some (1, sF, sB, tr4)
    else
      some (0, sF, sB, tr)
  else if a1 = 2 then
    ob (fX4_whyNotSpan (a2 / 100) (irem a2 100)) fun r7 =>
    if r7 = 0 then
      ob2 (fX4_freeOn tr (a2 / 100) (irem a2 100)) fun r9 tr9 =>
      if r9 < 0 then
        some (0, sF, sB, tr9)
      else
        some (1, sF, sB, tr9)
    else
      some (0, sF, sB, tr)
  else if a1 = 3 then
    ob (fX4_in a2.toInt64 1 (60)) fun r12 =>
    if r12 = 0 then
      some (0, sF, sB, tr)
    else
      ob4 (fX4_runOn sF sB tr a2) fun r14 sF14 sB14 tr14 =>
      if r14 < 0 then
        some (0, sF14, sB14, tr14)
      else
        some (1, sF14, sB14, tr14)
  else if a1 = 4 then
    if (irem a2 100) = 0 then
      ob (fX4_isSetting ((a2 / 100) / 100) (irem (a2 / 100) 100)) fun r18 =>
      if r18 = 0 then
        some (0, sF, sB, tr)
      else
        ob2 (fX4_lay tr ((a2 / 100) / 100) (irem (a2 / 100) 100)) fun r20 tr20 =>
        if r20 < 0 then
          some (0, sF, sB, tr20)
        else
          some (1, sF, sB, tr20)
    else
      some (0, sF, sB, tr)
  else if a1 = 5 then
    if a2 = 0 then
      ob4 (fX4_flushOn sF sB tr) fun r24 sF24 sB24 tr24 =>
      if r24 < 0 then
        some (0, sF24, sB24, tr24)
      else
        some (1, sF24, sB24, tr24)
    else
      some (0, sF, sB, tr)
  else if a1 = 6 then
    ob (fX4_isBlock (a2 / 100)) fun r27 =>
    if r27 = 0 then
      some (0, sF, sB, tr)
    else
      if (256 + (a2 / 100)) < 0 ∨ 785 ≤ (256 + (a2 / 100)).toNatClampNeg then none else
      if (tr (256 + (a2 / 100)).toNatClampNeg) = (irem a2 100) then
        some (1, sF, sB, tr)
      else
        some (0, sF, sB, tr)
  else if a1 = 7 then
    if 1000 ≤ a2 then
      some (0, sF, sB, tr)
    else
      ob (fX4_queuedBlocks tr) fun r33 =>
      if a2 < r33 then
        some (0, sF, sB, tr)
      else
        some (1, sF, sB, tr)
  else if a1 = 8 then
    if 100 ≤ a2 then
      some (0, sF, sB, tr)
    else
      ob (fX4_ranges tr) fun r37 =>
      if r37 < a2 then
        some (0, sF, sB, tr)
      else
        some (1, sF, sB, tr)
  else if a1 = 9 then
    ob (fX4_isBlock (a2 / 100)) fun r40 =>
    if r40 = 0 then
      some (0, sF, sB, tr)
    else
      if (0 + (a2 / 100)) < 0 ∨ 785 ≤ (0 + (a2 / 100)).toNatClampNeg then none else
      if (tr (0 + (a2 / 100)).toNatClampNeg) = (irem a2 100) then
        some (1, sF, sB, tr)
      else
        some (0, sF, sB, tr)
  else some (0, sF, sB, tr)
theorem mX4_command_16 : Cond.fieldLink RX4 16 "IdleDiscardsModel" "trial" "[I" ∈ wsX4_command := by decide +kernel
theorem uX4_command_X4 : ∀ w ∈ wsX40, w ∈ wsX4_command := by decide +kernel
theorem mX4_command_196 : Cond.constantLong RX4 196 (60) ∈ wsX4_command := by decide +kernel
set_option maxRecDepth 100000 in
set_option maxHeartbeats 4000000 in
theorem kX4_command (l : Launch) (g : zG) (h0 h1 h2 h3 h4 h5 h6 : Nat) (rf : Int32) (sz : Int32) (ac : Int32) (sF : Int32) (sB : Int32) (sp : Int32) (ou : Int32) (tx : Nat → Int32) (nw : Nat → Int32) (tr : Nat → Int32) (di : Nat → Int32) (ke : Nat → Int32) (ik : Nat → Int32) (a1 : Int32) (a2 : Int32) {r : Int32} {sF' : Int32} {sB' : Int32} {tr' : Nat → Int32} (h : fX4_command sF sB tr a1 a2 = some (r, sF', sB', tr')) : Mw l g yX4_command wsX4_command { frames := 9, cells := 0, slots := 0, locals := 206 } [.ref h0, .int a1, .int a2] (zMA g h0 h1 h2 h3 h4 h5 h6 rf sz ac sF sB sp ou tx nw tr di ke ik) (zWi g (zMA g h0 h1 h2 h3 h4 h5 h6 rf sz ac sF' sB' sp ou tx nw tr' di ke ik) r) := by
  refine zw_in (cc := cX4_command) (maxL := 5) (ret := (some .boolean)) (by decide) rfl (Nat.le_of_ble_eq_true rfl) ?_
  intro p e s m below meth c hx hb hr hml hts hown hlocks hK A hA hP hD hS ls hl
  replace hl : lv_has ls 5 [(0, .ref h0), (1, .int a1), (2, .int a2)] := hl
  unfold fX4_command at h
  refine lv_iload_n hx hb dX4_command_0 rfl (lv_at hl 2 rfl) ?_
  refine lv_bipush (v := 100) hx hb dX4_command_1 (by decide) ?_
  refine lv_idiv hx hb dX4_command_3 (by decide) ?_
  refine lv_istore_n (lv' := [(3, .int (a2 / 100)), (0, .ref h0), (1, .int a1), (2, .int a2)]) hx hb dX4_command_4 rfl hl (by decide) rfl (fun ls hl => ?_)
  refine lv_iload_n hx hb dX4_command_5 rfl (lv_at hl 3 rfl) ?_
  refine lv_bipush (v := 100) hx hb dX4_command_6 (by decide) ?_
  refine lv_irem hx hb dX4_command_8 (by decide) ?_
  refine lv_istore (lv' := [(4, .int (irem a2 100)), (3, .int (a2 / 100)), (0, .ref h0), (1, .int a1), (2, .int a2)]) hx hb dX4_command_9 hl (by decide) rfl (fun ls hl => ?_)
  refine lv_iload_n hx hb dX4_command_11 rfl (lv_at hl 3 rfl) ?_
  by_cases c1 : a1 = 1
  · replace h := zt c1 h
    refine lv_tableIn (tgt := 64) (off := 52) hx hb dX4_command_12 (by rw [c1]; decide) (by rw [c1]; decide) (by rw [c1]; rfl) (by decide) ?_
    refine lv_iload_n hx hb dX4_command_64 rfl (lv_at hl 1 rfl) ?_
    refine lv_iload hx hb dX4_command_65 (lv_at hl 0 rfl) ?_
    obtain ⟨r2, e2, h⟩ := zb h
    refine zS (As := [.int (a2 / 100), .int (irem a2 100)]) (rest := []) (zQi_q _) ⟨hx, hb, hml, hown, hts⟩ (kX4_whyNotSpan l g (a2 / 100) (irem a2 100) e2) (va_cwS 2 hts gX4_command_X4_whyNotSpan rfl rfl rfl hdS_X4_whyNotSpan ⟨Nat.le_of_ble_eq_true rfl, Nat.le_of_ble_eq_true rfl⟩) hK hP [] rfl rfl hl.1 rfl (Nat.le_of_ble_eq_true rfl) ⟨Nat.zero_le _, Nat.zero_le _⟩ dX4_command_67 ?_
    refine lv_if_ne (tgt := 90) hx hb dX4_command_70 (by decide) (fun c3 => ?_) (fun c3 => ?_)
    · replace h := zf c3 h
      refine lv_iconst (v := 0) hx hb dX4_command_90 (by decide) ?_
      cases h
      exact zw_z hx hb hr hlocks (by decide) hP hS dX4_command_91
    · replace h := zt c3 h
      refine lv_aload_n hx hb dX4_command_73 rfl (lv_at hl 2 rfl) ?_
      refine va_get (ci := 4) (v := .ref h3) (C := RX4) (T := TX4) (N := 13) hx hb hts uX4_command_X4 hown hK hP 0 rfl rfl 4 (by decide) (hts _ mX4_command_16) (fun _ h9 => h9) rfl dX4_command_74 ?_
      refine lv_iload_n hx hb dX4_command_77 rfl (lv_at hl 1 rfl) ?_
      refine lv_iload hx hb dX4_command_78 (lv_at hl 0 rfl) ?_
      obtain ⟨r4, tr4, e4, h⟩ := zb2 h
      refine zSw (As := [.ref h3, .int (a2 / 100), .int (irem a2 100)]) (rest := []) (zWi_q g _ _) ⟨hx, hb, hml, hown, hts⟩ (kX4_writeOn l g h3 tr (a2 / 100) (irem a2 100) e4) (va_cwS 3 hts gX4_command_X4_writeOn rfl rfl rfl hdS_X4_writeOn ⟨Nat.le_of_ble_eq_true rfl, Nat.le_of_ble_eq_true rfl⟩) hK hP hD hS hA [3] (by decide) rfl rfl rfl hl.1 rfl (Nat.le_of_ble_eq_true rfl) ⟨Nat.zero_le _, Nat.zero_le _⟩ dX4_command_80 (fun H locs hP hD hS => ?_)
      replace hP : zP g (zMA g h0 h1 h2 h3 h4 h5 h6 rf sz ac sF sB sp ou tx nw tr4 di ke ik) H := hP
      replace hD : va_D A (zMA g h0 h1 h2 h3 h4 h5 h6 rf sz ac sF sB sp ou tx nw tr4 di ke ik) := hD
      refine lv_if_lt (tgt := 90) hx hb dX4_command_83 (by decide) (fun c5 => ?_) (fun c5 => ?_)
      · replace h := zt c5 h
        refine lv_iconst (v := 0) hx hb dX4_command_90 (by decide) ?_
        cases h
        exact zw_z hx hb hr hlocks (by decide) hP hS dX4_command_91
      · replace h := zf c5 h
        refine lv_iconst (v := 1) hx hb dX4_command_86 (by decide) ?_
        refine lv_goto (tgt := 91) hx hb dX4_command_87 (by decide) ?_
        cases h
        exact zw_z hx hb hr hlocks (by decide) hP hS dX4_command_91
  replace h := zf c1 h
  by_cases c6 : a1 = 2
  · replace h := zt c6 h
    refine lv_tableIn (tgt := 92) (off := 80) hx hb dX4_command_12 (by rw [c6]; decide) (by rw [c6]; decide) (by rw [c6]; rfl) (by decide) ?_
    refine lv_iload_n hx hb dX4_command_92 rfl (lv_at hl 1 rfl) ?_
    refine lv_iload hx hb dX4_command_93 (lv_at hl 0 rfl) ?_
    obtain ⟨r7, e7, h⟩ := zb h
    refine zS (As := [.int (a2 / 100), .int (irem a2 100)]) (rest := []) (zQi_q _) ⟨hx, hb, hml, hown, hts⟩ (kX4_whyNotSpan l g (a2 / 100) (irem a2 100) e7) (va_cwS 2 hts gX4_command_X4_whyNotSpan rfl rfl rfl hdS_X4_whyNotSpan ⟨Nat.le_of_ble_eq_true rfl, Nat.le_of_ble_eq_true rfl⟩) hK hP [] rfl rfl hl.1 rfl (Nat.le_of_ble_eq_true rfl) ⟨Nat.zero_le _, Nat.zero_le _⟩ dX4_command_95 ?_
    refine lv_if_ne (tgt := 118) hx hb dX4_command_98 (by decide) (fun c8 => ?_) (fun c8 => ?_)
    · replace h := zf c8 h
      refine lv_iconst (v := 0) hx hb dX4_command_118 (by decide) ?_
      cases h
      exact zw_z hx hb hr hlocks (by decide) hP hS dX4_command_119
    · replace h := zt c8 h
      refine lv_aload_n hx hb dX4_command_101 rfl (lv_at hl 2 rfl) ?_
      refine va_get (ci := 4) (v := .ref h3) (C := RX4) (T := TX4) (N := 13) hx hb hts uX4_command_X4 hown hK hP 0 rfl rfl 4 (by decide) (hts _ mX4_command_16) (fun _ h9 => h9) rfl dX4_command_102 ?_
      refine lv_iload_n hx hb dX4_command_105 rfl (lv_at hl 1 rfl) ?_
      refine lv_iload hx hb dX4_command_106 (lv_at hl 0 rfl) ?_
      obtain ⟨r9, tr9, e9, h⟩ := zb2 h
      refine zSw (As := [.ref h3, .int (a2 / 100), .int (irem a2 100)]) (rest := []) (zWi_q g _ _) ⟨hx, hb, hml, hown, hts⟩ (kX4_freeOn l g h3 tr (a2 / 100) (irem a2 100) e9) (va_cwS 3 hts gX4_command_X4_freeOn rfl rfl rfl hdS_X4_freeOn ⟨Nat.le_of_ble_eq_true rfl, Nat.le_of_ble_eq_true rfl⟩) hK hP hD hS hA [3] (by decide) rfl rfl rfl hl.1 rfl (Nat.le_of_ble_eq_true rfl) ⟨Nat.zero_le _, Nat.zero_le _⟩ dX4_command_108 (fun H locs hP hD hS => ?_)
      replace hP : zP g (zMA g h0 h1 h2 h3 h4 h5 h6 rf sz ac sF sB sp ou tx nw tr9 di ke ik) H := hP
      replace hD : va_D A (zMA g h0 h1 h2 h3 h4 h5 h6 rf sz ac sF sB sp ou tx nw tr9 di ke ik) := hD
      refine lv_if_lt (tgt := 118) hx hb dX4_command_111 (by decide) (fun c10 => ?_) (fun c10 => ?_)
      · replace h := zt c10 h
        refine lv_iconst (v := 0) hx hb dX4_command_118 (by decide) ?_
        cases h
        exact zw_z hx hb hr hlocks (by decide) hP hS dX4_command_119
      · replace h := zf c10 h
        refine lv_iconst (v := 1) hx hb dX4_command_114 (by decide) ?_
        refine lv_goto (tgt := 119) hx hb dX4_command_115 (by decide) ?_
        cases h
        exact zw_z hx hb hr hlocks (by decide) hP hS dX4_command_119
  replace h := zf c6 h
  by_cases c11 : a1 = 3
  · replace h := zt c11 h
    refine lv_tableIn (tgt := 120) (off := 108) hx hb dX4_command_12 (by rw [c11]; decide) (by rw [c11]; decide) (by rw [c11]; rfl) (by decide) ?_
    refine lv_iload_n hx hb dX4_command_120 rfl (lv_at hl 4 rfl) ?_
    refine lv_i2l (v := a2.toInt64) hx hb dX4_command_121 rfl ?_
    refine lv_lconst (v := 1) hx hb dX4_command_122 (by decide) ?_
    refine lv_ldc2 hx hb hown (hts _ mX4_command_196) dX4_command_123 ?_
    obtain ⟨r12, e12, h⟩ := zb h
    refine zS (As := [.long a2.toInt64, .long 1, .long (60)]) (rest := []) (zQi_q _) ⟨hx, hb, hml, hown, hts⟩ (kX4_in l g a2.toInt64 1 (60) e12) (va_cwS 3 hts gX4_command_X4_in rfl rfl rfl hdS_X4_in ⟨Nat.le_of_ble_eq_true rfl, Nat.le_of_ble_eq_true rfl⟩) hK hP [] rfl rfl hl.1 rfl (Nat.le_of_ble_eq_true rfl) ⟨Nat.zero_le _, Nat.zero_le _⟩ dX4_command_126 ?_
    refine lv_if_eq (tgt := 148) hx hb dX4_command_129 (by decide) (fun c13 => ?_) (fun c13 => ?_)
    · replace h := zt c13 h
      refine lv_iconst (v := 0) hx hb dX4_command_148 (by decide) ?_
      cases h
      exact zw_z hx hb hr hlocks (by decide) hP hS dX4_command_149
    · replace h := zf c13 h
      refine lv_aload_n hx hb dX4_command_132 rfl (lv_at hl 2 rfl) ?_
      refine lv_aload_n hx hb dX4_command_133 rfl (lv_at hl 2 rfl) ?_
      refine va_get (ci := 4) (v := .ref h3) (C := RX4) (T := TX4) (N := 13) hx hb hts uX4_command_X4 hown hK hP 0 rfl rfl 4 (by decide) (hts _ mX4_command_16) (fun _ h9 => h9) rfl dX4_command_134 ?_
      refine lv_iload_n hx hb dX4_command_137 rfl (lv_at hl 4 rfl) ?_
      obtain ⟨r14, sF14, sB14, tr14, e14, h⟩ := zb4 h
      refine zVw (As := [.ref h3, .int a2]) (rest := []) (zWi_q g _ _) ⟨hx, hb, hml, hown, hts⟩ (kX4_runOn l g h0 h1 h3 (.ref h2) (.ref h3) (.ref h4) (.ref h5) (.ref h6) rf sz ac sF sB sp ou tx tr a2 e14) (cwV 2 hts gX4_command_X4_runOn rfl rfl rfl hdV_X4_runOn ⟨Nat.le_of_ble_eq_true rfl, Nat.le_of_ble_eq_true rfl⟩) hK hP hD hS hA [0, 1, 3] (by decide) rfl rfl 0 rfl rfl rfl hl.1 rfl (Nat.le_of_ble_eq_true rfl) ⟨Nat.zero_le _, Nat.zero_le _⟩ dX4_command_138 (fun H locs hP hD hS => ?_)
      replace hP : zP g (zMA g h0 h1 h2 h3 h4 h5 h6 rf sz ac sF14 sB14 sp ou tx nw tr14 di ke ik) H := hP
      replace hD : va_D A (zMA g h0 h1 h2 h3 h4 h5 h6 rf sz ac sF14 sB14 sp ou tx nw tr14 di ke ik) := hD
      refine lv_if_lt (tgt := 148) hx hb dX4_command_141 (by decide) (fun c15 => ?_) (fun c15 => ?_)
      · replace h := zt c15 h
        refine lv_iconst (v := 0) hx hb dX4_command_148 (by decide) ?_
        cases h
        exact zw_z hx hb hr hlocks (by decide) hP hS dX4_command_149
      · replace h := zf c15 h
        refine lv_iconst (v := 1) hx hb dX4_command_144 (by decide) ?_
        refine lv_goto (tgt := 149) hx hb dX4_command_145 (by decide) ?_
        cases h
        exact zw_z hx hb hr hlocks (by decide) hP hS dX4_command_149
  replace h := zf c11 h
  by_cases c16 : a1 = 4
  · replace h := zt c16 h
    refine lv_tableIn (tgt := 150) (off := 138) hx hb dX4_command_12 (by rw [c16]; decide) (by rw [c16]; decide) (by rw [c16]; rfl) (by decide) ?_
    refine lv_iload hx hb dX4_command_150 (lv_at hl 0 rfl) ?_
    refine lv_if_ne (tgt := 191) hx hb dX4_command_152 (by decide) (fun c17 => ?_) (fun c17 => ?_)
    · replace h := zf c17 h
      refine lv_iconst (v := 0) hx hb dX4_command_191 (by decide) ?_
      cases h
      exact zw_z hx hb hr hlocks (by decide) hP hS dX4_command_192
    · replace h := zt c17 h
      refine lv_iload_n hx hb dX4_command_155 rfl (lv_at hl 1 rfl) ?_
      refine lv_bipush (v := 100) hx hb dX4_command_156 (by decide) ?_
      refine lv_idiv hx hb dX4_command_158 (by decide) ?_
      refine lv_iload_n hx hb dX4_command_159 rfl (lv_at hl 1 rfl) ?_
      refine lv_bipush (v := 100) hx hb dX4_command_160 (by decide) ?_
      refine lv_irem hx hb dX4_command_162 (by decide) ?_
      obtain ⟨r18, e18, h⟩ := zb h
      refine zS (As := [.int ((a2 / 100) / 100), .int (irem (a2 / 100) 100)]) (rest := []) (zQi_q _) ⟨hx, hb, hml, hown, hts⟩ (kX4_isSetting l g ((a2 / 100) / 100) (irem (a2 / 100) 100) e18) (va_cwS 2 hts gX4_command_X4_isSetting rfl rfl rfl hdS_X4_isSetting ⟨Nat.le_of_ble_eq_true rfl, Nat.le_of_ble_eq_true rfl⟩) hK hP [] rfl rfl hl.1 rfl (Nat.le_of_ble_eq_true rfl) ⟨Nat.zero_le _, Nat.zero_le _⟩ dX4_command_163 ?_
      refine lv_if_eq (tgt := 191) hx hb dX4_command_166 (by decide) (fun c19 => ?_) (fun c19 => ?_)
      · replace h := zt c19 h
        refine lv_iconst (v := 0) hx hb dX4_command_191 (by decide) ?_
        cases h
        exact zw_z hx hb hr hlocks (by decide) hP hS dX4_command_192
      · replace h := zf c19 h
        refine lv_aload_n hx hb dX4_command_169 rfl (lv_at hl 2 rfl) ?_
        refine va_get (ci := 4) (v := .ref h3) (C := RX4) (T := TX4) (N := 13) hx hb hts uX4_command_X4 hown hK hP 0 rfl rfl 4 (by decide) (hts _ mX4_command_16) (fun _ h9 => h9) rfl dX4_command_170 ?_
        refine lv_iload_n hx hb dX4_command_173 rfl (lv_at hl 1 rfl) ?_
        refine lv_bipush (v := 100) hx hb dX4_command_174 (by decide) ?_
        refine lv_idiv hx hb dX4_command_176 (by decide) ?_
        refine lv_iload_n hx hb dX4_command_177 rfl (lv_at hl 1 rfl) ?_
        refine lv_bipush (v := 100) hx hb dX4_command_178 (by decide) ?_
        refine lv_irem hx hb dX4_command_180 (by decide) ?_
        obtain ⟨r20, tr20, e20, h⟩ := zb2 h
        refine zSw (As := [.ref h3, .int ((a2 / 100) / 100), .int (irem (a2 / 100) 100)]) (rest := []) (zWi_q g _ _) ⟨hx, hb, hml, hown, hts⟩ (kX4_lay l g h3 tr ((a2 / 100) / 100) (irem (a2 / 100) 100) e20) (va_cwS 3 hts gX4_command_X4_lay rfl rfl rfl hdS_X4_lay ⟨Nat.le_of_ble_eq_true rfl, Nat.le_of_ble_eq_true rfl⟩) hK hP hD hS hA [3] (by decide) rfl rfl rfl hl.1 rfl (Nat.le_of_ble_eq_true rfl) ⟨Nat.zero_le _, Nat.zero_le _⟩ dX4_command_181 (fun H locs hP hD hS => ?_)
        replace hP : zP g (zMA g h0 h1 h2 h3 h4 h5 h6 rf sz ac sF sB sp ou tx nw tr20 di ke ik) H := hP
        replace hD : va_D A (zMA g h0 h1 h2 h3 h4 h5 h6 rf sz ac sF sB sp ou tx nw tr20 di ke ik) := hD
        refine lv_if_lt (tgt := 191) hx hb dX4_command_184 (by decide) (fun c21 => ?_) (fun c21 => ?_)
        · replace h := zt c21 h
          refine lv_iconst (v := 0) hx hb dX4_command_191 (by decide) ?_
          cases h
          exact zw_z hx hb hr hlocks (by decide) hP hS dX4_command_192
        · replace h := zf c21 h
          refine lv_iconst (v := 1) hx hb dX4_command_187 (by decide) ?_
          refine lv_goto (tgt := 192) hx hb dX4_command_188 (by decide) ?_
          cases h
          exact zw_z hx hb hr hlocks (by decide) hP hS dX4_command_192
  replace h := zf c16 h
  by_cases c22 : a1 = 5
  · replace h := zt c22 h
    refine lv_tableIn (tgt := 193) (off := 181) hx hb dX4_command_12 (by rw [c22]; decide) (by rw [c22]; decide) (by rw [c22]; rfl) (by decide) ?_
    refine lv_iload_n hx hb dX4_command_193 rfl (lv_at hl 4 rfl) ?_
    refine lv_if_ne (tgt := 212) hx hb dX4_command_194 (by decide) (fun c23 => ?_) (fun c23 => ?_)
    · replace h := zf c23 h
      refine lv_iconst (v := 0) hx hb dX4_command_212 (by decide) ?_
      cases h
      exact zw_z hx hb hr hlocks (by decide) hP hS dX4_command_213
    · replace h := zt c23 h
      refine lv_aload_n hx hb dX4_command_197 rfl (lv_at hl 2 rfl) ?_
      refine lv_aload_n hx hb dX4_command_198 rfl (lv_at hl 2 rfl) ?_
      refine va_get (ci := 4) (v := .ref h3) (C := RX4) (T := TX4) (N := 13) hx hb hts uX4_command_X4 hown hK hP 0 rfl rfl 4 (by decide) (hts _ mX4_command_16) (fun _ h9 => h9) rfl dX4_command_199 ?_
      obtain ⟨r24, sF24, sB24, tr24, e24, h⟩ := zb4 h
      refine zVw (As := [.ref h3]) (rest := []) (zWi_q g _ _) ⟨hx, hb, hml, hown, hts⟩ (kX4_flushOn l g h0 h1 h3 (.ref h2) (.ref h3) (.ref h4) (.ref h5) (.ref h6) rf sz ac sF sB sp ou tx tr e24) (cwV 1 hts gX4_command_X4_flushOn rfl rfl rfl hdV_X4_flushOn ⟨Nat.le_of_ble_eq_true rfl, Nat.le_of_ble_eq_true rfl⟩) hK hP hD hS hA [0, 1, 3] (by decide) rfl rfl 0 rfl rfl rfl hl.1 rfl (Nat.le_of_ble_eq_true rfl) ⟨Nat.zero_le _, Nat.zero_le _⟩ dX4_command_202 (fun H locs hP hD hS => ?_)
      replace hP : zP g (zMA g h0 h1 h2 h3 h4 h5 h6 rf sz ac sF24 sB24 sp ou tx nw tr24 di ke ik) H := hP
      replace hD : va_D A (zMA g h0 h1 h2 h3 h4 h5 h6 rf sz ac sF24 sB24 sp ou tx nw tr24 di ke ik) := hD
      refine lv_if_lt (tgt := 212) hx hb dX4_command_205 (by decide) (fun c25 => ?_) (fun c25 => ?_)
      · replace h := zt c25 h
        refine lv_iconst (v := 0) hx hb dX4_command_212 (by decide) ?_
        cases h
        exact zw_z hx hb hr hlocks (by decide) hP hS dX4_command_213
      · replace h := zf c25 h
        refine lv_iconst (v := 1) hx hb dX4_command_208 (by decide) ?_
        refine lv_goto (tgt := 213) hx hb dX4_command_209 (by decide) ?_
        cases h
        exact zw_z hx hb hr hlocks (by decide) hP hS dX4_command_213
  replace h := zf c22 h
  by_cases c26 : a1 = 6
  · replace h := zt c26 h
    refine lv_tableIn (tgt := 214) (off := 202) hx hb dX4_command_12 (by rw [c26]; decide) (by rw [c26]; decide) (by rw [c26]; rfl) (by decide) ?_
    refine lv_iload_n hx hb dX4_command_214 rfl (lv_at hl 1 rfl) ?_
    obtain ⟨r27, e27, h⟩ := zb h
    refine zS (As := [.int (a2 / 100)]) (rest := []) (zQi_q _) ⟨hx, hb, hml, hown, hts⟩ (kX4_isBlock l g (a2 / 100) e27) (va_cwS 1 hts gX4_command_X4_isBlock rfl rfl rfl hdS_X4_isBlock ⟨Nat.le_of_ble_eq_true rfl, Nat.le_of_ble_eq_true rfl⟩) hK hP [] rfl rfl hl.1 rfl (Nat.le_of_ble_eq_true rfl) ⟨Nat.zero_le _, Nat.zero_le _⟩ dX4_command_215 ?_
    refine lv_if_eq (tgt := 240) hx hb dX4_command_218 (by decide) (fun c28 => ?_) (fun c28 => ?_)
    · replace h := zt c28 h
      refine lv_iconst (v := 0) hx hb dX4_command_240 (by decide) ?_
      cases h
      exact zw_z hx hb hr hlocks (by decide) hP hS dX4_command_241
    · replace h := zf c28 h
      refine lv_aload_n hx hb dX4_command_221 rfl (lv_at hl 2 rfl) ?_
      refine va_get (ci := 4) (v := .ref h3) (C := RX4) (T := TX4) (N := 13) hx hb hts uX4_command_X4 hown hK hP 0 rfl rfl 4 (by decide) (hts _ mX4_command_16) (fun _ h9 => h9) rfl dX4_command_222 ?_
      refine lv_sipush (v := 256) hx hb dX4_command_225 (by decide) ?_
      refine lv_iload_n hx hb dX4_command_228 rfl (lv_at hl 1 rfl) ?_
      refine lv_iadd hx hb dX4_command_229 ?_
      obtain ⟨i29, h⟩ := zi h
      refine za_ild hx hb hK hP 3 rfl _ rfl i29 dX4_command_230 ?_
      refine lv_iload hx hb dX4_command_231 (lv_at hl 0 rfl) ?_
      refine lv_icmp_ne (tgt := 240) hx hb dX4_command_233 (by decide) (fun c30 => ?_) (fun c30 => ?_)
      · replace h := zf c30 h
        refine lv_iconst (v := 0) hx hb dX4_command_240 (by decide) ?_
        cases h
        exact zw_z hx hb hr hlocks (by decide) hP hS dX4_command_241
      · replace h := zt c30 h
        refine lv_iconst (v := 1) hx hb dX4_command_236 (by decide) ?_
        refine lv_goto (tgt := 241) hx hb dX4_command_237 (by decide) ?_
        cases h
        exact zw_z hx hb hr hlocks (by decide) hP hS dX4_command_241
  replace h := zf c26 h
  by_cases c31 : a1 = 7
  · replace h := zt c31 h
    refine lv_tableIn (tgt := 242) (off := 230) hx hb dX4_command_12 (by rw [c31]; decide) (by rw [c31]; decide) (by rw [c31]; rfl) (by decide) ?_
    refine lv_iload_n hx hb dX4_command_242 rfl (lv_at hl 4 rfl) ?_
    refine lv_sipush (v := 1000) hx hb dX4_command_243 (by decide) ?_
    refine lv_icmp_ge (tgt := 264) hx hb dX4_command_246 (by decide) (fun c32 => ?_) (fun c32 => ?_)
    · replace h := zt c32 h
      refine lv_iconst (v := 0) hx hb dX4_command_264 (by decide) ?_
      cases h
      exact zw_z hx hb hr hlocks (by decide) hP hS dX4_command_265
    · replace h := zf c32 h
      refine lv_aload_n hx hb dX4_command_249 rfl (lv_at hl 2 rfl) ?_
      refine va_get (ci := 4) (v := .ref h3) (C := RX4) (T := TX4) (N := 13) hx hb hts uX4_command_X4 hown hK hP 0 rfl rfl 4 (by decide) (hts _ mX4_command_16) (fun _ h9 => h9) rfl dX4_command_250 ?_
      obtain ⟨r33, e33, h⟩ := zb h
      refine zS (As := [.ref h3]) (rest := []) (zQi_q _) ⟨hx, hb, hml, hown, hts⟩ (kX4_queuedBlocks l g h3 tr e33) (va_cwS 1 hts gX4_command_X4_queuedBlocks rfl rfl rfl hdS_X4_queuedBlocks ⟨Nat.le_of_ble_eq_true rfl, Nat.le_of_ble_eq_true rfl⟩) hK hP [3] rfl rfl hl.1 rfl (Nat.le_of_ble_eq_true rfl) ⟨Nat.zero_le _, Nat.zero_le _⟩ dX4_command_253 ?_
      refine lv_iload_n hx hb dX4_command_256 rfl (lv_at hl 4 rfl) ?_
      refine lv_icmp_gt (tgt := 264) hx hb dX4_command_257 (by decide) (fun c34 => ?_) (fun c34 => ?_)
      · replace h := zt c34 h
        refine lv_iconst (v := 0) hx hb dX4_command_264 (by decide) ?_
        cases h
        exact zw_z hx hb hr hlocks (by decide) hP hS dX4_command_265
      · replace h := zf c34 h
        refine lv_iconst (v := 1) hx hb dX4_command_260 (by decide) ?_
        refine lv_goto (tgt := 265) hx hb dX4_command_261 (by decide) ?_
        cases h
        exact zw_z hx hb hr hlocks (by decide) hP hS dX4_command_265
  replace h := zf c31 h
  by_cases c35 : a1 = 8
  · replace h := zt c35 h
    refine lv_tableIn (tgt := 266) (off := 254) hx hb dX4_command_12 (by rw [c35]; decide) (by rw [c35]; decide) (by rw [c35]; rfl) (by decide) ?_
    refine lv_iload_n hx hb dX4_command_266 rfl (lv_at hl 4 rfl) ?_
    refine lv_bipush (v := 100) hx hb dX4_command_267 (by decide) ?_
    refine lv_icmp_ge (tgt := 287) hx hb dX4_command_269 (by decide) (fun c36 => ?_) (fun c36 => ?_)
    · replace h := zt c36 h
      refine lv_iconst (v := 0) hx hb dX4_command_287 (by decide) ?_
      cases h
      exact zw_z hx hb hr hlocks (by decide) hP hS dX4_command_288
    · replace h := zf c36 h
      refine lv_aload_n hx hb dX4_command_272 rfl (lv_at hl 2 rfl) ?_
      refine va_get (ci := 4) (v := .ref h3) (C := RX4) (T := TX4) (N := 13) hx hb hts uX4_command_X4 hown hK hP 0 rfl rfl 4 (by decide) (hts _ mX4_command_16) (fun _ h9 => h9) rfl dX4_command_273 ?_
      obtain ⟨r37, e37, h⟩ := zb h
      refine zS (As := [.ref h3]) (rest := []) (zQi_q _) ⟨hx, hb, hml, hown, hts⟩ (kX4_ranges l g h3 tr e37) (va_cwS 1 hts gX4_command_X4_ranges rfl rfl rfl hdS_X4_ranges ⟨Nat.le_of_ble_eq_true rfl, Nat.le_of_ble_eq_true rfl⟩) hK hP [3] rfl rfl hl.1 rfl (Nat.le_of_ble_eq_true rfl) ⟨Nat.zero_le _, Nat.zero_le _⟩ dX4_command_276 ?_
      refine lv_iload_n hx hb dX4_command_279 rfl (lv_at hl 4 rfl) ?_
      refine lv_icmp_lt (tgt := 287) hx hb dX4_command_280 (by decide) (fun c38 => ?_) (fun c38 => ?_)
      · replace h := zt c38 h
        refine lv_iconst (v := 0) hx hb dX4_command_287 (by decide) ?_
        cases h
        exact zw_z hx hb hr hlocks (by decide) hP hS dX4_command_288
      · replace h := zf c38 h
        refine lv_iconst (v := 1) hx hb dX4_command_283 (by decide) ?_
        refine lv_goto (tgt := 288) hx hb dX4_command_284 (by decide) ?_
        cases h
        exact zw_z hx hb hr hlocks (by decide) hP hS dX4_command_288
  replace h := zf c35 h
  by_cases c39 : a1 = 9
  · replace h := zt c39 h
    refine lv_tableIn (tgt := 289) (off := 277) hx hb dX4_command_12 (by rw [c39]; decide) (by rw [c39]; decide) (by rw [c39]; rfl) (by decide) ?_
    refine lv_iload_n hx hb dX4_command_289 rfl (lv_at hl 1 rfl) ?_
    obtain ⟨r40, e40, h⟩ := zb h
    refine zS (As := [.int (a2 / 100)]) (rest := []) (zQi_q _) ⟨hx, hb, hml, hown, hts⟩ (kX4_isBlock l g (a2 / 100) e40) (va_cwS 1 hts gX4_command_X4_isBlock rfl rfl rfl hdS_X4_isBlock ⟨Nat.le_of_ble_eq_true rfl, Nat.le_of_ble_eq_true rfl⟩) hK hP [] rfl rfl hl.1 rfl (Nat.le_of_ble_eq_true rfl) ⟨Nat.zero_le _, Nat.zero_le _⟩ dX4_command_290 ?_
    refine lv_if_eq (tgt := 313) hx hb dX4_command_293 (by decide) (fun c41 => ?_) (fun c41 => ?_)
    · replace h := zt c41 h
      refine lv_iconst (v := 0) hx hb dX4_command_313 (by decide) ?_
      cases h
      exact zw_z hx hb hr hlocks (by decide) hP hS dX4_command_314
    · replace h := zf c41 h
      refine lv_aload_n hx hb dX4_command_296 rfl (lv_at hl 2 rfl) ?_
      refine va_get (ci := 4) (v := .ref h3) (C := RX4) (T := TX4) (N := 13) hx hb hts uX4_command_X4 hown hK hP 0 rfl rfl 4 (by decide) (hts _ mX4_command_16) (fun _ h9 => h9) rfl dX4_command_297 ?_
      refine lv_iconst (v := 0) hx hb dX4_command_300 (by decide) ?_
      refine lv_iload_n hx hb dX4_command_301 rfl (lv_at hl 1 rfl) ?_
      refine lv_iadd hx hb dX4_command_302 ?_
      obtain ⟨i42, h⟩ := zi h
      refine za_ild hx hb hK hP 3 rfl _ rfl i42 dX4_command_303 ?_
      refine lv_iload hx hb dX4_command_304 (lv_at hl 0 rfl) ?_
      refine lv_icmp_ne (tgt := 313) hx hb dX4_command_306 (by decide) (fun c43 => ?_) (fun c43 => ?_)
      · replace h := zf c43 h
        refine lv_iconst (v := 0) hx hb dX4_command_313 (by decide) ?_
        cases h
        exact zw_z hx hb hr hlocks (by decide) hP hS dX4_command_314
      · replace h := zt c43 h
        refine lv_iconst (v := 1) hx hb dX4_command_309 (by decide) ?_
        refine lv_goto (tgt := 314) hx hb dX4_command_310 (by decide) ?_
        cases h
        exact zw_z hx hb hr hlocks (by decide) hP hS dX4_command_314
  replace h := zf c39 h
  refine lv_tableOut (tgt := 315) hx hb dX4_command_12 (by have n1 := lv_neT (a := 1) c1 (by decide); have n6 := lv_neT (a := 2) c6 (by decide); have n11 := lv_neT (a := 3) c11 (by decide); have n16 := lv_neT (a := 4) c16 (by decide); have n22 := lv_neT (a := 5) c22 (by decide); have n26 := lv_neT (a := 6) c26 (by decide); have n31 := lv_neT (a := 7) c31 (by decide); have n35 := lv_neT (a := 8) c35 (by decide); have n39 := lv_neT (a := 9) c39 (by decide); omega) (by decide) ?_
  refine lv_iconst (v := 0) hx hb dX4_command_315 (by decide) ?_
  cases h
  exact zw_z hx hb hr hlocks (by decide) hP hS dX4_command_316
theorem hdV_X4_command : yX4_command.cls = RX4 ∧ yX4_command.cls ≠ "java/lang/invoke/MethodHandle" ∧ yX4_command.cls ≠ "java/lang/invoke/VarHandle" ∧ (parseMethodDescriptor yX4_command.desc).map (fun d => d.parameters.length) = some 2 := by decide +kernel
def fX4_runScript_86  : Nat → Int32 → Int64 → Int64 → Int32 → (Int32) → (Int32) → (Int32) → (Nat → Int32) → Option (Int32 × (Int32) × (Int32) × (Int32) × (Nat → Int32))
  | 0, _, _, _, _, _, _, _, _ => none
  | n + 1, v1, v2, v4, v6, rf, sF, sB, tr =>
    if v1 ≤ v6 then
        some ((-1), rf, sF, sB, tr)
      else
        if (v4 / (1000000)) = 0 then none else
        ob4 (fX4_command sF sB tr ((lrem (v2 / (v4 / (1000000))) (1000000)).toInt32 / (100000)) (irem ((lrem (v2 / (v4 / (1000000))) (1000000)).toInt32) (100000))) fun r3 sF3 sB3 tr3 =>
        if r3 = 0 then
          some (v6, rf, sF3, sB3, tr3)
        else
          fX4_runScript_86 n v1 v2 (v4 / (1000000)) (v6 + 1) rf sF3 sB3 tr3
def fX4_runScript_6 (nw : Nat → Int32) : Nat → Int32 → Int64 → Int64 → Int32 → (Int32) → (Int32) → (Int32) → (Nat → Int32) → Option (Int32 × (Int32) × (Int32) × (Int32) × (Nat → Int32))
  | 0, _, _, _, _, _, _, _, _ => none
  | n + 1, v1, v2, v4, v6, rf, sF, sB, tr =>
    if v1 ≤ v6 then
        ob (fX4_in v1.toInt64 1 (3)) fun r6 =>
        if r6 = 0 then
          ob2 (fX4_refused 1) fun r8 rf8 =>
          if r8 = 0 then
            ob (fX4_copyState 785 785 nw tr 0 0) fun tr10 =>
            fX4_runScript_86 1000 v1 v2 v4 0 rf8 sF sB tr10
          else
            some (0, rf8, sF, sB, tr)
        else
          ob (fX4_in v2 0 (v4 - 1)) fun r11 =>
          if r11 = 0 then
            ob2 (fX4_refused 1) fun r13 rf13 =>
            if r13 = 0 then
              ob (fX4_copyState 785 785 nw tr 0 0) fun tr15 =>
              fX4_runScript_86 1000 v1 v2 v4 0 rf13 sF sB tr15
            else
              some (0, rf13, sF, sB, tr)
          else
            ob2 (fX4_refused 0) fun r16 rf16 =>
            if r16 = 0 then
              ob (fX4_copyState 785 785 nw tr 0 0) fun tr18 =>
              fX4_runScript_86 1000 v1 v2 v4 0 rf16 sF sB tr18
            else
              some (0, rf16, sF, sB, tr)
      else
        if 3 ≤ v6 then
          ob (fX4_in v1.toInt64 1 (3)) fun r20 =>
          if r20 = 0 then
            ob2 (fX4_refused 1) fun r22 rf22 =>
            if r22 = 0 then
              ob (fX4_copyState 785 785 nw tr 0 0) fun tr24 =>
              fX4_runScript_86 1000 v1 v2 v4 0 rf22 sF sB tr24
            else
              some (0, rf22, sF, sB, tr)
          else
            ob (fX4_in v2 0 (v4 - 1)) fun r25 =>
            if r25 = 0 then
              ob2 (fX4_refused 1) fun r27 rf27 =>
              if r27 = 0 then
                ob (fX4_copyState 785 785 nw tr 0 0) fun tr29 =>
                fX4_runScript_86 1000 v1 v2 v4 0 rf27 sF sB tr29
              else
                some (0, rf27, sF, sB, tr)
            else
              ob2 (fX4_refused 0) fun r30 rf30 =>
              if r30 = 0 then
                ob (fX4_copyState 785 785 nw tr 0 0) fun tr32 =>
                fX4_runScript_86 1000 v1 v2 v4 0 rf30 sF sB tr32
              else
                some (0, rf30, sF, sB, tr)
        else
          fX4_runScript_6 nw n v1 v2 (v4 * (1000000)) (v6 + 1) rf sF sB tr
def fX4_runScript (rf : Int32) (sF : Int32) (sB : Int32) (nw : Nat → Int32) (tr : Nat → Int32) (a1 : Int32) (a2 : Int64) : Option (Int32 × (Int32) × (Int32) × (Int32) × (Nat → Int32)) :=
  fX4_runScript_6 nw 1000 a1 a2 1 0 rf sF sB tr
theorem mX4_runScript_203 : Cond.constantLong RX4 203 (1000000) ∈ wsX4_runScript := by decide +kernel
theorem mX4_runScript_205 : Cond.constant RX4 205 (100000) ∈ wsX4_runScript := by decide +kernel
theorem mX4_runScript_186 : Cond.constantLong RX4 186 (3) ∈ wsX4_runScript := by decide +kernel
theorem mX4_runScript_13 : Cond.fieldLink RX4 13 "IdleDiscardsModel" "now" "[I" ∈ wsX4_runScript := by decide +kernel
theorem uX4_runScript_X4 : ∀ w ∈ wsX40, w ∈ wsX4_runScript := by decide +kernel
theorem mX4_runScript_16 : Cond.fieldLink RX4 16 "IdleDiscardsModel" "trial" "[I" ∈ wsX4_runScript := by decide +kernel
set_option maxRecDepth 100000 in
set_option maxHeartbeats 4000000 in
theorem kX4_runScript (l : Launch) (g : zG) (h0 h1 h2 h3 h4 h5 h6 : Nat) (rf : Int32) (sz : Int32) (ac : Int32) (sF : Int32) (sB : Int32) (sp : Int32) (ou : Int32) (tx : Nat → Int32) (nw : Nat → Int32) (tr : Nat → Int32) (di : Nat → Int32) (ke : Nat → Int32) (ik : Nat → Int32) (a1 : Int32) (a2 : Int64) {r : Int32} {rf' : Int32} {sF' : Int32} {sB' : Int32} {tr' : Nat → Int32} (h : fX4_runScript rf sF sB nw tr a1 a2 = some (r, rf', sF', sB', tr')) : Mw l g yX4_runScript wsX4_runScript { frames := 10, cells := 0, slots := 0, locals := 230 } [.ref h0, .int a1, .long a2] (zMA g h0 h1 h2 h3 h4 h5 h6 rf sz ac sF sB sp ou tx nw tr di ke ik) (zWi g (zMA g h0 h1 h2 h3 h4 h5 h6 rf' sz ac sF' sB' sp ou tx nw tr' di ke ik) r) := by
  refine zw_in (cc := cX4_runScript) (maxL := 8) (ret := (some .int)) (by decide) rfl (Nat.le_of_ble_eq_true rfl) ?_
  intro p e s m below meth c hx hb hr hml hts hown hlocks hK A hA hP hD hS ls hl
  replace hl : lv_has ls 8 [(0, .ref h0), (1, .int a1), (2, .long a2)] := hl
  have loop_86 : ∀ (n : Nat) (v1 : Int32) (v2 : Int64) (v4 : Int64) (v6 : Int32) (rf : (Int32)) (sF : (Int32)) (sB : (Int32)) (tr : (Nat → Int32)), fX4_runScript_86 n v1 v2 v4 v6 rf sF sB tr = some (r, rf', sF', sB', tr') → ∀ (H : Heap) (locs : List Loc), zP g (zMA g h0 h1 h2 h3 h4 h5 h6 rf sz ac sF sB sp ou tx nw tr di ke ik) H → va_D A (zMA g h0 h1 h2 h3 h4 h5 h6 rf sz ac sF sB sp ou tx nw tr di ke ik) → va_S A s.heap H locs → ∀ (ls : Array Slot), lv_has ls 8 [(0, .ref h0), (1, .int v1), (2, .long v2), (4, .long v4), (6, .int v6)] → W p l e ({ frames := 10, cells := 0, slots := 0, locals := 230 } : Room) s m [.ref h0, .int a1, .long a2].toArray below meth c H locs 0 0 (MQ below (zWi g (zMA g h0 h1 h2 h3 h4 h5 h6 rf' sz ac sF' sB' sp ou tx nw tr' di ke ik) r A) [.ref h0, .int a1, .long a2].toArray s 0 0 A) (F0 m 86 ls []) := by
    intro n
    induction n with
    | zero => intro v1 v2 v4 v6 rf sF sB tr h H locs hP hD hS ls hl; exact zn h
    | succ n ih =>
      intro v1 v2 v4 v6 rf sF sB tr h H locs hP hD hS ls hl
      rw [fX4_runScript_86] at h
      refine lv_iload hx hb dX4_runScript_86 (lv_at hl 4 rfl) ?_
      refine lv_iload_n hx hb dX4_runScript_88 rfl (lv_at hl 1 rfl) ?_
      refine lv_icmp_ge (tgt := 137) hx hb dX4_runScript_89 (by decide) (fun c1 => ?_) (fun c1 => ?_)
      · replace h := zt c1 h
        refine lv_iconst (v := (-1)) hx hb dX4_runScript_137 (by decide) ?_
        cases h
        exact zw_i hx hb hr hlocks hP hS dX4_runScript_138
      · replace h := zf c1 h
        refine lv_lload hx hb dX4_runScript_92 (lv_at hl 3 rfl) ?_
        refine lv_ldc2 hx hb hown (hts _ mX4_runScript_203) dX4_runScript_94 ?_
        refine lv_ldiv hx hb dX4_runScript_97 (by decide) ?_
        refine lv_lstore (lv' := [(4, .long (v4 / (1000000))), (0, .ref h0), (1, .int v1), (2, .long v2), (6, .int v6)]) hx hb dX4_runScript_98 hl (by decide) rfl (fun ls hl => ?_)
        refine lv_lload_n hx hb dX4_runScript_100 rfl (lv_at hl 3 rfl) ?_
        refine lv_lload hx hb dX4_runScript_101 (lv_at hl 0 rfl) ?_
        obtain ⟨i2, h⟩ := zi h
        refine lv_ldiv hx hb dX4_runScript_103 i2 ?_
        refine lv_ldc2 hx hb hown (hts _ mX4_runScript_203) dX4_runScript_104 ?_
        refine lv_lrem hx hb dX4_runScript_107 (by decide) ?_
        refine lv_l2i (v := (lrem (v2 / (v4 / (1000000))) (1000000)).toInt32) hx hb dX4_runScript_108 rfl ?_
        refine lv_istore (lv' := [(7, .int ((lrem (v2 / (v4 / (1000000))) (1000000)).toInt32)), (4, .long (v4 / (1000000))), (0, .ref h0), (1, .int v1), (2, .long v2), (6, .int v6)]) hx hb dX4_runScript_109 hl (by decide) rfl (fun ls hl => ?_)
        refine lv_aload_n hx hb dX4_runScript_111 rfl (lv_at hl 2 rfl) ?_
        refine lv_iload hx hb dX4_runScript_112 (lv_at hl 0 rfl) ?_
        refine lv_ldc hx hb hown (hts _ mX4_runScript_205) dX4_runScript_114 ?_
        refine lv_idiv hx hb dX4_runScript_116 (by decide) ?_
        refine lv_iload hx hb dX4_runScript_117 (lv_at hl 0 rfl) ?_
        refine lv_ldc hx hb hown (hts _ mX4_runScript_205) dX4_runScript_119 ?_
        refine lv_irem hx hb dX4_runScript_121 (by decide) ?_
        obtain ⟨r3, sF3, sB3, tr3, e3, h⟩ := zb4 h
        refine zVw (As := [.int ((lrem (v2 / (v4 / (1000000))) (1000000)).toInt32 / (100000)), .int (irem ((lrem (v2 / (v4 / (1000000))) (1000000)).toInt32) (100000))]) (rest := []) (zWi_q g _ _) ⟨hx, hb, hml, hown, hts⟩ (kX4_command l g h0 h1 h2 h3 h4 h5 h6 rf sz ac sF sB sp ou tx nw tr di ke ik ((lrem (v2 / (v4 / (1000000))) (1000000)).toInt32 / (100000)) (irem ((lrem (v2 / (v4 / (1000000))) (1000000)).toInt32) (100000)) e3) (cwV 2 hts gX4_runScript_X4_command rfl rfl rfl hdV_X4_command ⟨Nat.le_of_ble_eq_true rfl, Nat.le_of_ble_eq_true rfl⟩) hK hP hD hS hA [0, 1, 2, 3, 4, 5, 6] (by decide) rfl rfl 0 rfl rfl rfl hl.1 rfl (Nat.le_of_ble_eq_true rfl) ⟨Nat.zero_le _, Nat.zero_le _⟩ dX4_runScript_122 (fun H locs hP hD hS => ?_)
        replace hP : zP g (zMA g h0 h1 h2 h3 h4 h5 h6 rf sz ac sF3 sB3 sp ou tx nw tr3 di ke ik) H := hP
        replace hD : va_D A (zMA g h0 h1 h2 h3 h4 h5 h6 rf sz ac sF3 sB3 sp ou tx nw tr3 di ke ik) := hD
        refine lv_if_ne (tgt := 131) hx hb dX4_runScript_125 (by decide) (fun c4 => ?_) (fun c4 => ?_)
        · replace h := zf c4 h
          refine lv_iinc (v := (v6 + 1)) (lv' := [(6, .int (v6 + 1)), (7, .int ((lrem (v2 / (v4 / (1000000))) (1000000)).toInt32)), (4, .long (v4 / (1000000))), (0, .ref h0), (1, .int v1), (2, .long v2)]) hx hb dX4_runScript_131 hl (k := 5) rfl rfl (by decide) rfl (fun ls hl => ?_)
          refine lv_goto (tgt := 86) hx hb dX4_runScript_134 (by decide) ?_
          exact ih v1 v2 (v4 / (1000000)) (v6 + 1) rf sF3 sB3 tr3 h H locs hP hD hS ls (lv_sub hl [3, 4, 5, 2, 0] rfl)
        · replace h := zt c4 h
          refine lv_iload hx hb dX4_runScript_128 (lv_at hl 5 rfl) ?_
          cases h
          exact zw_i hx hb hr hlocks hP hS dX4_runScript_130
  have loop_6 : ∀ (n : Nat) (v1 : Int32) (v2 : Int64) (v4 : Int64) (v6 : Int32) (rf : (Int32)) (sF : (Int32)) (sB : (Int32)) (tr : (Nat → Int32)), fX4_runScript_6 nw n v1 v2 v4 v6 rf sF sB tr = some (r, rf', sF', sB', tr') → ∀ (H : Heap) (locs : List Loc), zP g (zMA g h0 h1 h2 h3 h4 h5 h6 rf sz ac sF sB sp ou tx nw tr di ke ik) H → va_D A (zMA g h0 h1 h2 h3 h4 h5 h6 rf sz ac sF sB sp ou tx nw tr di ke ik) → va_S A s.heap H locs → ∀ (ls : Array Slot), lv_has ls 8 [(0, .ref h0), (1, .int v1), (2, .long v2), (4, .long v4), (6, .int v6)] → W p l e ({ frames := 10, cells := 0, slots := 0, locals := 230 } : Room) s m [.ref h0, .int a1, .long a2].toArray below meth c H locs 0 0 (MQ below (zWi g (zMA g h0 h1 h2 h3 h4 h5 h6 rf' sz ac sF' sB' sp ou tx nw tr' di ke ik) r A) [.ref h0, .int a1, .long a2].toArray s 0 0 A) (F0 m 6 ls []) := by
    intro n
    induction n with
    | zero => intro v1 v2 v4 v6 rf sF sB tr h H locs hP hD hS ls hl; exact zn h
    | succ n ih =>
      intro v1 v2 v4 v6 rf sF sB tr h H locs hP hD hS ls hl
      rw [fX4_runScript_6] at h
      refine lv_iload hx hb dX4_runScript_6 (lv_at hl 4 rfl) ?_
      refine lv_iload_n hx hb dX4_runScript_8 rfl (lv_at hl 1 rfl) ?_
      refine lv_icmp_ge (tgt := 32) hx hb dX4_runScript_9 (by decide) (fun c5 => ?_) (fun c5 => ?_)
      · replace h := zt c5 h
        refine lv_aload_n hx hb dX4_runScript_32 rfl (lv_at hl 0 rfl) ?_
        refine lv_iload_n hx hb dX4_runScript_33 rfl (lv_at hl 1 rfl) ?_
        refine lv_i2l (v := v1.toInt64) hx hb dX4_runScript_34 rfl ?_
        refine lv_lconst (v := 1) hx hb dX4_runScript_35 (by decide) ?_
        refine lv_ldc2 hx hb hown (hts _ mX4_runScript_186) dX4_runScript_36 ?_
        obtain ⟨r6, e6, h⟩ := zb h
        refine zS (As := [.long v1.toInt64, .long 1, .long (3)]) (rest := [.ref h0]) (zQi_q _) ⟨hx, hb, hml, hown, hts⟩ (kX4_in l g v1.toInt64 1 (3) e6) (va_cwS 3 hts gX4_runScript_X4_in rfl rfl rfl hdS_X4_in ⟨Nat.le_of_ble_eq_true rfl, Nat.le_of_ble_eq_true rfl⟩) hK hP [] rfl rfl hl.1 rfl (Nat.le_of_ble_eq_true rfl) ⟨Nat.zero_le _, Nat.zero_le _⟩ dX4_runScript_39 ?_
        refine lv_if_eq (tgt := 61) hx hb dX4_runScript_42 (by decide) (fun c7 => ?_) (fun c7 => ?_)
        · replace h := zt c7 h
          refine lv_iconst (v := 1) hx hb dX4_runScript_61 (by decide) ?_
          obtain ⟨r8, rf8, e8, h⟩ := zb2 h
          refine zVw (As := [.int 1]) (rest := []) (zWi_q g _ _) ⟨hx, hb, hml, hown, hts⟩ (kX4_refused l g h0 h1 (.ref h2) (.ref h3) (.ref h4) (.ref h5) (.ref h6) rf sz ac sF sB sp ou tx 1 e8) (cwV 1 hts gX4_runScript_X4_refused rfl rfl rfl hdV_X4_refused ⟨Nat.le_of_ble_eq_true rfl, Nat.le_of_ble_eq_true rfl⟩) hK hP hD hS hA [0, 1] (by decide) rfl rfl 0 rfl rfl rfl hl.1 rfl (Nat.le_of_ble_eq_true rfl) ⟨Nat.zero_le _, Nat.zero_le _⟩ dX4_runScript_62 (fun H locs hP hD hS => ?_)
          replace hP : zP g (zMA g h0 h1 h2 h3 h4 h5 h6 rf8 sz ac sF sB sp ou tx nw tr di ke ik) H := hP
          replace hD : va_D A (zMA g h0 h1 h2 h3 h4 h5 h6 rf8 sz ac sF sB sp ou tx nw tr di ke ik) := hD
          refine lv_if_eq (tgt := 70) hx hb dX4_runScript_65 (by decide) (fun c9 => ?_) (fun c9 => ?_)
          · replace h := zt c9 h
            refine lv_aload_n hx hb dX4_runScript_70 rfl (lv_at hl 0 rfl) ?_
            refine va_get (ci := 4) (v := .ref h2) (C := RX4) (T := TX4) (N := 13) hx hb hts uX4_runScript_X4 hown hK hP 0 rfl rfl 3 (by decide) (hts _ mX4_runScript_13) (fun _ h9 => h9) rfl dX4_runScript_71 ?_
            refine lv_iconst (v := 0) hx hb dX4_runScript_74 (by decide) ?_
            refine lv_aload_n hx hb dX4_runScript_75 rfl (lv_at hl 0 rfl) ?_
            refine va_get (ci := 4) (v := .ref h3) (C := RX4) (T := TX4) (N := 13) hx hb hts uX4_runScript_X4 hown hK hP 0 rfl rfl 4 (by decide) (hts _ mX4_runScript_16) (fun _ h9 => h9) rfl dX4_runScript_76 ?_
            refine lv_iconst (v := 0) hx hb dX4_runScript_79 (by decide) ?_
            obtain ⟨tr10, e10, h⟩ := zb h
            refine zSw (As := [.ref h2, .int 0, .ref h3, .int 0]) (rest := []) (zWv_q g _) ⟨hx, hb, hml, hown, hts⟩ (kX4_copyState l g 785 785 h2 h3 nw tr 0 0 e10) (va_cwS 4 hts gX4_runScript_X4_copyState rfl rfl rfl hdS_X4_copyState ⟨Nat.le_of_ble_eq_true rfl, Nat.le_of_ble_eq_true rfl⟩) hK hP hD hS hA [2, 3] (by decide) rfl rfl rfl hl.1 rfl (Nat.le_of_ble_eq_true rfl) ⟨Nat.zero_le _, Nat.zero_le _⟩ dX4_runScript_80 (fun H locs hP hD hS => ?_)
            replace hP : zP g (zMA g h0 h1 h2 h3 h4 h5 h6 rf8 sz ac sF sB sp ou tx nw tr10 di ke ik) H := hP
            replace hD : va_D A (zMA g h0 h1 h2 h3 h4 h5 h6 rf8 sz ac sF sB sp ou tx nw tr10 di ke ik) := hD
            refine lv_iconst (v := 0) hx hb dX4_runScript_83 (by decide) ?_
            refine lv_istore (lv' := [(6, .int 0), (0, .ref h0), (1, .int v1), (2, .long v2), (4, .long v4)]) hx hb dX4_runScript_84 hl (by decide) rfl (fun ls hl => ?_)
            exact loop_86 1000 v1 v2 v4 0 rf8 sF sB tr10 h H locs hP hD hS ls (lv_sub hl [1, 2, 3, 4, 0] rfl)
          · replace h := zf c9 h
            refine lv_iconst (v := 0) hx hb dX4_runScript_68 (by decide) ?_
            cases h
            exact zw_i hx hb hr hlocks hP hS dX4_runScript_69
        · replace h := zf c7 h
          refine lv_lload_n hx hb dX4_runScript_45 rfl (lv_at hl 2 rfl) ?_
          refine lv_lconst (v := 0) hx hb dX4_runScript_46 (by decide) ?_
          refine lv_lload hx hb dX4_runScript_47 (lv_at hl 3 rfl) ?_
          refine lv_lconst (v := 1) hx hb dX4_runScript_49 (by decide) ?_
          refine lv_lsub hx hb dX4_runScript_50 ?_
          obtain ⟨r11, e11, h⟩ := zb h
          refine zS (As := [.long v2, .long 0, .long (v4 - 1)]) (rest := [.ref h0]) (zQi_q _) ⟨hx, hb, hml, hown, hts⟩ (kX4_in l g v2 0 (v4 - 1) e11) (va_cwS 3 hts gX4_runScript_X4_in rfl rfl rfl hdS_X4_in ⟨Nat.le_of_ble_eq_true rfl, Nat.le_of_ble_eq_true rfl⟩) hK hP [] rfl rfl hl.1 rfl (Nat.le_of_ble_eq_true rfl) ⟨Nat.zero_le _, Nat.zero_le _⟩ dX4_runScript_51 ?_
          refine lv_if_eq (tgt := 61) hx hb dX4_runScript_54 (by decide) (fun c12 => ?_) (fun c12 => ?_)
          · replace h := zt c12 h
            refine lv_iconst (v := 1) hx hb dX4_runScript_61 (by decide) ?_
            obtain ⟨r13, rf13, e13, h⟩ := zb2 h
            refine zVw (As := [.int 1]) (rest := []) (zWi_q g _ _) ⟨hx, hb, hml, hown, hts⟩ (kX4_refused l g h0 h1 (.ref h2) (.ref h3) (.ref h4) (.ref h5) (.ref h6) rf sz ac sF sB sp ou tx 1 e13) (cwV 1 hts gX4_runScript_X4_refused rfl rfl rfl hdV_X4_refused ⟨Nat.le_of_ble_eq_true rfl, Nat.le_of_ble_eq_true rfl⟩) hK hP hD hS hA [0, 1] (by decide) rfl rfl 0 rfl rfl rfl hl.1 rfl (Nat.le_of_ble_eq_true rfl) ⟨Nat.zero_le _, Nat.zero_le _⟩ dX4_runScript_62 (fun H locs hP hD hS => ?_)
            replace hP : zP g (zMA g h0 h1 h2 h3 h4 h5 h6 rf13 sz ac sF sB sp ou tx nw tr di ke ik) H := hP
            replace hD : va_D A (zMA g h0 h1 h2 h3 h4 h5 h6 rf13 sz ac sF sB sp ou tx nw tr di ke ik) := hD
            refine lv_if_eq (tgt := 70) hx hb dX4_runScript_65 (by decide) (fun c14 => ?_) (fun c14 => ?_)
            · replace h := zt c14 h
              refine lv_aload_n hx hb dX4_runScript_70 rfl (lv_at hl 0 rfl) ?_
              refine va_get (ci := 4) (v := .ref h2) (C := RX4) (T := TX4) (N := 13) hx hb hts uX4_runScript_X4 hown hK hP 0 rfl rfl 3 (by decide) (hts _ mX4_runScript_13) (fun _ h9 => h9) rfl dX4_runScript_71 ?_
              refine lv_iconst (v := 0) hx hb dX4_runScript_74 (by decide) ?_
              refine lv_aload_n hx hb dX4_runScript_75 rfl (lv_at hl 0 rfl) ?_
              refine va_get (ci := 4) (v := .ref h3) (C := RX4) (T := TX4) (N := 13) hx hb hts uX4_runScript_X4 hown hK hP 0 rfl rfl 4 (by decide) (hts _ mX4_runScript_16) (fun _ h9 => h9) rfl dX4_runScript_76 ?_
              refine lv_iconst (v := 0) hx hb dX4_runScript_79 (by decide) ?_
              obtain ⟨tr15, e15, h⟩ := zb h
              refine zSw (As := [.ref h2, .int 0, .ref h3, .int 0]) (rest := []) (zWv_q g _) ⟨hx, hb, hml, hown, hts⟩ (kX4_copyState l g 785 785 h2 h3 nw tr 0 0 e15) (va_cwS 4 hts gX4_runScript_X4_copyState rfl rfl rfl hdS_X4_copyState ⟨Nat.le_of_ble_eq_true rfl, Nat.le_of_ble_eq_true rfl⟩) hK hP hD hS hA [2, 3] (by decide) rfl rfl rfl hl.1 rfl (Nat.le_of_ble_eq_true rfl) ⟨Nat.zero_le _, Nat.zero_le _⟩ dX4_runScript_80 (fun H locs hP hD hS => ?_)
              replace hP : zP g (zMA g h0 h1 h2 h3 h4 h5 h6 rf13 sz ac sF sB sp ou tx nw tr15 di ke ik) H := hP
              replace hD : va_D A (zMA g h0 h1 h2 h3 h4 h5 h6 rf13 sz ac sF sB sp ou tx nw tr15 di ke ik) := hD
              refine lv_iconst (v := 0) hx hb dX4_runScript_83 (by decide) ?_
              refine lv_istore (lv' := [(6, .int 0), (0, .ref h0), (1, .int v1), (2, .long v2), (4, .long v4)]) hx hb dX4_runScript_84 hl (by decide) rfl (fun ls hl => ?_)
              exact loop_86 1000 v1 v2 v4 0 rf13 sF sB tr15 h H locs hP hD hS ls (lv_sub hl [1, 2, 3, 4, 0] rfl)
            · replace h := zf c14 h
              refine lv_iconst (v := 0) hx hb dX4_runScript_68 (by decide) ?_
              cases h
              exact zw_i hx hb hr hlocks hP hS dX4_runScript_69
          · replace h := zf c12 h
            refine lv_iconst (v := 0) hx hb dX4_runScript_57 (by decide) ?_
            refine lv_goto (tgt := 62) hx hb dX4_runScript_58 (by decide) ?_
            obtain ⟨r16, rf16, e16, h⟩ := zb2 h
            refine zVw (As := [.int 0]) (rest := []) (zWi_q g _ _) ⟨hx, hb, hml, hown, hts⟩ (kX4_refused l g h0 h1 (.ref h2) (.ref h3) (.ref h4) (.ref h5) (.ref h6) rf sz ac sF sB sp ou tx 0 e16) (cwV 1 hts gX4_runScript_X4_refused rfl rfl rfl hdV_X4_refused ⟨Nat.le_of_ble_eq_true rfl, Nat.le_of_ble_eq_true rfl⟩) hK hP hD hS hA [0, 1] (by decide) rfl rfl 0 rfl rfl rfl hl.1 rfl (Nat.le_of_ble_eq_true rfl) ⟨Nat.zero_le _, Nat.zero_le _⟩ dX4_runScript_62 (fun H locs hP hD hS => ?_)
            replace hP : zP g (zMA g h0 h1 h2 h3 h4 h5 h6 rf16 sz ac sF sB sp ou tx nw tr di ke ik) H := hP
            replace hD : va_D A (zMA g h0 h1 h2 h3 h4 h5 h6 rf16 sz ac sF sB sp ou tx nw tr di ke ik) := hD
            refine lv_if_eq (tgt := 70) hx hb dX4_runScript_65 (by decide) (fun c17 => ?_) (fun c17 => ?_)
            · replace h := zt c17 h
              refine lv_aload_n hx hb dX4_runScript_70 rfl (lv_at hl 0 rfl) ?_
              refine va_get (ci := 4) (v := .ref h2) (C := RX4) (T := TX4) (N := 13) hx hb hts uX4_runScript_X4 hown hK hP 0 rfl rfl 3 (by decide) (hts _ mX4_runScript_13) (fun _ h9 => h9) rfl dX4_runScript_71 ?_
              refine lv_iconst (v := 0) hx hb dX4_runScript_74 (by decide) ?_
              refine lv_aload_n hx hb dX4_runScript_75 rfl (lv_at hl 0 rfl) ?_
              refine va_get (ci := 4) (v := .ref h3) (C := RX4) (T := TX4) (N := 13) hx hb hts uX4_runScript_X4 hown hK hP 0 rfl rfl 4 (by decide) (hts _ mX4_runScript_16) (fun _ h9 => h9) rfl dX4_runScript_76 ?_
              refine lv_iconst (v := 0) hx hb dX4_runScript_79 (by decide) ?_
              obtain ⟨tr18, e18, h⟩ := zb h
              refine zSw (As := [.ref h2, .int 0, .ref h3, .int 0]) (rest := []) (zWv_q g _) ⟨hx, hb, hml, hown, hts⟩ (kX4_copyState l g 785 785 h2 h3 nw tr 0 0 e18) (va_cwS 4 hts gX4_runScript_X4_copyState rfl rfl rfl hdS_X4_copyState ⟨Nat.le_of_ble_eq_true rfl, Nat.le_of_ble_eq_true rfl⟩) hK hP hD hS hA [2, 3] (by decide) rfl rfl rfl hl.1 rfl (Nat.le_of_ble_eq_true rfl) ⟨Nat.zero_le _, Nat.zero_le _⟩ dX4_runScript_80 (fun H locs hP hD hS => ?_)
              replace hP : zP g (zMA g h0 h1 h2 h3 h4 h5 h6 rf16 sz ac sF sB sp ou tx nw tr18 di ke ik) H := hP
              replace hD : va_D A (zMA g h0 h1 h2 h3 h4 h5 h6 rf16 sz ac sF sB sp ou tx nw tr18 di ke ik) := hD
              refine lv_iconst (v := 0) hx hb dX4_runScript_83 (by decide) ?_
              refine lv_istore (lv' := [(6, .int 0), (0, .ref h0), (1, .int v1), (2, .long v2), (4, .long v4)]) hx hb dX4_runScript_84 hl (by decide) rfl (fun ls hl => ?_)
              exact loop_86 1000 v1 v2 v4 0 rf16 sF sB tr18 h H locs hP hD hS ls (lv_sub hl [1, 2, 3, 4, 0] rfl)
            · replace h := zf c17 h
              refine lv_iconst (v := 0) hx hb dX4_runScript_68 (by decide) ?_
              cases h
              exact zw_i hx hb hr hlocks hP hS dX4_runScript_69
      · replace h := zf c5 h
        refine lv_iload hx hb dX4_runScript_12 (lv_at hl 4 rfl) ?_
        refine lv_iconst (v := 3) hx hb dX4_runScript_14 (by decide) ?_
        refine lv_icmp_ge (tgt := 32) hx hb dX4_runScript_15 (by decide) (fun c19 => ?_) (fun c19 => ?_)
        · replace h := zt c19 h
          refine lv_aload_n hx hb dX4_runScript_32 rfl (lv_at hl 0 rfl) ?_
          refine lv_iload_n hx hb dX4_runScript_33 rfl (lv_at hl 1 rfl) ?_
          refine lv_i2l (v := v1.toInt64) hx hb dX4_runScript_34 rfl ?_
          refine lv_lconst (v := 1) hx hb dX4_runScript_35 (by decide) ?_
          refine lv_ldc2 hx hb hown (hts _ mX4_runScript_186) dX4_runScript_36 ?_
          obtain ⟨r20, e20, h⟩ := zb h
          refine zS (As := [.long v1.toInt64, .long 1, .long (3)]) (rest := [.ref h0]) (zQi_q _) ⟨hx, hb, hml, hown, hts⟩ (kX4_in l g v1.toInt64 1 (3) e20) (va_cwS 3 hts gX4_runScript_X4_in rfl rfl rfl hdS_X4_in ⟨Nat.le_of_ble_eq_true rfl, Nat.le_of_ble_eq_true rfl⟩) hK hP [] rfl rfl hl.1 rfl (Nat.le_of_ble_eq_true rfl) ⟨Nat.zero_le _, Nat.zero_le _⟩ dX4_runScript_39 ?_
          refine lv_if_eq (tgt := 61) hx hb dX4_runScript_42 (by decide) (fun c21 => ?_) (fun c21 => ?_)
          · replace h := zt c21 h
            refine lv_iconst (v := 1) hx hb dX4_runScript_61 (by decide) ?_
            obtain ⟨r22, rf22, e22, h⟩ := zb2 h
            refine zVw (As := [.int 1]) (rest := []) (zWi_q g _ _) ⟨hx, hb, hml, hown, hts⟩ (kX4_refused l g h0 h1 (.ref h2) (.ref h3) (.ref h4) (.ref h5) (.ref h6) rf sz ac sF sB sp ou tx 1 e22) (cwV 1 hts gX4_runScript_X4_refused rfl rfl rfl hdV_X4_refused ⟨Nat.le_of_ble_eq_true rfl, Nat.le_of_ble_eq_true rfl⟩) hK hP hD hS hA [0, 1] (by decide) rfl rfl 0 rfl rfl rfl hl.1 rfl (Nat.le_of_ble_eq_true rfl) ⟨Nat.zero_le _, Nat.zero_le _⟩ dX4_runScript_62 (fun H locs hP hD hS => ?_)
            replace hP : zP g (zMA g h0 h1 h2 h3 h4 h5 h6 rf22 sz ac sF sB sp ou tx nw tr di ke ik) H := hP
            replace hD : va_D A (zMA g h0 h1 h2 h3 h4 h5 h6 rf22 sz ac sF sB sp ou tx nw tr di ke ik) := hD
            refine lv_if_eq (tgt := 70) hx hb dX4_runScript_65 (by decide) (fun c23 => ?_) (fun c23 => ?_)
            · replace h := zt c23 h
              refine lv_aload_n hx hb dX4_runScript_70 rfl (lv_at hl 0 rfl) ?_
              refine va_get (ci := 4) (v := .ref h2) (C := RX4) (T := TX4) (N := 13) hx hb hts uX4_runScript_X4 hown hK hP 0 rfl rfl 3 (by decide) (hts _ mX4_runScript_13) (fun _ h9 => h9) rfl dX4_runScript_71 ?_
              refine lv_iconst (v := 0) hx hb dX4_runScript_74 (by decide) ?_
              refine lv_aload_n hx hb dX4_runScript_75 rfl (lv_at hl 0 rfl) ?_
              refine va_get (ci := 4) (v := .ref h3) (C := RX4) (T := TX4) (N := 13) hx hb hts uX4_runScript_X4 hown hK hP 0 rfl rfl 4 (by decide) (hts _ mX4_runScript_16) (fun _ h9 => h9) rfl dX4_runScript_76 ?_
              refine lv_iconst (v := 0) hx hb dX4_runScript_79 (by decide) ?_
              obtain ⟨tr24, e24, h⟩ := zb h
              refine zSw (As := [.ref h2, .int 0, .ref h3, .int 0]) (rest := []) (zWv_q g _) ⟨hx, hb, hml, hown, hts⟩ (kX4_copyState l g 785 785 h2 h3 nw tr 0 0 e24) (va_cwS 4 hts gX4_runScript_X4_copyState rfl rfl rfl hdS_X4_copyState ⟨Nat.le_of_ble_eq_true rfl, Nat.le_of_ble_eq_true rfl⟩) hK hP hD hS hA [2, 3] (by decide) rfl rfl rfl hl.1 rfl (Nat.le_of_ble_eq_true rfl) ⟨Nat.zero_le _, Nat.zero_le _⟩ dX4_runScript_80 (fun H locs hP hD hS => ?_)
              replace hP : zP g (zMA g h0 h1 h2 h3 h4 h5 h6 rf22 sz ac sF sB sp ou tx nw tr24 di ke ik) H := hP
              replace hD : va_D A (zMA g h0 h1 h2 h3 h4 h5 h6 rf22 sz ac sF sB sp ou tx nw tr24 di ke ik) := hD
              refine lv_iconst (v := 0) hx hb dX4_runScript_83 (by decide) ?_
              refine lv_istore (lv' := [(6, .int 0), (0, .ref h0), (1, .int v1), (2, .long v2), (4, .long v4)]) hx hb dX4_runScript_84 hl (by decide) rfl (fun ls hl => ?_)
              exact loop_86 1000 v1 v2 v4 0 rf22 sF sB tr24 h H locs hP hD hS ls (lv_sub hl [1, 2, 3, 4, 0] rfl)
            · replace h := zf c23 h
              refine lv_iconst (v := 0) hx hb dX4_runScript_68 (by decide) ?_
              cases h
              exact zw_i hx hb hr hlocks hP hS dX4_runScript_69
          · replace h := zf c21 h
            refine lv_lload_n hx hb dX4_runScript_45 rfl (lv_at hl 2 rfl) ?_
            refine lv_lconst (v := 0) hx hb dX4_runScript_46 (by decide) ?_
            refine lv_lload hx hb dX4_runScript_47 (lv_at hl 3 rfl) ?_
            refine lv_lconst (v := 1) hx hb dX4_runScript_49 (by decide) ?_
            refine lv_lsub hx hb dX4_runScript_50 ?_
            obtain ⟨r25, e25, h⟩ := zb h
            refine zS (As := [.long v2, .long 0, .long (v4 - 1)]) (rest := [.ref h0]) (zQi_q _) ⟨hx, hb, hml, hown, hts⟩ (kX4_in l g v2 0 (v4 - 1) e25) (va_cwS 3 hts gX4_runScript_X4_in rfl rfl rfl hdS_X4_in ⟨Nat.le_of_ble_eq_true rfl, Nat.le_of_ble_eq_true rfl⟩) hK hP [] rfl rfl hl.1 rfl (Nat.le_of_ble_eq_true rfl) ⟨Nat.zero_le _, Nat.zero_le _⟩ dX4_runScript_51 ?_
            refine lv_if_eq (tgt := 61) hx hb dX4_runScript_54 (by decide) (fun c26 => ?_) (fun c26 => ?_)
            · replace h := zt c26 h
              refine lv_iconst (v := 1) hx hb dX4_runScript_61 (by decide) ?_
              obtain ⟨r27, rf27, e27, h⟩ := zb2 h
              refine zVw (As := [.int 1]) (rest := []) (zWi_q g _ _) ⟨hx, hb, hml, hown, hts⟩ (kX4_refused l g h0 h1 (.ref h2) (.ref h3) (.ref h4) (.ref h5) (.ref h6) rf sz ac sF sB sp ou tx 1 e27) (cwV 1 hts gX4_runScript_X4_refused rfl rfl rfl hdV_X4_refused ⟨Nat.le_of_ble_eq_true rfl, Nat.le_of_ble_eq_true rfl⟩) hK hP hD hS hA [0, 1] (by decide) rfl rfl 0 rfl rfl rfl hl.1 rfl (Nat.le_of_ble_eq_true rfl) ⟨Nat.zero_le _, Nat.zero_le _⟩ dX4_runScript_62 (fun H locs hP hD hS => ?_)
              replace hP : zP g (zMA g h0 h1 h2 h3 h4 h5 h6 rf27 sz ac sF sB sp ou tx nw tr di ke ik) H := hP
              replace hD : va_D A (zMA g h0 h1 h2 h3 h4 h5 h6 rf27 sz ac sF sB sp ou tx nw tr di ke ik) := hD
              refine lv_if_eq (tgt := 70) hx hb dX4_runScript_65 (by decide) (fun c28 => ?_) (fun c28 => ?_)
              · replace h := zt c28 h
                refine lv_aload_n hx hb dX4_runScript_70 rfl (lv_at hl 0 rfl) ?_
                refine va_get (ci := 4) (v := .ref h2) (C := RX4) (T := TX4) (N := 13) hx hb hts uX4_runScript_X4 hown hK hP 0 rfl rfl 3 (by decide) (hts _ mX4_runScript_13) (fun _ h9 => h9) rfl dX4_runScript_71 ?_
                refine lv_iconst (v := 0) hx hb dX4_runScript_74 (by decide) ?_
                refine lv_aload_n hx hb dX4_runScript_75 rfl (lv_at hl 0 rfl) ?_
                refine va_get (ci := 4) (v := .ref h3) (C := RX4) (T := TX4) (N := 13) hx hb hts uX4_runScript_X4 hown hK hP 0 rfl rfl 4 (by decide) (hts _ mX4_runScript_16) (fun _ h9 => h9) rfl dX4_runScript_76 ?_
                refine lv_iconst (v := 0) hx hb dX4_runScript_79 (by decide) ?_
                obtain ⟨tr29, e29, h⟩ := zb h
                refine zSw (As := [.ref h2, .int 0, .ref h3, .int 0]) (rest := []) (zWv_q g _) ⟨hx, hb, hml, hown, hts⟩ (kX4_copyState l g 785 785 h2 h3 nw tr 0 0 e29) (va_cwS 4 hts gX4_runScript_X4_copyState rfl rfl rfl hdS_X4_copyState ⟨Nat.le_of_ble_eq_true rfl, Nat.le_of_ble_eq_true rfl⟩) hK hP hD hS hA [2, 3] (by decide) rfl rfl rfl hl.1 rfl (Nat.le_of_ble_eq_true rfl) ⟨Nat.zero_le _, Nat.zero_le _⟩ dX4_runScript_80 (fun H locs hP hD hS => ?_)
                replace hP : zP g (zMA g h0 h1 h2 h3 h4 h5 h6 rf27 sz ac sF sB sp ou tx nw tr29 di ke ik) H := hP
                replace hD : va_D A (zMA g h0 h1 h2 h3 h4 h5 h6 rf27 sz ac sF sB sp ou tx nw tr29 di ke ik) := hD
                refine lv_iconst (v := 0) hx hb dX4_runScript_83 (by decide) ?_
                refine lv_istore (lv' := [(6, .int 0), (0, .ref h0), (1, .int v1), (2, .long v2), (4, .long v4)]) hx hb dX4_runScript_84 hl (by decide) rfl (fun ls hl => ?_)
                exact loop_86 1000 v1 v2 v4 0 rf27 sF sB tr29 h H locs hP hD hS ls (lv_sub hl [1, 2, 3, 4, 0] rfl)
              · replace h := zf c28 h
                refine lv_iconst (v := 0) hx hb dX4_runScript_68 (by decide) ?_
                cases h
                exact zw_i hx hb hr hlocks hP hS dX4_runScript_69
            · replace h := zf c26 h
              refine lv_iconst (v := 0) hx hb dX4_runScript_57 (by decide) ?_
              refine lv_goto (tgt := 62) hx hb dX4_runScript_58 (by decide) ?_
              obtain ⟨r30, rf30, e30, h⟩ := zb2 h
              refine zVw (As := [.int 0]) (rest := []) (zWi_q g _ _) ⟨hx, hb, hml, hown, hts⟩ (kX4_refused l g h0 h1 (.ref h2) (.ref h3) (.ref h4) (.ref h5) (.ref h6) rf sz ac sF sB sp ou tx 0 e30) (cwV 1 hts gX4_runScript_X4_refused rfl rfl rfl hdV_X4_refused ⟨Nat.le_of_ble_eq_true rfl, Nat.le_of_ble_eq_true rfl⟩) hK hP hD hS hA [0, 1] (by decide) rfl rfl 0 rfl rfl rfl hl.1 rfl (Nat.le_of_ble_eq_true rfl) ⟨Nat.zero_le _, Nat.zero_le _⟩ dX4_runScript_62 (fun H locs hP hD hS => ?_)
              replace hP : zP g (zMA g h0 h1 h2 h3 h4 h5 h6 rf30 sz ac sF sB sp ou tx nw tr di ke ik) H := hP
              replace hD : va_D A (zMA g h0 h1 h2 h3 h4 h5 h6 rf30 sz ac sF sB sp ou tx nw tr di ke ik) := hD
              refine lv_if_eq (tgt := 70) hx hb dX4_runScript_65 (by decide) (fun c31 => ?_) (fun c31 => ?_)
              · replace h := zt c31 h
                refine lv_aload_n hx hb dX4_runScript_70 rfl (lv_at hl 0 rfl) ?_
                refine va_get (ci := 4) (v := .ref h2) (C := RX4) (T := TX4) (N := 13) hx hb hts uX4_runScript_X4 hown hK hP 0 rfl rfl 3 (by decide) (hts _ mX4_runScript_13) (fun _ h9 => h9) rfl dX4_runScript_71 ?_
                refine lv_iconst (v := 0) hx hb dX4_runScript_74 (by decide) ?_
                refine lv_aload_n hx hb dX4_runScript_75 rfl (lv_at hl 0 rfl) ?_
                refine va_get (ci := 4) (v := .ref h3) (C := RX4) (T := TX4) (N := 13) hx hb hts uX4_runScript_X4 hown hK hP 0 rfl rfl 4 (by decide) (hts _ mX4_runScript_16) (fun _ h9 => h9) rfl dX4_runScript_76 ?_
                refine lv_iconst (v := 0) hx hb dX4_runScript_79 (by decide) ?_
                obtain ⟨tr32, e32, h⟩ := zb h
                refine zSw (As := [.ref h2, .int 0, .ref h3, .int 0]) (rest := []) (zWv_q g _) ⟨hx, hb, hml, hown, hts⟩ (kX4_copyState l g 785 785 h2 h3 nw tr 0 0 e32) (va_cwS 4 hts gX4_runScript_X4_copyState rfl rfl rfl hdS_X4_copyState ⟨Nat.le_of_ble_eq_true rfl, Nat.le_of_ble_eq_true rfl⟩) hK hP hD hS hA [2, 3] (by decide) rfl rfl rfl hl.1 rfl (Nat.le_of_ble_eq_true rfl) ⟨Nat.zero_le _, Nat.zero_le _⟩ dX4_runScript_80 (fun H locs hP hD hS => ?_)
                replace hP : zP g (zMA g h0 h1 h2 h3 h4 h5 h6 rf30 sz ac sF sB sp ou tx nw tr32 di ke ik) H := hP
                replace hD : va_D A (zMA g h0 h1 h2 h3 h4 h5 h6 rf30 sz ac sF sB sp ou tx nw tr32 di ke ik) := hD
                refine lv_iconst (v := 0) hx hb dX4_runScript_83 (by decide) ?_
                refine lv_istore (lv' := [(6, .int 0), (0, .ref h0), (1, .int v1), (2, .long v2), (4, .long v4)]) hx hb dX4_runScript_84 hl (by decide) rfl (fun ls hl => ?_)
                exact loop_86 1000 v1 v2 v4 0 rf30 sF sB tr32 h H locs hP hD hS ls (lv_sub hl [1, 2, 3, 4, 0] rfl)
              · replace h := zf c31 h
                refine lv_iconst (v := 0) hx hb dX4_runScript_68 (by decide) ?_
                cases h
                exact zw_i hx hb hr hlocks hP hS dX4_runScript_69
        · replace h := zf c19 h
          refine lv_lload hx hb dX4_runScript_18 (lv_at hl 3 rfl) ?_
          refine lv_ldc2 hx hb hown (hts _ mX4_runScript_203) dX4_runScript_20 ?_
          refine lv_lmul hx hb dX4_runScript_23 ?_
          refine lv_lstore (lv' := [(4, .long (v4 * (1000000))), (0, .ref h0), (1, .int v1), (2, .long v2), (6, .int v6)]) hx hb dX4_runScript_24 hl (by decide) rfl (fun ls hl => ?_)
          refine lv_iinc (v := (v6 + 1)) (lv' := [(6, .int (v6 + 1)), (4, .long (v4 * (1000000))), (0, .ref h0), (1, .int v1), (2, .long v2)]) hx hb dX4_runScript_26 hl (k := 4) rfl rfl (by decide) rfl (fun ls hl => ?_)
          refine lv_goto (tgt := 6) hx hb dX4_runScript_29 (by decide) ?_
          exact ih v1 v2 (v4 * (1000000)) (v6 + 1) rf sF sB tr h H locs hP hD hS ls (lv_sub hl [2, 3, 4, 1, 0] rfl)
  unfold fX4_runScript at h
  refine lv_lconst (v := 1) hx hb dX4_runScript_0 (by decide) ?_
  refine lv_lstore (lv' := [(4, .long 1), (0, .ref h0), (1, .int a1), (2, .long a2)]) hx hb dX4_runScript_1 hl (by decide) rfl (fun ls hl => ?_)
  refine lv_iconst (v := 0) hx hb dX4_runScript_3 (by decide) ?_
  refine lv_istore (lv' := [(6, .int 0), (4, .long 1), (0, .ref h0), (1, .int a1), (2, .long a2)]) hx hb dX4_runScript_4 hl (by decide) rfl (fun ls hl => ?_)
  exact loop_6 1000 a1 a2 1 0 rf sF sB tr h s.heap [] hP hD hS ls (lv_sub hl [2, 3, 4, 1, 0] rfl)
def fX4_turn (sF : Int32) (sB : Int32) (tr : Nat → Int32) (a1 : Int32) : Option ((Int32) × (Int32) × (Nat → Int32)) :=
  if 2 ≤ (irem a1 8) then
    if 5 ≤ (irem a1 8) then
      if (irem a1 8) = 5 then
        ob (fX4_whyNotSpan (irem (a1 / 32) 256) (1 + (irem (a1 / 8192) 9))) fun r5 =>
        if r5 = 0 then
          ob2 (fX4_pinOn tr (irem (a1 / 8) 3) (irem (a1 / 32) 256) (1 + (irem (a1 / 8192) 9))) fun r7 tr7 =>
          some (sF, sB, tr7)
        else
          some (sF, sB, tr)
      else
        ob4 (fX4_runOn sF sB tr (1 + (irem (a1 / 8) 8))) fun r4 sF4 sB4 tr4 =>
        some (sF4, sB4, tr4)
    else
      ob (fX4_whyNotSpan (irem (a1 / 8) 256) (1 + (irem (a1 / 2048) 40))) fun r8 =>
      if r8 = 0 then
        ob2 (fX4_freeOn tr (irem (a1 / 8) 256) (1 + (irem (a1 / 2048) 40))) fun r10 tr10 =>
        some (sF, sB, tr10)
      else
        some (sF, sB, tr)
  else
    ob (fX4_whyNotSpan (irem (a1 / 8) 256) (1 + (irem (a1 / 2048) 40))) fun r11 =>
    if r11 = 0 then
      ob2 (fX4_writeOn tr (irem (a1 / 8) 256) (1 + (irem (a1 / 2048) 40))) fun r13 tr13 =>
      some (sF, sB, tr13)
    else
      some (sF, sB, tr)
theorem mX4_turn_16 : Cond.fieldLink RX4 16 "IdleDiscardsModel" "trial" "[I" ∈ wsX4_turn := by decide +kernel
theorem uX4_turn_X4 : ∀ w ∈ wsX40, w ∈ wsX4_turn := by decide +kernel
set_option maxRecDepth 100000 in
set_option maxHeartbeats 4000000 in
theorem kX4_turn (l : Launch) (g : zG) (h0 h1 h2 h3 h4 h5 h6 : Nat) (rf : Int32) (sz : Int32) (ac : Int32) (sF : Int32) (sB : Int32) (sp : Int32) (ou : Int32) (tx : Nat → Int32) (nw : Nat → Int32) (tr : Nat → Int32) (di : Nat → Int32) (ke : Nat → Int32) (ik : Nat → Int32) (a1 : Int32) {sF' : Int32} {sB' : Int32} {tr' : Nat → Int32} (h : fX4_turn sF sB tr a1 = some (sF', sB', tr')) : Mw l g yX4_turn wsX4_turn { frames := 9, cells := 0, slots := 0, locals := 206 } [.ref h0, .int a1] (zMA g h0 h1 h2 h3 h4 h5 h6 rf sz ac sF sB sp ou tx nw tr di ke ik) (zWv g (zMA g h0 h1 h2 h3 h4 h5 h6 rf sz ac sF' sB' sp ou tx nw tr' di ke ik)) := by
  refine zw_in (cc := cX4_turn) (maxL := 5) (ret := none) (by decide) rfl (Nat.le_of_ble_eq_true rfl) ?_
  intro p e s m below meth c hx hb hr hml hts hown hlocks hK A hA hP hD hS ls hl
  replace hl : lv_has ls 5 [(0, .ref h0), (1, .int a1)] := hl
  unfold fX4_turn at h
  refine lv_iload_n hx hb dX4_turn_0 rfl (lv_at hl 1 rfl) ?_
  refine lv_bipush (v := 8) hx hb dX4_turn_1 (by decide) ?_
  refine lv_idiv hx hb dX4_turn_3 (by decide) ?_
  refine lv_sipush (v := 256) hx hb dX4_turn_4 (by decide) ?_
  refine lv_irem hx hb dX4_turn_7 (by decide) ?_
  refine lv_istore_n (lv' := [(2, .int (irem (a1 / 8) 256)), (0, .ref h0), (1, .int a1)]) hx hb dX4_turn_8 rfl hl (by decide) rfl (fun ls hl => ?_)
  refine lv_iconst (v := 1) hx hb dX4_turn_9 (by decide) ?_
  refine lv_iload_n hx hb dX4_turn_10 rfl (lv_at hl 2 rfl) ?_
  refine lv_sipush (v := 2048) hx hb dX4_turn_11 (by decide) ?_
  refine lv_idiv hx hb dX4_turn_14 (by decide) ?_
  refine lv_bipush (v := 40) hx hb dX4_turn_15 (by decide) ?_
  refine lv_irem hx hb dX4_turn_17 (by decide) ?_
  refine lv_iadd hx hb dX4_turn_18 ?_
  refine lv_istore_n (lv' := [(3, .int (1 + (irem (a1 / 2048) 40))), (2, .int (irem (a1 / 8) 256)), (0, .ref h0), (1, .int a1)]) hx hb dX4_turn_19 rfl hl (by decide) rfl (fun ls hl => ?_)
  refine lv_iload_n hx hb dX4_turn_20 rfl (lv_at hl 3 rfl) ?_
  refine lv_bipush (v := 8) hx hb dX4_turn_21 (by decide) ?_
  refine lv_irem hx hb dX4_turn_23 (by decide) ?_
  refine lv_istore (lv' := [(4, .int (irem a1 8)), (3, .int (1 + (irem (a1 / 2048) 40))), (2, .int (irem (a1 / 8) 256)), (0, .ref h0), (1, .int a1)]) hx hb dX4_turn_24 hl (by decide) rfl (fun ls hl => ?_)
  refine lv_iload hx hb dX4_turn_26 (lv_at hl 0 rfl) ?_
  refine lv_iconst (v := 2) hx hb dX4_turn_28 (by decide) ?_
  refine lv_icmp_ge (tgt := 53) hx hb dX4_turn_29 (by decide) (fun c1 => ?_) (fun c1 => ?_)
  · replace h := zt c1 h
    refine lv_iload hx hb dX4_turn_53 (lv_at hl 0 rfl) ?_
    refine lv_iconst (v := 5) hx hb dX4_turn_55 (by decide) ?_
    refine lv_icmp_ge (tgt := 80) hx hb dX4_turn_56 (by decide) (fun c2 => ?_) (fun c2 => ?_)
    · replace h := zt c2 h
      refine lv_iload hx hb dX4_turn_80 (lv_at hl 0 rfl) ?_
      refine lv_iconst (v := 5) hx hb dX4_turn_82 (by decide) ?_
      refine lv_icmp_ne (tgt := 145) hx hb dX4_turn_83 (by decide) (fun c3 => ?_) (fun c3 => ?_)
      · replace h := zf c3 h
        refine lv_aload_n hx hb dX4_turn_145 rfl (lv_at hl 3 rfl) ?_
        refine lv_aload_n hx hb dX4_turn_146 rfl (lv_at hl 3 rfl) ?_
        refine va_get (ci := 4) (v := .ref h3) (C := RX4) (T := TX4) (N := 13) hx hb hts uX4_turn_X4 hown hK hP 0 rfl rfl 4 (by decide) (hts _ mX4_turn_16) (fun _ h9 => h9) rfl dX4_turn_147 ?_
        refine lv_iconst (v := 1) hx hb dX4_turn_150 (by decide) ?_
        refine lv_iload_n hx hb dX4_turn_151 rfl (lv_at hl 4 rfl) ?_
        refine lv_bipush (v := 8) hx hb dX4_turn_152 (by decide) ?_
        refine lv_idiv hx hb dX4_turn_154 (by decide) ?_
        refine lv_bipush (v := 8) hx hb dX4_turn_155 (by decide) ?_
        refine lv_irem hx hb dX4_turn_157 (by decide) ?_
        refine lv_iadd hx hb dX4_turn_158 ?_
        obtain ⟨r4, sF4, sB4, tr4, e4, h⟩ := zb4 h
        refine zVw (As := [.ref h3, .int (1 + (irem (a1 / 8) 8))]) (rest := []) (zWi_q g _ _) ⟨hx, hb, hml, hown, hts⟩ (kX4_runOn l g h0 h1 h3 (.ref h2) (.ref h3) (.ref h4) (.ref h5) (.ref h6) rf sz ac sF sB sp ou tx tr (1 + (irem (a1 / 8) 8)) e4) (cwV 2 hts gX4_turn_X4_runOn rfl rfl rfl hdV_X4_runOn ⟨Nat.le_of_ble_eq_true rfl, Nat.le_of_ble_eq_true rfl⟩) hK hP hD hS hA [0, 1, 3] (by decide) rfl rfl 0 rfl rfl rfl hl.1 rfl (Nat.le_of_ble_eq_true rfl) ⟨Nat.zero_le _, Nat.zero_le _⟩ dX4_turn_159 (fun H locs hP hD hS => ?_)
        replace hP : zP g (zMA g h0 h1 h2 h3 h4 h5 h6 rf sz ac sF4 sB4 sp ou tx nw tr4 di ke ik) H := hP
        replace hD : va_D A (zMA g h0 h1 h2 h3 h4 h5 h6 rf sz ac sF4 sB4 sp ou tx nw tr4 di ke ik) := hD
        refine lv_pop hx hb dX4_turn_162 rfl ?_
        cases h
        exact zw_v hx hb hr hlocks hP hS dX4_turn_163
      · replace h := zt c3 h
        refine lv_iload_n hx hb dX4_turn_86 rfl (lv_at hl 4 rfl) ?_
        refine lv_bipush (v := 32) hx hb dX4_turn_87 (by decide) ?_
        refine lv_idiv hx hb dX4_turn_89 (by decide) ?_
        refine lv_sipush (v := 256) hx hb dX4_turn_90 (by decide) ?_
        refine lv_irem hx hb dX4_turn_93 (by decide) ?_
        refine lv_iconst (v := 1) hx hb dX4_turn_94 (by decide) ?_
        refine lv_iload_n hx hb dX4_turn_95 rfl (lv_at hl 4 rfl) ?_
        refine lv_sipush (v := 8192) hx hb dX4_turn_96 (by decide) ?_
        refine lv_idiv hx hb dX4_turn_99 (by decide) ?_
        refine lv_bipush (v := 9) hx hb dX4_turn_100 (by decide) ?_
        refine lv_irem hx hb dX4_turn_102 (by decide) ?_
        refine lv_iadd hx hb dX4_turn_103 ?_
        obtain ⟨r5, e5, h⟩ := zb h
        refine zS (As := [.int (irem (a1 / 32) 256), .int (1 + (irem (a1 / 8192) 9))]) (rest := []) (zQi_q _) ⟨hx, hb, hml, hown, hts⟩ (kX4_whyNotSpan l g (irem (a1 / 32) 256) (1 + (irem (a1 / 8192) 9)) e5) (va_cwS 2 hts gX4_turn_X4_whyNotSpan rfl rfl rfl hdS_X4_whyNotSpan ⟨Nat.le_of_ble_eq_true rfl, Nat.le_of_ble_eq_true rfl⟩) hK hP [] rfl rfl hl.1 rfl (Nat.le_of_ble_eq_true rfl) ⟨Nat.zero_le _, Nat.zero_le _⟩ dX4_turn_104 ?_
        refine lv_if_ne (tgt := 163) hx hb dX4_turn_107 (by decide) (fun c6 => ?_) (fun c6 => ?_)
        · replace h := zf c6 h
          cases h
          exact zw_v hx hb hr hlocks hP hS dX4_turn_163
        · replace h := zt c6 h
          refine lv_aload_n hx hb dX4_turn_110 rfl (lv_at hl 3 rfl) ?_
          refine va_get (ci := 4) (v := .ref h3) (C := RX4) (T := TX4) (N := 13) hx hb hts uX4_turn_X4 hown hK hP 0 rfl rfl 4 (by decide) (hts _ mX4_turn_16) (fun _ h9 => h9) rfl dX4_turn_111 ?_
          refine lv_iload_n hx hb dX4_turn_114 rfl (lv_at hl 4 rfl) ?_
          refine lv_bipush (v := 8) hx hb dX4_turn_115 (by decide) ?_
          refine lv_idiv hx hb dX4_turn_117 (by decide) ?_
          refine lv_iconst (v := 3) hx hb dX4_turn_118 (by decide) ?_
          refine lv_irem hx hb dX4_turn_119 (by decide) ?_
          refine lv_iload_n hx hb dX4_turn_120 rfl (lv_at hl 4 rfl) ?_
          refine lv_bipush (v := 32) hx hb dX4_turn_121 (by decide) ?_
          refine lv_idiv hx hb dX4_turn_123 (by decide) ?_
          refine lv_sipush (v := 256) hx hb dX4_turn_124 (by decide) ?_
          refine lv_irem hx hb dX4_turn_127 (by decide) ?_
          refine lv_iconst (v := 1) hx hb dX4_turn_128 (by decide) ?_
          refine lv_iload_n hx hb dX4_turn_129 rfl (lv_at hl 4 rfl) ?_
          refine lv_sipush (v := 8192) hx hb dX4_turn_130 (by decide) ?_
          refine lv_idiv hx hb dX4_turn_133 (by decide) ?_
          refine lv_bipush (v := 9) hx hb dX4_turn_134 (by decide) ?_
          refine lv_irem hx hb dX4_turn_136 (by decide) ?_
          refine lv_iadd hx hb dX4_turn_137 ?_
          obtain ⟨r7, tr7, e7, h⟩ := zb2 h
          refine zSw (As := [.ref h3, .int (irem (a1 / 8) 3), .int (irem (a1 / 32) 256), .int (1 + (irem (a1 / 8192) 9))]) (rest := []) (zWi_q g _ _) ⟨hx, hb, hml, hown, hts⟩ (kX4_pinOn l g h3 tr (irem (a1 / 8) 3) (irem (a1 / 32) 256) (1 + (irem (a1 / 8192) 9)) e7) (va_cwS 4 hts gX4_turn_X4_pinOn rfl rfl rfl hdS_X4_pinOn ⟨Nat.le_of_ble_eq_true rfl, Nat.le_of_ble_eq_true rfl⟩) hK hP hD hS hA [3] (by decide) rfl rfl rfl hl.1 rfl (Nat.le_of_ble_eq_true rfl) ⟨Nat.zero_le _, Nat.zero_le _⟩ dX4_turn_138 (fun H locs hP hD hS => ?_)
          replace hP : zP g (zMA g h0 h1 h2 h3 h4 h5 h6 rf sz ac sF sB sp ou tx nw tr7 di ke ik) H := hP
          replace hD : va_D A (zMA g h0 h1 h2 h3 h4 h5 h6 rf sz ac sF sB sp ou tx nw tr7 di ke ik) := hD
          refine lv_pop hx hb dX4_turn_141 rfl ?_
          refine lv_goto (tgt := 163) hx hb dX4_turn_142 (by decide) ?_
          cases h
          exact zw_v hx hb hr hlocks hP hS dX4_turn_163
    · replace h := zf c2 h
      refine lv_iload_n hx hb dX4_turn_59 rfl (lv_at hl 2 rfl) ?_
      refine lv_iload_n hx hb dX4_turn_60 rfl (lv_at hl 1 rfl) ?_
      obtain ⟨r8, e8, h⟩ := zb h
      refine zS (As := [.int (irem (a1 / 8) 256), .int (1 + (irem (a1 / 2048) 40))]) (rest := []) (zQi_q _) ⟨hx, hb, hml, hown, hts⟩ (kX4_whyNotSpan l g (irem (a1 / 8) 256) (1 + (irem (a1 / 2048) 40)) e8) (va_cwS 2 hts gX4_turn_X4_whyNotSpan rfl rfl rfl hdS_X4_whyNotSpan ⟨Nat.le_of_ble_eq_true rfl, Nat.le_of_ble_eq_true rfl⟩) hK hP [] rfl rfl hl.1 rfl (Nat.le_of_ble_eq_true rfl) ⟨Nat.zero_le _, Nat.zero_le _⟩ dX4_turn_61 ?_
      refine lv_if_ne (tgt := 163) hx hb dX4_turn_64 (by decide) (fun c9 => ?_) (fun c9 => ?_)
      · replace h := zf c9 h
        cases h
        exact zw_v hx hb hr hlocks hP hS dX4_turn_163
      · replace h := zt c9 h
        refine lv_aload_n hx hb dX4_turn_67 rfl (lv_at hl 3 rfl) ?_
        refine va_get (ci := 4) (v := .ref h3) (C := RX4) (T := TX4) (N := 13) hx hb hts uX4_turn_X4 hown hK hP 0 rfl rfl 4 (by decide) (hts _ mX4_turn_16) (fun _ h9 => h9) rfl dX4_turn_68 ?_
        refine lv_iload_n hx hb dX4_turn_71 rfl (lv_at hl 2 rfl) ?_
        refine lv_iload_n hx hb dX4_turn_72 rfl (lv_at hl 1 rfl) ?_
        obtain ⟨r10, tr10, e10, h⟩ := zb2 h
        refine zSw (As := [.ref h3, .int (irem (a1 / 8) 256), .int (1 + (irem (a1 / 2048) 40))]) (rest := []) (zWi_q g _ _) ⟨hx, hb, hml, hown, hts⟩ (kX4_freeOn l g h3 tr (irem (a1 / 8) 256) (1 + (irem (a1 / 2048) 40)) e10) (va_cwS 3 hts gX4_turn_X4_freeOn rfl rfl rfl hdS_X4_freeOn ⟨Nat.le_of_ble_eq_true rfl, Nat.le_of_ble_eq_true rfl⟩) hK hP hD hS hA [3] (by decide) rfl rfl rfl hl.1 rfl (Nat.le_of_ble_eq_true rfl) ⟨Nat.zero_le _, Nat.zero_le _⟩ dX4_turn_73 (fun H locs hP hD hS => ?_)
        replace hP : zP g (zMA g h0 h1 h2 h3 h4 h5 h6 rf sz ac sF sB sp ou tx nw tr10 di ke ik) H := hP
        replace hD : va_D A (zMA g h0 h1 h2 h3 h4 h5 h6 rf sz ac sF sB sp ou tx nw tr10 di ke ik) := hD
        refine lv_pop hx hb dX4_turn_76 rfl ?_
        refine lv_goto (tgt := 163) hx hb dX4_turn_77 (by decide) ?_
        cases h
        exact zw_v hx hb hr hlocks hP hS dX4_turn_163
  · replace h := zf c1 h
    refine lv_iload_n hx hb dX4_turn_32 rfl (lv_at hl 2 rfl) ?_
    refine lv_iload_n hx hb dX4_turn_33 rfl (lv_at hl 1 rfl) ?_
    obtain ⟨r11, e11, h⟩ := zb h
    refine zS (As := [.int (irem (a1 / 8) 256), .int (1 + (irem (a1 / 2048) 40))]) (rest := []) (zQi_q _) ⟨hx, hb, hml, hown, hts⟩ (kX4_whyNotSpan l g (irem (a1 / 8) 256) (1 + (irem (a1 / 2048) 40)) e11) (va_cwS 2 hts gX4_turn_X4_whyNotSpan rfl rfl rfl hdS_X4_whyNotSpan ⟨Nat.le_of_ble_eq_true rfl, Nat.le_of_ble_eq_true rfl⟩) hK hP [] rfl rfl hl.1 rfl (Nat.le_of_ble_eq_true rfl) ⟨Nat.zero_le _, Nat.zero_le _⟩ dX4_turn_34 ?_
    refine lv_if_ne (tgt := 163) hx hb dX4_turn_37 (by decide) (fun c12 => ?_) (fun c12 => ?_)
    · replace h := zf c12 h
      cases h
      exact zw_v hx hb hr hlocks hP hS dX4_turn_163
    · replace h := zt c12 h
      refine lv_aload_n hx hb dX4_turn_40 rfl (lv_at hl 3 rfl) ?_
      refine va_get (ci := 4) (v := .ref h3) (C := RX4) (T := TX4) (N := 13) hx hb hts uX4_turn_X4 hown hK hP 0 rfl rfl 4 (by decide) (hts _ mX4_turn_16) (fun _ h9 => h9) rfl dX4_turn_41 ?_
      refine lv_iload_n hx hb dX4_turn_44 rfl (lv_at hl 2 rfl) ?_
      refine lv_iload_n hx hb dX4_turn_45 rfl (lv_at hl 1 rfl) ?_
      obtain ⟨r13, tr13, e13, h⟩ := zb2 h
      refine zSw (As := [.ref h3, .int (irem (a1 / 8) 256), .int (1 + (irem (a1 / 2048) 40))]) (rest := []) (zWi_q g _ _) ⟨hx, hb, hml, hown, hts⟩ (kX4_writeOn l g h3 tr (irem (a1 / 8) 256) (1 + (irem (a1 / 2048) 40)) e13) (va_cwS 3 hts gX4_turn_X4_writeOn rfl rfl rfl hdS_X4_writeOn ⟨Nat.le_of_ble_eq_true rfl, Nat.le_of_ble_eq_true rfl⟩) hK hP hD hS hA [3] (by decide) rfl rfl rfl hl.1 rfl (Nat.le_of_ble_eq_true rfl) ⟨Nat.zero_le _, Nat.zero_le _⟩ dX4_turn_46 (fun H locs hP hD hS => ?_)
      replace hP : zP g (zMA g h0 h1 h2 h3 h4 h5 h6 rf sz ac sF sB sp ou tx nw tr13 di ke ik) H := hP
      replace hD : va_D A (zMA g h0 h1 h2 h3 h4 h5 h6 rf sz ac sF sB sp ou tx nw tr13 di ke ik) := hD
      refine lv_pop hx hb dX4_turn_49 rfl ?_
      refine lv_goto (tgt := 163) hx hb dX4_turn_50 (by decide) ?_
      cases h
      exact zw_v hx hb hr hlocks hP hS dX4_turn_163
theorem hdV_X4_turn : yX4_turn.cls = RX4 ∧ yX4_turn.cls ≠ "java/lang/invoke/MethodHandle" ∧ yX4_turn.cls ≠ "java/lang/invoke/VarHandle" ∧ (parseMethodDescriptor yX4_turn.desc).map (fun d => d.parameters.length) = some 1 := by decide +kernel
def fX4_simulate_45 (nw : Nat → Int32) : Nat → Int32 → Int64 → Int32 → (Int32) → (Int32) → (Int32) → (Nat → Int32) → Option (Int32 × (Int32) × (Int32) × (Int32) × (Nat → Int32))
  | 0, _, _, _, _, _, _, _ => none
  | n + 1, v3, v4, v6, rf, sF, sB, tr =>
    if v3 ≤ v6 then
        ob (fX4_queuedBlocks tr) fun r2 =>
        some (((1000 * ((tr 771) - (nw 771))) + r2), rf, sF, sB, tr)
      else
        ob3 (fX4_turn sF sB tr (((((v4 * (6364136223846793005)) + (1442695040888963407)).toUInt64 >>> ((33 : Int32).toInt64.toUInt64 &&& Int64.toUInt64 63)).toInt64).toInt32)) fun sF3 sB3 tr3 =>
        fX4_simulate_45 nw n v3 ((v4 * (6364136223846793005)) + (1442695040888963407)) (v6 + 1) rf sF3 sB3 tr3
def fX4_simulate (sF : Int32) (sB : Int32) (nw : Nat → Int32) (tr : Nat → Int32) (a1 : Int64) (a3 : Int32) : Option (Int32 × (Int32) × (Int32) × (Int32) × (Nat → Int32)) :=
  ob (fX4_in a3.toInt64 1 (60)) fun r4 =>
  if r4 = 0 then
    ob2 (fX4_refused 1) fun r6 rf6 =>
    if r6 = 0 then
      ob (fX4_copyState 785 785 nw tr 0 0) fun tr8 =>
      fX4_simulate_45 nw 1000 a3 a1 0 rf6 sF sB tr8
    else
      some (0, rf6, sF, sB, tr)
  else
    ob2 (fX4_refused 0) fun r9 rf9 =>
    if r9 = 0 then
      ob (fX4_copyState 785 785 nw tr 0 0) fun tr11 =>
      fX4_simulate_45 nw 1000 a3 a1 0 rf9 sF sB tr11
    else
      some (0, rf9, sF, sB, tr)
theorem mX4_simulate_16 : Cond.fieldLink RX4 16 "IdleDiscardsModel" "trial" "[I" ∈ wsX4_simulate := by decide +kernel
theorem uX4_simulate_X4 : ∀ w ∈ wsX40, w ∈ wsX4_simulate := by decide +kernel
theorem mX4_simulate_13 : Cond.fieldLink RX4 13 "IdleDiscardsModel" "now" "[I" ∈ wsX4_simulate := by decide +kernel
theorem mX4_simulate_209 : Cond.constantLong RX4 209 (6364136223846793005) ∈ wsX4_simulate := by decide +kernel
theorem mX4_simulate_211 : Cond.constantLong RX4 211 (1442695040888963407) ∈ wsX4_simulate := by decide +kernel
theorem mX4_simulate_196 : Cond.constantLong RX4 196 (60) ∈ wsX4_simulate := by decide +kernel
set_option maxRecDepth 100000 in
set_option maxHeartbeats 4000000 in
theorem kX4_simulate (l : Launch) (g : zG) (h0 h1 h2 h3 h4 h5 h6 : Nat) (rf : Int32) (sz : Int32) (ac : Int32) (sF : Int32) (sB : Int32) (sp : Int32) (ou : Int32) (tx : Nat → Int32) (nw : Nat → Int32) (tr : Nat → Int32) (di : Nat → Int32) (ke : Nat → Int32) (ik : Nat → Int32) (a1 : Int64) (a3 : Int32) {r : Int32} {rf' : Int32} {sF' : Int32} {sB' : Int32} {tr' : Nat → Int32} (h : fX4_simulate sF sB nw tr a1 a3 = some (r, rf', sF', sB', tr')) : Mw l g yX4_simulate wsX4_simulate { frames := 10, cells := 0, slots := 0, locals := 230 } [.ref h0, .long a1, .int a3] (zMA g h0 h1 h2 h3 h4 h5 h6 rf sz ac sF sB sp ou tx nw tr di ke ik) (zWi g (zMA g h0 h1 h2 h3 h4 h5 h6 rf' sz ac sF' sB' sp ou tx nw tr' di ke ik) r) := by
  refine zw_in (cc := cX4_simulate) (maxL := 7) (ret := (some .int)) (by decide) rfl (Nat.le_of_ble_eq_true rfl) ?_
  intro p e s m below meth c hx hb hr hml hts hown hlocks hK A hA hP hD hS ls hl
  replace hl : lv_has ls 7 [(0, .ref h0), (1, .long a1), (3, .int a3)] := hl
  have loop_45 : ∀ (n : Nat) (v3 : Int32) (v4 : Int64) (v6 : Int32) (rf : (Int32)) (sF : (Int32)) (sB : (Int32)) (tr : (Nat → Int32)), fX4_simulate_45 nw n v3 v4 v6 rf sF sB tr = some (r, rf', sF', sB', tr') → ∀ (H : Heap) (locs : List Loc), zP g (zMA g h0 h1 h2 h3 h4 h5 h6 rf sz ac sF sB sp ou tx nw tr di ke ik) H → va_D A (zMA g h0 h1 h2 h3 h4 h5 h6 rf sz ac sF sB sp ou tx nw tr di ke ik) → va_S A s.heap H locs → ∀ (ls : Array Slot), lv_has ls 7 [(0, .ref h0), (3, .int v3), (4, .long v4), (6, .int v6)] → W p l e ({ frames := 10, cells := 0, slots := 0, locals := 230 } : Room) s m [.ref h0, .long a1, .int a3].toArray below meth c H locs 0 0 (MQ below (zWi g (zMA g h0 h1 h2 h3 h4 h5 h6 rf' sz ac sF' sB' sp ou tx nw tr' di ke ik) r A) [.ref h0, .long a1, .int a3].toArray s 0 0 A) (F0 m 45 ls []) := by
    intro n
    induction n with
    | zero => intro v3 v4 v6 rf sF sB tr h H locs hP hD hS ls hl; exact zn h
    | succ n ih =>
      intro v3 v4 v6 rf sF sB tr h H locs hP hD hS ls hl
      rw [fX4_simulate_45] at h
      refine lv_iload hx hb dX4_simulate_45 (lv_at hl 3 rfl) ?_
      refine lv_iload_n hx hb dX4_simulate_47 rfl (lv_at hl 1 rfl) ?_
      refine lv_icmp_ge (tgt := 79) hx hb dX4_simulate_48 (by decide) (fun c1 => ?_) (fun c1 => ?_)
      · replace h := zt c1 h
        refine lv_sipush (v := 1000) hx hb dX4_simulate_79 (by decide) ?_
        refine lv_aload_n hx hb dX4_simulate_82 rfl (lv_at hl 0 rfl) ?_
        refine va_get (ci := 4) (v := .ref h3) (C := RX4) (T := TX4) (N := 13) hx hb hts uX4_simulate_X4 hown hK hP 0 rfl rfl 4 (by decide) (hts _ mX4_simulate_16) (fun _ h9 => h9) rfl dX4_simulate_83 ?_
        refine lv_sipush (v := 771) hx hb dX4_simulate_86 (by decide) ?_
        refine za_ild hx hb hK hP 3 rfl 771 (by decide) (by decide) dX4_simulate_89 ?_
        refine lv_aload_n hx hb dX4_simulate_90 rfl (lv_at hl 0 rfl) ?_
        refine va_get (ci := 4) (v := .ref h2) (C := RX4) (T := TX4) (N := 13) hx hb hts uX4_simulate_X4 hown hK hP 0 rfl rfl 3 (by decide) (hts _ mX4_simulate_13) (fun _ h9 => h9) rfl dX4_simulate_91 ?_
        refine lv_sipush (v := 771) hx hb dX4_simulate_94 (by decide) ?_
        refine za_ild hx hb hK hP 2 rfl 771 (by decide) (by decide) dX4_simulate_97 ?_
        refine lv_isub hx hb dX4_simulate_98 ?_
        refine lv_imul hx hb dX4_simulate_99 ?_
        refine lv_aload_n hx hb dX4_simulate_100 rfl (lv_at hl 0 rfl) ?_
        refine va_get (ci := 4) (v := .ref h3) (C := RX4) (T := TX4) (N := 13) hx hb hts uX4_simulate_X4 hown hK hP 0 rfl rfl 4 (by decide) (hts _ mX4_simulate_16) (fun _ h9 => h9) rfl dX4_simulate_101 ?_
        obtain ⟨r2, e2, h⟩ := zb h
        refine zS (As := [.ref h3]) (rest := [.int (1000 * ((tr 771) - (nw 771)))]) (zQi_q _) ⟨hx, hb, hml, hown, hts⟩ (kX4_queuedBlocks l g h3 tr e2) (va_cwS 1 hts gX4_simulate_X4_queuedBlocks rfl rfl rfl hdS_X4_queuedBlocks ⟨Nat.le_of_ble_eq_true rfl, Nat.le_of_ble_eq_true rfl⟩) hK hP [3] rfl rfl hl.1 rfl (Nat.le_of_ble_eq_true rfl) ⟨Nat.zero_le _, Nat.zero_le _⟩ dX4_simulate_104 ?_
        refine lv_iadd hx hb dX4_simulate_107 ?_
        cases h
        exact zw_i hx hb hr hlocks hP hS dX4_simulate_108
      · replace h := zf c1 h
        refine lv_lload hx hb dX4_simulate_51 (lv_at hl 2 rfl) ?_
        refine lv_ldc2 hx hb hown (hts _ mX4_simulate_209) dX4_simulate_53 ?_
        refine lv_lmul hx hb dX4_simulate_56 ?_
        refine lv_ldc2 hx hb hown (hts _ mX4_simulate_211) dX4_simulate_57 ?_
        refine lv_ladd hx hb dX4_simulate_60 ?_
        refine lv_lstore (lv' := [(4, .long ((v4 * (6364136223846793005)) + (1442695040888963407))), (0, .ref h0), (3, .int v3), (6, .int v6)]) hx hb dX4_simulate_61 hl (by decide) rfl (fun ls hl => ?_)
        refine lv_aload_n hx hb dX4_simulate_63 rfl (lv_at hl 1 rfl) ?_
        refine lv_lload hx hb dX4_simulate_64 (lv_at hl 0 rfl) ?_
        refine lv_bipush (v := 33) hx hb dX4_simulate_66 (by decide) ?_
        refine lv_lushr (v := (((v4 * (6364136223846793005)) + (1442695040888963407)).toUInt64 >>> ((33 : Int32).toInt64.toUInt64 &&& Int64.toUInt64 63)).toInt64) hx hb dX4_simulate_68 rfl ?_
        refine lv_l2i (v := ((((v4 * (6364136223846793005)) + (1442695040888963407)).toUInt64 >>> ((33 : Int32).toInt64.toUInt64 &&& Int64.toUInt64 63)).toInt64).toInt32) hx hb dX4_simulate_69 rfl ?_
        obtain ⟨sF3, sB3, tr3, e3, h⟩ := zb3 h
        refine zVw (As := [.int (((((v4 * (6364136223846793005)) + (1442695040888963407)).toUInt64 >>> ((33 : Int32).toInt64.toUInt64 &&& Int64.toUInt64 63)).toInt64).toInt32)]) (rest := []) (zWv_q g _) ⟨hx, hb, hml, hown, hts⟩ (kX4_turn l g h0 h1 h2 h3 h4 h5 h6 rf sz ac sF sB sp ou tx nw tr di ke ik (((((v4 * (6364136223846793005)) + (1442695040888963407)).toUInt64 >>> ((33 : Int32).toInt64.toUInt64 &&& Int64.toUInt64 63)).toInt64).toInt32) e3) (cwV 1 hts gX4_simulate_X4_turn rfl rfl rfl hdV_X4_turn ⟨Nat.le_of_ble_eq_true rfl, Nat.le_of_ble_eq_true rfl⟩) hK hP hD hS hA [0, 1, 2, 3, 4, 5, 6] (by decide) rfl rfl 0 rfl rfl rfl hl.1 rfl (Nat.le_of_ble_eq_true rfl) ⟨Nat.zero_le _, Nat.zero_le _⟩ dX4_simulate_70 (fun H locs hP hD hS => ?_)
        replace hP : zP g (zMA g h0 h1 h2 h3 h4 h5 h6 rf sz ac sF3 sB3 sp ou tx nw tr3 di ke ik) H := hP
        replace hD : va_D A (zMA g h0 h1 h2 h3 h4 h5 h6 rf sz ac sF3 sB3 sp ou tx nw tr3 di ke ik) := hD
        refine lv_iinc (v := (v6 + 1)) (lv' := [(6, .int (v6 + 1)), (4, .long ((v4 * (6364136223846793005)) + (1442695040888963407))), (0, .ref h0), (3, .int v3)]) hx hb dX4_simulate_73 hl (k := 3) rfl rfl (by decide) rfl (fun ls hl => ?_)
        refine lv_goto (tgt := 45) hx hb dX4_simulate_76 (by decide) ?_
        exact ih v3 ((v4 * (6364136223846793005)) + (1442695040888963407)) (v6 + 1) rf sF3 sB3 tr3 h H locs hP hD hS ls (lv_sub hl [2, 3, 1, 0] rfl)
  unfold fX4_simulate at h
  refine lv_aload_n hx hb dX4_simulate_0 rfl (lv_at hl 0 rfl) ?_
  refine lv_iload_n hx hb dX4_simulate_1 rfl (lv_at hl 2 rfl) ?_
  refine lv_i2l (v := a3.toInt64) hx hb dX4_simulate_2 rfl ?_
  refine lv_lconst (v := 1) hx hb dX4_simulate_3 (by decide) ?_
  refine lv_ldc2 hx hb hown (hts _ mX4_simulate_196) dX4_simulate_4 ?_
  obtain ⟨r4, e4, h⟩ := zb h
  refine zS (As := [.long a3.toInt64, .long 1, .long (60)]) (rest := [.ref h0]) (zQi_q _) ⟨hx, hb, hml, hown, hts⟩ (kX4_in l g a3.toInt64 1 (60) e4) (va_cwS 3 hts gX4_simulate_X4_in rfl rfl rfl hdS_X4_in ⟨Nat.le_of_ble_eq_true rfl, Nat.le_of_ble_eq_true rfl⟩) hK hP [] rfl rfl hl.1 rfl (Nat.le_of_ble_eq_true rfl) ⟨Nat.zero_le _, Nat.zero_le _⟩ dX4_simulate_7 ?_
  refine lv_if_eq (tgt := 17) hx hb dX4_simulate_10 (by decide) (fun c5 => ?_) (fun c5 => ?_)
  · replace h := zt c5 h
    refine lv_iconst (v := 1) hx hb dX4_simulate_17 (by decide) ?_
    obtain ⟨r6, rf6, e6, h⟩ := zb2 h
    refine zVw (As := [.int 1]) (rest := []) (zWi_q g _ _) ⟨hx, hb, hml, hown, hts⟩ (kX4_refused l g h0 h1 (.ref h2) (.ref h3) (.ref h4) (.ref h5) (.ref h6) rf sz ac sF sB sp ou tx 1 e6) (cwV 1 hts gX4_simulate_X4_refused rfl rfl rfl hdV_X4_refused ⟨Nat.le_of_ble_eq_true rfl, Nat.le_of_ble_eq_true rfl⟩) hK hP hD hS hA [0, 1] (by decide) rfl rfl 0 rfl rfl rfl hl.1 rfl (Nat.le_of_ble_eq_true rfl) ⟨Nat.zero_le _, Nat.zero_le _⟩ dX4_simulate_18 (fun H locs hP hD hS => ?_)
    replace hP : zP g (zMA g h0 h1 h2 h3 h4 h5 h6 rf6 sz ac sF sB sp ou tx nw tr di ke ik) H := hP
    replace hD : va_D A (zMA g h0 h1 h2 h3 h4 h5 h6 rf6 sz ac sF sB sp ou tx nw tr di ke ik) := hD
    refine lv_if_eq (tgt := 26) hx hb dX4_simulate_21 (by decide) (fun c7 => ?_) (fun c7 => ?_)
    · replace h := zt c7 h
      refine lv_aload_n hx hb dX4_simulate_26 rfl (lv_at hl 0 rfl) ?_
      refine va_get (ci := 4) (v := .ref h2) (C := RX4) (T := TX4) (N := 13) hx hb hts uX4_simulate_X4 hown hK hP 0 rfl rfl 3 (by decide) (hts _ mX4_simulate_13) (fun _ h9 => h9) rfl dX4_simulate_27 ?_
      refine lv_iconst (v := 0) hx hb dX4_simulate_30 (by decide) ?_
      refine lv_aload_n hx hb dX4_simulate_31 rfl (lv_at hl 0 rfl) ?_
      refine va_get (ci := 4) (v := .ref h3) (C := RX4) (T := TX4) (N := 13) hx hb hts uX4_simulate_X4 hown hK hP 0 rfl rfl 4 (by decide) (hts _ mX4_simulate_16) (fun _ h9 => h9) rfl dX4_simulate_32 ?_
      refine lv_iconst (v := 0) hx hb dX4_simulate_35 (by decide) ?_
      obtain ⟨tr8, e8, h⟩ := zb h
      refine zSw (As := [.ref h2, .int 0, .ref h3, .int 0]) (rest := []) (zWv_q g _) ⟨hx, hb, hml, hown, hts⟩ (kX4_copyState l g 785 785 h2 h3 nw tr 0 0 e8) (va_cwS 4 hts gX4_simulate_X4_copyState rfl rfl rfl hdS_X4_copyState ⟨Nat.le_of_ble_eq_true rfl, Nat.le_of_ble_eq_true rfl⟩) hK hP hD hS hA [2, 3] (by decide) rfl rfl rfl hl.1 rfl (Nat.le_of_ble_eq_true rfl) ⟨Nat.zero_le _, Nat.zero_le _⟩ dX4_simulate_36 (fun H locs hP hD hS => ?_)
      replace hP : zP g (zMA g h0 h1 h2 h3 h4 h5 h6 rf6 sz ac sF sB sp ou tx nw tr8 di ke ik) H := hP
      replace hD : va_D A (zMA g h0 h1 h2 h3 h4 h5 h6 rf6 sz ac sF sB sp ou tx nw tr8 di ke ik) := hD
      refine lv_lload_n hx hb dX4_simulate_39 rfl (lv_at hl 1 rfl) ?_
      refine lv_lstore (lv' := [(4, .long a1), (0, .ref h0), (1, .long a1), (3, .int a3)]) hx hb dX4_simulate_40 hl (by decide) rfl (fun ls hl => ?_)
      refine lv_iconst (v := 0) hx hb dX4_simulate_42 (by decide) ?_
      refine lv_istore (lv' := [(6, .int 0), (4, .long a1), (0, .ref h0), (1, .long a1), (3, .int a3)]) hx hb dX4_simulate_43 hl (by decide) rfl (fun ls hl => ?_)
      exact loop_45 1000 a3 a1 0 rf6 sF sB tr8 h H locs hP hD hS ls (lv_sub hl [2, 4, 1, 0] rfl)
    · replace h := zf c7 h
      refine lv_iconst (v := 0) hx hb dX4_simulate_24 (by decide) ?_
      cases h
      exact zw_i hx hb hr hlocks hP hS dX4_simulate_25
  · replace h := zf c5 h
    refine lv_iconst (v := 0) hx hb dX4_simulate_13 (by decide) ?_
    refine lv_goto (tgt := 18) hx hb dX4_simulate_14 (by decide) ?_
    obtain ⟨r9, rf9, e9, h⟩ := zb2 h
    refine zVw (As := [.int 0]) (rest := []) (zWi_q g _ _) ⟨hx, hb, hml, hown, hts⟩ (kX4_refused l g h0 h1 (.ref h2) (.ref h3) (.ref h4) (.ref h5) (.ref h6) rf sz ac sF sB sp ou tx 0 e9) (cwV 1 hts gX4_simulate_X4_refused rfl rfl rfl hdV_X4_refused ⟨Nat.le_of_ble_eq_true rfl, Nat.le_of_ble_eq_true rfl⟩) hK hP hD hS hA [0, 1] (by decide) rfl rfl 0 rfl rfl rfl hl.1 rfl (Nat.le_of_ble_eq_true rfl) ⟨Nat.zero_le _, Nat.zero_le _⟩ dX4_simulate_18 (fun H locs hP hD hS => ?_)
    replace hP : zP g (zMA g h0 h1 h2 h3 h4 h5 h6 rf9 sz ac sF sB sp ou tx nw tr di ke ik) H := hP
    replace hD : va_D A (zMA g h0 h1 h2 h3 h4 h5 h6 rf9 sz ac sF sB sp ou tx nw tr di ke ik) := hD
    refine lv_if_eq (tgt := 26) hx hb dX4_simulate_21 (by decide) (fun c10 => ?_) (fun c10 => ?_)
    · replace h := zt c10 h
      refine lv_aload_n hx hb dX4_simulate_26 rfl (lv_at hl 0 rfl) ?_
      refine va_get (ci := 4) (v := .ref h2) (C := RX4) (T := TX4) (N := 13) hx hb hts uX4_simulate_X4 hown hK hP 0 rfl rfl 3 (by decide) (hts _ mX4_simulate_13) (fun _ h9 => h9) rfl dX4_simulate_27 ?_
      refine lv_iconst (v := 0) hx hb dX4_simulate_30 (by decide) ?_
      refine lv_aload_n hx hb dX4_simulate_31 rfl (lv_at hl 0 rfl) ?_
      refine va_get (ci := 4) (v := .ref h3) (C := RX4) (T := TX4) (N := 13) hx hb hts uX4_simulate_X4 hown hK hP 0 rfl rfl 4 (by decide) (hts _ mX4_simulate_16) (fun _ h9 => h9) rfl dX4_simulate_32 ?_
      refine lv_iconst (v := 0) hx hb dX4_simulate_35 (by decide) ?_
      obtain ⟨tr11, e11, h⟩ := zb h
      refine zSw (As := [.ref h2, .int 0, .ref h3, .int 0]) (rest := []) (zWv_q g _) ⟨hx, hb, hml, hown, hts⟩ (kX4_copyState l g 785 785 h2 h3 nw tr 0 0 e11) (va_cwS 4 hts gX4_simulate_X4_copyState rfl rfl rfl hdS_X4_copyState ⟨Nat.le_of_ble_eq_true rfl, Nat.le_of_ble_eq_true rfl⟩) hK hP hD hS hA [2, 3] (by decide) rfl rfl rfl hl.1 rfl (Nat.le_of_ble_eq_true rfl) ⟨Nat.zero_le _, Nat.zero_le _⟩ dX4_simulate_36 (fun H locs hP hD hS => ?_)
      replace hP : zP g (zMA g h0 h1 h2 h3 h4 h5 h6 rf9 sz ac sF sB sp ou tx nw tr11 di ke ik) H := hP
      replace hD : va_D A (zMA g h0 h1 h2 h3 h4 h5 h6 rf9 sz ac sF sB sp ou tx nw tr11 di ke ik) := hD
      refine lv_lload_n hx hb dX4_simulate_39 rfl (lv_at hl 1 rfl) ?_
      refine lv_lstore (lv' := [(4, .long a1), (0, .ref h0), (1, .long a1), (3, .int a3)]) hx hb dX4_simulate_40 hl (by decide) rfl (fun ls hl => ?_)
      refine lv_iconst (v := 0) hx hb dX4_simulate_42 (by decide) ?_
      refine lv_istore (lv' := [(6, .int 0), (4, .long a1), (0, .ref h0), (1, .long a1), (3, .int a3)]) hx hb dX4_simulate_43 hl (by decide) rfl (fun ls hl => ?_)
      exact loop_45 1000 a3 a1 0 rf9 sF sB tr11 h H locs hP hD hS ls (lv_sub hl [2, 4, 1, 0] rfl)
    · replace h := zf c10 h
      refine lv_iconst (v := 0) hx hb dX4_simulate_24 (by decide) ?_
      cases h
      exact zw_i hx hb hr hlocks hP hS dX4_simulate_25
def fX4_save (nw : Nat → Int32) (ke : Nat → Int32) (ik : Nat → Int32) (a1 : Int32) : Option (Int32 × (Int32) × (Nat → Int32) × (Nat → Int32)) :=
  ob (fX4_in a1.toInt64 0 1) fun r1 =>
  if r1 = 0 then
    ob2 (fX4_refused 1) fun r3 rf3 =>
    if r3 = 0 then
      ob (fX4_copyState 785 1570 nw ke 0 (785 * a1)) fun ke5 =>
      if a1 < 0 ∨ 2 ≤ a1.toNatClampNeg then none else
      some ((nw 768), rf3, ke5, (upd ik a1.toNatClampNeg (vp_nar .boolean 1)))
    else
      some (0, rf3, ke, ik)
  else
    ob2 (fX4_refused 0) fun r7 rf7 =>
    if r7 = 0 then
      ob (fX4_copyState 785 1570 nw ke 0 (785 * a1)) fun ke9 =>
      if a1 < 0 ∨ 2 ≤ a1.toNatClampNeg then none else
      some ((nw 768), rf7, ke9, (upd ik a1.toNatClampNeg (vp_nar .boolean 1)))
    else
      some (0, rf7, ke, ik)
theorem mX4_save_13 : Cond.fieldLink RX4 13 "IdleDiscardsModel" "now" "[I" ∈ wsX4_save := by decide +kernel
theorem uX4_save_X4 : ∀ w ∈ wsX40, w ∈ wsX4_save := by decide +kernel
theorem mX4_save_22 : Cond.fieldLink RX4 22 "IdleDiscardsModel" "kept" "[I" ∈ wsX4_save := by decide +kernel
theorem mX4_save_25 : Cond.fieldLink RX4 25 "IdleDiscardsModel" "isKept" "[Z" ∈ wsX4_save := by decide +kernel
set_option maxRecDepth 100000 in
set_option maxHeartbeats 4000000 in
theorem kX4_save (l : Launch) (g : zG) (h0 h1 h2 h3 h4 h5 h6 : Nat) (rf : Int32) (sz : Int32) (ac : Int32) (sF : Int32) (sB : Int32) (sp : Int32) (ou : Int32) (tx : Nat → Int32) (nw : Nat → Int32) (tr : Nat → Int32) (di : Nat → Int32) (ke : Nat → Int32) (ik : Nat → Int32) (a1 : Int32) {r : Int32} {rf' : Int32} {ke' : Nat → Int32} {ik' : Nat → Int32} (h : fX4_save nw ke ik a1 = some (r, rf', ke', ik')) : Mw l g yX4_save wsX4_save { frames := 1, cells := 0, slots := 0, locals := 25 } [.ref h0, .int a1] (zMA g h0 h1 h2 h3 h4 h5 h6 rf sz ac sF sB sp ou tx nw tr di ke ik) (zWi g (zMA g h0 h1 h2 h3 h4 h5 h6 rf' sz ac sF sB sp ou tx nw tr di ke' ik') r) := by
  refine zw_in (cc := cX4_save) (maxL := 2) (ret := (some .int)) (by decide) rfl (Nat.le_of_ble_eq_true rfl) ?_
  intro p e s m below meth c hx hb hr hml hts hown hlocks hK A hA hP hD hS ls hl
  replace hl : lv_has ls 2 [(0, .ref h0), (1, .int a1)] := hl
  unfold fX4_save at h
  refine lv_aload_n hx hb dX4_save_0 rfl (lv_at hl 0 rfl) ?_
  refine lv_iload_n hx hb dX4_save_1 rfl (lv_at hl 1 rfl) ?_
  refine lv_i2l (v := a1.toInt64) hx hb dX4_save_2 rfl ?_
  refine lv_lconst (v := 0) hx hb dX4_save_3 (by decide) ?_
  refine lv_lconst (v := 1) hx hb dX4_save_4 (by decide) ?_
  obtain ⟨r1, e1, h⟩ := zb h
  refine zS (As := [.long a1.toInt64, .long 0, .long 1]) (rest := [.ref h0]) (zQi_q _) ⟨hx, hb, hml, hown, hts⟩ (kX4_in l g a1.toInt64 0 1 e1) (va_cwS 3 hts gX4_save_X4_in rfl rfl rfl hdS_X4_in ⟨Nat.le_of_ble_eq_true rfl, Nat.le_of_ble_eq_true rfl⟩) hK hP [] rfl rfl hl.1 rfl (Nat.le_of_ble_eq_true rfl) ⟨Nat.zero_le _, Nat.zero_le _⟩ dX4_save_5 ?_
  refine lv_if_eq (tgt := 15) hx hb dX4_save_8 (by decide) (fun c2 => ?_) (fun c2 => ?_)
  · replace h := zt c2 h
    refine lv_iconst (v := 1) hx hb dX4_save_15 (by decide) ?_
    obtain ⟨r3, rf3, e3, h⟩ := zb2 h
    refine zVw (As := [.int 1]) (rest := []) (zWi_q g _ _) ⟨hx, hb, hml, hown, hts⟩ (kX4_refused l g h0 h1 (.ref h2) (.ref h3) (.ref h4) (.ref h5) (.ref h6) rf sz ac sF sB sp ou tx 1 e3) (cwV 1 hts gX4_save_X4_refused rfl rfl rfl hdV_X4_refused ⟨Nat.le_of_ble_eq_true rfl, Nat.le_of_ble_eq_true rfl⟩) hK hP hD hS hA [0, 1] (by decide) rfl rfl 0 rfl rfl rfl hl.1 rfl (Nat.le_of_ble_eq_true rfl) ⟨Nat.zero_le _, Nat.zero_le _⟩ dX4_save_16 (fun H locs hP hD hS => ?_)
    replace hP : zP g (zMA g h0 h1 h2 h3 h4 h5 h6 rf3 sz ac sF sB sp ou tx nw tr di ke ik) H := hP
    replace hD : va_D A (zMA g h0 h1 h2 h3 h4 h5 h6 rf3 sz ac sF sB sp ou tx nw tr di ke ik) := hD
    refine lv_if_eq (tgt := 24) hx hb dX4_save_19 (by decide) (fun c4 => ?_) (fun c4 => ?_)
    · replace h := zt c4 h
      refine lv_aload_n hx hb dX4_save_24 rfl (lv_at hl 0 rfl) ?_
      refine va_get (ci := 4) (v := .ref h2) (C := RX4) (T := TX4) (N := 13) hx hb hts uX4_save_X4 hown hK hP 0 rfl rfl 3 (by decide) (hts _ mX4_save_13) (fun _ h9 => h9) rfl dX4_save_25 ?_
      refine lv_iconst (v := 0) hx hb dX4_save_28 (by decide) ?_
      refine lv_aload_n hx hb dX4_save_29 rfl (lv_at hl 0 rfl) ?_
      refine va_get (ci := 4) (v := .ref h5) (C := RX4) (T := TX4) (N := 13) hx hb hts uX4_save_X4 hown hK hP 0 rfl rfl 7 (by decide) (hts _ mX4_save_22) (fun _ h9 => h9) rfl dX4_save_30 ?_
      refine lv_sipush (v := 785) hx hb dX4_save_33 (by decide) ?_
      refine lv_iload_n hx hb dX4_save_36 rfl (lv_at hl 1 rfl) ?_
      refine lv_imul hx hb dX4_save_37 ?_
      obtain ⟨ke5, e5, h⟩ := zb h
      refine zSw (As := [.ref h2, .int 0, .ref h5, .int (785 * a1)]) (rest := []) (zWv_q g _) ⟨hx, hb, hml, hown, hts⟩ (kX4_copyState l g 785 1570 h2 h5 nw ke 0 (785 * a1) e5) (va_cwS 4 hts gX4_save_X4_copyState rfl rfl rfl hdS_X4_copyState ⟨Nat.le_of_ble_eq_true rfl, Nat.le_of_ble_eq_true rfl⟩) hK hP hD hS hA [2, 5] (by decide) rfl rfl rfl hl.1 rfl (Nat.le_of_ble_eq_true rfl) ⟨Nat.zero_le _, Nat.zero_le _⟩ dX4_save_38 (fun H locs hP hD hS => ?_)
      replace hP : zP g (zMA g h0 h1 h2 h3 h4 h5 h6 rf3 sz ac sF sB sp ou tx nw tr di ke5 ik) H := hP
      replace hD : va_D A (zMA g h0 h1 h2 h3 h4 h5 h6 rf3 sz ac sF sB sp ou tx nw tr di ke5 ik) := hD
      refine lv_aload_n hx hb dX4_save_41 rfl (lv_at hl 0 rfl) ?_
      refine va_get (ci := 4) (v := .ref h6) (C := RX4) (T := TX4) (N := 13) hx hb hts uX4_save_X4 hown hK hP 0 rfl rfl 8 (by decide) (hts _ mX4_save_25) (fun _ h9 => h9) rfl dX4_save_42 ?_
      refine lv_iload_n hx hb dX4_save_45 rfl (lv_at hl 1 rfl) ?_
      refine lv_iconst (v := 1) hx hb dX4_save_46 (by decide) ?_
      obtain ⟨i6, h⟩ := zi h
      refine za_zst hx hb hK hP hD hS 6 rfl _ rfl i6 dX4_save_47 (fun H locs hP hD hS => ?_)
      replace hP : zP g (zMA g h0 h1 h2 h3 h4 h5 h6 rf3 sz ac sF sB sp ou tx nw tr di ke5 (upd ik a1.toNatClampNeg (vp_nar .boolean 1))) H := hP
      replace hD : va_D A (zMA g h0 h1 h2 h3 h4 h5 h6 rf3 sz ac sF sB sp ou tx nw tr di ke5 (upd ik a1.toNatClampNeg (vp_nar .boolean 1))) := hD
      refine lv_aload_n hx hb dX4_save_48 rfl (lv_at hl 0 rfl) ?_
      refine va_get (ci := 4) (v := .ref h2) (C := RX4) (T := TX4) (N := 13) hx hb hts uX4_save_X4 hown hK hP 0 rfl rfl 3 (by decide) (hts _ mX4_save_13) (fun _ h9 => h9) rfl dX4_save_49 ?_
      refine lv_sipush (v := 768) hx hb dX4_save_52 (by decide) ?_
      refine za_ild hx hb hK hP 2 rfl 768 (by decide) (by decide) dX4_save_55 ?_
      cases h
      exact zw_i hx hb hr hlocks hP hS dX4_save_56
    · replace h := zf c4 h
      refine lv_iconst (v := 0) hx hb dX4_save_22 (by decide) ?_
      cases h
      exact zw_i hx hb hr hlocks hP hS dX4_save_23
  · replace h := zf c2 h
    refine lv_iconst (v := 0) hx hb dX4_save_11 (by decide) ?_
    refine lv_goto (tgt := 16) hx hb dX4_save_12 (by decide) ?_
    obtain ⟨r7, rf7, e7, h⟩ := zb2 h
    refine zVw (As := [.int 0]) (rest := []) (zWi_q g _ _) ⟨hx, hb, hml, hown, hts⟩ (kX4_refused l g h0 h1 (.ref h2) (.ref h3) (.ref h4) (.ref h5) (.ref h6) rf sz ac sF sB sp ou tx 0 e7) (cwV 1 hts gX4_save_X4_refused rfl rfl rfl hdV_X4_refused ⟨Nat.le_of_ble_eq_true rfl, Nat.le_of_ble_eq_true rfl⟩) hK hP hD hS hA [0, 1] (by decide) rfl rfl 0 rfl rfl rfl hl.1 rfl (Nat.le_of_ble_eq_true rfl) ⟨Nat.zero_le _, Nat.zero_le _⟩ dX4_save_16 (fun H locs hP hD hS => ?_)
    replace hP : zP g (zMA g h0 h1 h2 h3 h4 h5 h6 rf7 sz ac sF sB sp ou tx nw tr di ke ik) H := hP
    replace hD : va_D A (zMA g h0 h1 h2 h3 h4 h5 h6 rf7 sz ac sF sB sp ou tx nw tr di ke ik) := hD
    refine lv_if_eq (tgt := 24) hx hb dX4_save_19 (by decide) (fun c8 => ?_) (fun c8 => ?_)
    · replace h := zt c8 h
      refine lv_aload_n hx hb dX4_save_24 rfl (lv_at hl 0 rfl) ?_
      refine va_get (ci := 4) (v := .ref h2) (C := RX4) (T := TX4) (N := 13) hx hb hts uX4_save_X4 hown hK hP 0 rfl rfl 3 (by decide) (hts _ mX4_save_13) (fun _ h9 => h9) rfl dX4_save_25 ?_
      refine lv_iconst (v := 0) hx hb dX4_save_28 (by decide) ?_
      refine lv_aload_n hx hb dX4_save_29 rfl (lv_at hl 0 rfl) ?_
      refine va_get (ci := 4) (v := .ref h5) (C := RX4) (T := TX4) (N := 13) hx hb hts uX4_save_X4 hown hK hP 0 rfl rfl 7 (by decide) (hts _ mX4_save_22) (fun _ h9 => h9) rfl dX4_save_30 ?_
      refine lv_sipush (v := 785) hx hb dX4_save_33 (by decide) ?_
      refine lv_iload_n hx hb dX4_save_36 rfl (lv_at hl 1 rfl) ?_
      refine lv_imul hx hb dX4_save_37 ?_
      obtain ⟨ke9, e9, h⟩ := zb h
      refine zSw (As := [.ref h2, .int 0, .ref h5, .int (785 * a1)]) (rest := []) (zWv_q g _) ⟨hx, hb, hml, hown, hts⟩ (kX4_copyState l g 785 1570 h2 h5 nw ke 0 (785 * a1) e9) (va_cwS 4 hts gX4_save_X4_copyState rfl rfl rfl hdS_X4_copyState ⟨Nat.le_of_ble_eq_true rfl, Nat.le_of_ble_eq_true rfl⟩) hK hP hD hS hA [2, 5] (by decide) rfl rfl rfl hl.1 rfl (Nat.le_of_ble_eq_true rfl) ⟨Nat.zero_le _, Nat.zero_le _⟩ dX4_save_38 (fun H locs hP hD hS => ?_)
      replace hP : zP g (zMA g h0 h1 h2 h3 h4 h5 h6 rf7 sz ac sF sB sp ou tx nw tr di ke9 ik) H := hP
      replace hD : va_D A (zMA g h0 h1 h2 h3 h4 h5 h6 rf7 sz ac sF sB sp ou tx nw tr di ke9 ik) := hD
      refine lv_aload_n hx hb dX4_save_41 rfl (lv_at hl 0 rfl) ?_
      refine va_get (ci := 4) (v := .ref h6) (C := RX4) (T := TX4) (N := 13) hx hb hts uX4_save_X4 hown hK hP 0 rfl rfl 8 (by decide) (hts _ mX4_save_25) (fun _ h9 => h9) rfl dX4_save_42 ?_
      refine lv_iload_n hx hb dX4_save_45 rfl (lv_at hl 1 rfl) ?_
      refine lv_iconst (v := 1) hx hb dX4_save_46 (by decide) ?_
      obtain ⟨i10, h⟩ := zi h
      refine za_zst hx hb hK hP hD hS 6 rfl _ rfl i10 dX4_save_47 (fun H locs hP hD hS => ?_)
      replace hP : zP g (zMA g h0 h1 h2 h3 h4 h5 h6 rf7 sz ac sF sB sp ou tx nw tr di ke9 (upd ik a1.toNatClampNeg (vp_nar .boolean 1))) H := hP
      replace hD : va_D A (zMA g h0 h1 h2 h3 h4 h5 h6 rf7 sz ac sF sB sp ou tx nw tr di ke9 (upd ik a1.toNatClampNeg (vp_nar .boolean 1))) := hD
      refine lv_aload_n hx hb dX4_save_48 rfl (lv_at hl 0 rfl) ?_
      refine va_get (ci := 4) (v := .ref h2) (C := RX4) (T := TX4) (N := 13) hx hb hts uX4_save_X4 hown hK hP 0 rfl rfl 3 (by decide) (hts _ mX4_save_13) (fun _ h9 => h9) rfl dX4_save_49 ?_
      refine lv_sipush (v := 768) hx hb dX4_save_52 (by decide) ?_
      refine za_ild hx hb hK hP 2 rfl 768 (by decide) (by decide) dX4_save_55 ?_
      cases h
      exact zw_i hx hb hr hlocks hP hS dX4_save_56
    · replace h := zf c8 h
      refine lv_iconst (v := 0) hx hb dX4_save_22 (by decide) ?_
      cases h
      exact zw_i hx hb hr hlocks hP hS dX4_save_23
def fX4_restore (ac : Int32) (nw : Nat → Int32) (ke : Nat → Int32) (ik : Nat → Int32) (a1 : Int32) : Option (Int32 × (Int32) × (Int32) × (Nat → Int32)) :=
  ob (fX4_in a1.toInt64 0 1) fun r1 =>
  if r1 = 0 then
    ob2 (fX4_refused 1) fun r11 rf11 =>
    if r11 = 0 then
      ob (fX4_copyState 1570 785 ke nw (785 * a1) 0) fun nw13 =>
      some ((nw13 768), rf11, 0, nw13)
    else
      some (0, rf11, ac, nw)
  else
    if a1 < 0 ∨ 2 ≤ a1.toNatClampNeg then none else
    if (ik a1.toNatClampNeg) = 0 then
      ob2 (fX4_refused 2) fun r8 rf8 =>
      if r8 = 0 then
        ob (fX4_copyState 1570 785 ke nw (785 * a1) 0) fun nw10 =>
        some ((nw10 768), rf8, 0, nw10)
      else
        some (0, rf8, ac, nw)
    else
      ob2 (fX4_refused 0) fun r5 rf5 =>
      if r5 = 0 then
        ob (fX4_copyState 1570 785 ke nw (785 * a1) 0) fun nw7 =>
        some ((nw7 768), rf5, 0, nw7)
      else
        some (0, rf5, ac, nw)
theorem mX4_restore_25 : Cond.fieldLink RX4 25 "IdleDiscardsModel" "isKept" "[Z" ∈ wsX4_restore := by decide +kernel
theorem uX4_restore_X4 : ∀ w ∈ wsX40, w ∈ wsX4_restore := by decide +kernel
theorem mX4_restore_22 : Cond.fieldLink RX4 22 "IdleDiscardsModel" "kept" "[I" ∈ wsX4_restore := by decide +kernel
theorem mX4_restore_13 : Cond.fieldLink RX4 13 "IdleDiscardsModel" "now" "[I" ∈ wsX4_restore := by decide +kernel
theorem mX4_restore_172 : Cond.fieldLink RX4 172 "IdleDiscardsModel" "acts" "I" ∈ wsX4_restore := by decide +kernel
set_option maxRecDepth 100000 in
set_option maxHeartbeats 4000000 in
theorem kX4_restore (l : Launch) (g : zG) (h0 h1 h2 h3 h4 h5 h6 : Nat) (rf : Int32) (sz : Int32) (ac : Int32) (sF : Int32) (sB : Int32) (sp : Int32) (ou : Int32) (tx : Nat → Int32) (nw : Nat → Int32) (tr : Nat → Int32) (di : Nat → Int32) (ke : Nat → Int32) (ik : Nat → Int32) (a1 : Int32) {r : Int32} {rf' : Int32} {ac' : Int32} {nw' : Nat → Int32} (h : fX4_restore ac nw ke ik a1 = some (r, rf', ac', nw')) : Mw l g yX4_restore wsX4_restore { frames := 1, cells := 0, slots := 0, locals := 25 } [.ref h0, .int a1] (zMA g h0 h1 h2 h3 h4 h5 h6 rf sz ac sF sB sp ou tx nw tr di ke ik) (zWi g (zMA g h0 h1 h2 h3 h4 h5 h6 rf' sz ac' sF sB sp ou tx nw' tr di ke ik) r) := by
  refine zw_in (cc := cX4_restore) (maxL := 2) (ret := (some .int)) (by decide) rfl (Nat.le_of_ble_eq_true rfl) ?_
  intro p e s m below meth c hx hb hr hml hts hown hlocks hK A hA hP hD hS ls hl
  replace hl : lv_has ls 2 [(0, .ref h0), (1, .int a1)] := hl
  unfold fX4_restore at h
  refine lv_aload_n hx hb dX4_restore_0 rfl (lv_at hl 0 rfl) ?_
  refine lv_iload_n hx hb dX4_restore_1 rfl (lv_at hl 1 rfl) ?_
  refine lv_i2l (v := a1.toInt64) hx hb dX4_restore_2 rfl ?_
  refine lv_lconst (v := 0) hx hb dX4_restore_3 (by decide) ?_
  refine lv_lconst (v := 1) hx hb dX4_restore_4 (by decide) ?_
  obtain ⟨r1, e1, h⟩ := zb h
  refine zS (As := [.long a1.toInt64, .long 0, .long 1]) (rest := [.ref h0]) (zQi_q _) ⟨hx, hb, hml, hown, hts⟩ (kX4_in l g a1.toInt64 0 1 e1) (va_cwS 3 hts gX4_restore_X4_in rfl rfl rfl hdS_X4_in ⟨Nat.le_of_ble_eq_true rfl, Nat.le_of_ble_eq_true rfl⟩) hK hP [] rfl rfl hl.1 rfl (Nat.le_of_ble_eq_true rfl) ⟨Nat.zero_le _, Nat.zero_le _⟩ dX4_restore_5 ?_
  refine lv_if_ne (tgt := 15) hx hb dX4_restore_8 (by decide) (fun c2 => ?_) (fun c2 => ?_)
  · replace h := zf c2 h
    refine lv_aload_n hx hb dX4_restore_15 rfl (lv_at hl 0 rfl) ?_
    refine va_get (ci := 4) (v := .ref h6) (C := RX4) (T := TX4) (N := 13) hx hb hts uX4_restore_X4 hown hK hP 0 rfl rfl 8 (by decide) (hts _ mX4_restore_25) (fun _ h9 => h9) rfl dX4_restore_16 ?_
    refine lv_iload_n hx hb dX4_restore_19 rfl (lv_at hl 1 rfl) ?_
    obtain ⟨i3, h⟩ := zi h
    refine za_zld hx hb hK hP 6 rfl _ rfl i3 dX4_restore_20 ?_
    refine lv_if_ne (tgt := 28) hx hb dX4_restore_21 (by decide) (fun c4 => ?_) (fun c4 => ?_)
    · replace h := zf c4 h
      refine lv_iconst (v := 0) hx hb dX4_restore_28 (by decide) ?_
      obtain ⟨r5, rf5, e5, h⟩ := zb2 h
      refine zVw (As := [.int 0]) (rest := []) (zWi_q g _ _) ⟨hx, hb, hml, hown, hts⟩ (kX4_refused l g h0 h1 (.ref h2) (.ref h3) (.ref h4) (.ref h5) (.ref h6) rf sz ac sF sB sp ou tx 0 e5) (cwV 1 hts gX4_restore_X4_refused rfl rfl rfl hdV_X4_refused ⟨Nat.le_of_ble_eq_true rfl, Nat.le_of_ble_eq_true rfl⟩) hK hP hD hS hA [0, 1] (by decide) rfl rfl 0 rfl rfl rfl hl.1 rfl (Nat.le_of_ble_eq_true rfl) ⟨Nat.zero_le _, Nat.zero_le _⟩ dX4_restore_29 (fun H locs hP hD hS => ?_)
      replace hP : zP g (zMA g h0 h1 h2 h3 h4 h5 h6 rf5 sz ac sF sB sp ou tx nw tr di ke ik) H := hP
      replace hD : va_D A (zMA g h0 h1 h2 h3 h4 h5 h6 rf5 sz ac sF sB sp ou tx nw tr di ke ik) := hD
      refine lv_if_eq (tgt := 37) hx hb dX4_restore_32 (by decide) (fun c6 => ?_) (fun c6 => ?_)
      · replace h := zt c6 h
        refine lv_aload_n hx hb dX4_restore_37 rfl (lv_at hl 0 rfl) ?_
        refine va_get (ci := 4) (v := .ref h5) (C := RX4) (T := TX4) (N := 13) hx hb hts uX4_restore_X4 hown hK hP 0 rfl rfl 7 (by decide) (hts _ mX4_restore_22) (fun _ h9 => h9) rfl dX4_restore_38 ?_
        refine lv_sipush (v := 785) hx hb dX4_restore_41 (by decide) ?_
        refine lv_iload_n hx hb dX4_restore_44 rfl (lv_at hl 1 rfl) ?_
        refine lv_imul hx hb dX4_restore_45 ?_
        refine lv_aload_n hx hb dX4_restore_46 rfl (lv_at hl 0 rfl) ?_
        refine va_get (ci := 4) (v := .ref h2) (C := RX4) (T := TX4) (N := 13) hx hb hts uX4_restore_X4 hown hK hP 0 rfl rfl 3 (by decide) (hts _ mX4_restore_13) (fun _ h9 => h9) rfl dX4_restore_47 ?_
        refine lv_iconst (v := 0) hx hb dX4_restore_50 (by decide) ?_
        obtain ⟨nw7, e7, h⟩ := zb h
        refine zSw (As := [.ref h5, .int (785 * a1), .ref h2, .int 0]) (rest := []) (zWv_q g _) ⟨hx, hb, hml, hown, hts⟩ (kX4_copyState l g 1570 785 h5 h2 ke nw (785 * a1) 0 e7) (va_cwS 4 hts gX4_restore_X4_copyState rfl rfl rfl hdS_X4_copyState ⟨Nat.le_of_ble_eq_true rfl, Nat.le_of_ble_eq_true rfl⟩) hK hP hD hS hA [5, 2] (by decide) rfl rfl rfl hl.1 rfl (Nat.le_of_ble_eq_true rfl) ⟨Nat.zero_le _, Nat.zero_le _⟩ dX4_restore_51 (fun H locs hP hD hS => ?_)
        replace hP : zP g (zMA g h0 h1 h2 h3 h4 h5 h6 rf5 sz ac sF sB sp ou tx nw7 tr di ke ik) H := hP
        replace hD : va_D A (zMA g h0 h1 h2 h3 h4 h5 h6 rf5 sz ac sF sB sp ou tx nw7 tr di ke ik) := hD
        refine lv_aload_n hx hb dX4_restore_54 rfl (lv_at hl 0 rfl) ?_
        refine lv_iconst (v := 0) hx hb dX4_restore_55 (by decide) ?_
        refine va_put (ci := 4) (v := .int 0) (ty := .int) (C := RX4) (T := TX4) (N := 13) hx hb hts uX4_restore_X4 tyX4 tyX4_ok nmX4 hown hK hP hD hS 0 rfl rfl 6 (by decide) (hts _ mX4_restore_172) (fun _ h9 => h9) rfl (by decide +kernel) rfl rfl (Nat.le_of_ble_eq_true rfl) dX4_restore_56 (fun H locs hP hD hS => ?_)
        replace hP : zP g (zMA g h0 h1 h2 h3 h4 h5 h6 rf5 sz 0 sF sB sp ou tx nw7 tr di ke ik) H := hP
        replace hD : va_D A (zMA g h0 h1 h2 h3 h4 h5 h6 rf5 sz 0 sF sB sp ou tx nw7 tr di ke ik) := hD
        refine lv_aload_n hx hb dX4_restore_59 rfl (lv_at hl 0 rfl) ?_
        refine va_get (ci := 4) (v := .ref h2) (C := RX4) (T := TX4) (N := 13) hx hb hts uX4_restore_X4 hown hK hP 0 rfl rfl 3 (by decide) (hts _ mX4_restore_13) (fun _ h9 => h9) rfl dX4_restore_60 ?_
        refine lv_sipush (v := 768) hx hb dX4_restore_63 (by decide) ?_
        refine za_ild hx hb hK hP 2 rfl 768 (by decide) (by decide) dX4_restore_66 ?_
        cases h
        exact zw_i hx hb hr hlocks hP hS dX4_restore_67
      · replace h := zf c6 h
        refine lv_iconst (v := 0) hx hb dX4_restore_35 (by decide) ?_
        cases h
        exact zw_i hx hb hr hlocks hP hS dX4_restore_36
    · replace h := zt c4 h
      refine lv_iconst (v := 2) hx hb dX4_restore_24 (by decide) ?_
      refine lv_goto (tgt := 29) hx hb dX4_restore_25 (by decide) ?_
      obtain ⟨r8, rf8, e8, h⟩ := zb2 h
      refine zVw (As := [.int 2]) (rest := []) (zWi_q g _ _) ⟨hx, hb, hml, hown, hts⟩ (kX4_refused l g h0 h1 (.ref h2) (.ref h3) (.ref h4) (.ref h5) (.ref h6) rf sz ac sF sB sp ou tx 2 e8) (cwV 1 hts gX4_restore_X4_refused rfl rfl rfl hdV_X4_refused ⟨Nat.le_of_ble_eq_true rfl, Nat.le_of_ble_eq_true rfl⟩) hK hP hD hS hA [0, 1] (by decide) rfl rfl 0 rfl rfl rfl hl.1 rfl (Nat.le_of_ble_eq_true rfl) ⟨Nat.zero_le _, Nat.zero_le _⟩ dX4_restore_29 (fun H locs hP hD hS => ?_)
      replace hP : zP g (zMA g h0 h1 h2 h3 h4 h5 h6 rf8 sz ac sF sB sp ou tx nw tr di ke ik) H := hP
      replace hD : va_D A (zMA g h0 h1 h2 h3 h4 h5 h6 rf8 sz ac sF sB sp ou tx nw tr di ke ik) := hD
      refine lv_if_eq (tgt := 37) hx hb dX4_restore_32 (by decide) (fun c9 => ?_) (fun c9 => ?_)
      · replace h := zt c9 h
        refine lv_aload_n hx hb dX4_restore_37 rfl (lv_at hl 0 rfl) ?_
        refine va_get (ci := 4) (v := .ref h5) (C := RX4) (T := TX4) (N := 13) hx hb hts uX4_restore_X4 hown hK hP 0 rfl rfl 7 (by decide) (hts _ mX4_restore_22) (fun _ h9 => h9) rfl dX4_restore_38 ?_
        refine lv_sipush (v := 785) hx hb dX4_restore_41 (by decide) ?_
        refine lv_iload_n hx hb dX4_restore_44 rfl (lv_at hl 1 rfl) ?_
        refine lv_imul hx hb dX4_restore_45 ?_
        refine lv_aload_n hx hb dX4_restore_46 rfl (lv_at hl 0 rfl) ?_
        refine va_get (ci := 4) (v := .ref h2) (C := RX4) (T := TX4) (N := 13) hx hb hts uX4_restore_X4 hown hK hP 0 rfl rfl 3 (by decide) (hts _ mX4_restore_13) (fun _ h9 => h9) rfl dX4_restore_47 ?_
        refine lv_iconst (v := 0) hx hb dX4_restore_50 (by decide) ?_
        obtain ⟨nw10, e10, h⟩ := zb h
        refine zSw (As := [.ref h5, .int (785 * a1), .ref h2, .int 0]) (rest := []) (zWv_q g _) ⟨hx, hb, hml, hown, hts⟩ (kX4_copyState l g 1570 785 h5 h2 ke nw (785 * a1) 0 e10) (va_cwS 4 hts gX4_restore_X4_copyState rfl rfl rfl hdS_X4_copyState ⟨Nat.le_of_ble_eq_true rfl, Nat.le_of_ble_eq_true rfl⟩) hK hP hD hS hA [5, 2] (by decide) rfl rfl rfl hl.1 rfl (Nat.le_of_ble_eq_true rfl) ⟨Nat.zero_le _, Nat.zero_le _⟩ dX4_restore_51 (fun H locs hP hD hS => ?_)
        replace hP : zP g (zMA g h0 h1 h2 h3 h4 h5 h6 rf8 sz ac sF sB sp ou tx nw10 tr di ke ik) H := hP
        replace hD : va_D A (zMA g h0 h1 h2 h3 h4 h5 h6 rf8 sz ac sF sB sp ou tx nw10 tr di ke ik) := hD
        refine lv_aload_n hx hb dX4_restore_54 rfl (lv_at hl 0 rfl) ?_
        refine lv_iconst (v := 0) hx hb dX4_restore_55 (by decide) ?_
        refine va_put (ci := 4) (v := .int 0) (ty := .int) (C := RX4) (T := TX4) (N := 13) hx hb hts uX4_restore_X4 tyX4 tyX4_ok nmX4 hown hK hP hD hS 0 rfl rfl 6 (by decide) (hts _ mX4_restore_172) (fun _ h9 => h9) rfl (by decide +kernel) rfl rfl (Nat.le_of_ble_eq_true rfl) dX4_restore_56 (fun H locs hP hD hS => ?_)
        replace hP : zP g (zMA g h0 h1 h2 h3 h4 h5 h6 rf8 sz 0 sF sB sp ou tx nw10 tr di ke ik) H := hP
        replace hD : va_D A (zMA g h0 h1 h2 h3 h4 h5 h6 rf8 sz 0 sF sB sp ou tx nw10 tr di ke ik) := hD
        refine lv_aload_n hx hb dX4_restore_59 rfl (lv_at hl 0 rfl) ?_
        refine va_get (ci := 4) (v := .ref h2) (C := RX4) (T := TX4) (N := 13) hx hb hts uX4_restore_X4 hown hK hP 0 rfl rfl 3 (by decide) (hts _ mX4_restore_13) (fun _ h9 => h9) rfl dX4_restore_60 ?_
        refine lv_sipush (v := 768) hx hb dX4_restore_63 (by decide) ?_
        refine za_ild hx hb hK hP 2 rfl 768 (by decide) (by decide) dX4_restore_66 ?_
        cases h
        exact zw_i hx hb hr hlocks hP hS dX4_restore_67
      · replace h := zf c9 h
        refine lv_iconst (v := 0) hx hb dX4_restore_35 (by decide) ?_
        cases h
        exact zw_i hx hb hr hlocks hP hS dX4_restore_36
  · replace h := zt c2 h
    refine lv_iconst (v := 1) hx hb dX4_restore_11 (by decide) ?_
    refine lv_goto (tgt := 29) hx hb dX4_restore_12 (by decide) ?_
    obtain ⟨r11, rf11, e11, h⟩ := zb2 h
    refine zVw (As := [.int 1]) (rest := []) (zWi_q g _ _) ⟨hx, hb, hml, hown, hts⟩ (kX4_refused l g h0 h1 (.ref h2) (.ref h3) (.ref h4) (.ref h5) (.ref h6) rf sz ac sF sB sp ou tx 1 e11) (cwV 1 hts gX4_restore_X4_refused rfl rfl rfl hdV_X4_refused ⟨Nat.le_of_ble_eq_true rfl, Nat.le_of_ble_eq_true rfl⟩) hK hP hD hS hA [0, 1] (by decide) rfl rfl 0 rfl rfl rfl hl.1 rfl (Nat.le_of_ble_eq_true rfl) ⟨Nat.zero_le _, Nat.zero_le _⟩ dX4_restore_29 (fun H locs hP hD hS => ?_)
    replace hP : zP g (zMA g h0 h1 h2 h3 h4 h5 h6 rf11 sz ac sF sB sp ou tx nw tr di ke ik) H := hP
    replace hD : va_D A (zMA g h0 h1 h2 h3 h4 h5 h6 rf11 sz ac sF sB sp ou tx nw tr di ke ik) := hD
    refine lv_if_eq (tgt := 37) hx hb dX4_restore_32 (by decide) (fun c12 => ?_) (fun c12 => ?_)
    · replace h := zt c12 h
      refine lv_aload_n hx hb dX4_restore_37 rfl (lv_at hl 0 rfl) ?_
      refine va_get (ci := 4) (v := .ref h5) (C := RX4) (T := TX4) (N := 13) hx hb hts uX4_restore_X4 hown hK hP 0 rfl rfl 7 (by decide) (hts _ mX4_restore_22) (fun _ h9 => h9) rfl dX4_restore_38 ?_
      refine lv_sipush (v := 785) hx hb dX4_restore_41 (by decide) ?_
      refine lv_iload_n hx hb dX4_restore_44 rfl (lv_at hl 1 rfl) ?_
      refine lv_imul hx hb dX4_restore_45 ?_
      refine lv_aload_n hx hb dX4_restore_46 rfl (lv_at hl 0 rfl) ?_
      refine va_get (ci := 4) (v := .ref h2) (C := RX4) (T := TX4) (N := 13) hx hb hts uX4_restore_X4 hown hK hP 0 rfl rfl 3 (by decide) (hts _ mX4_restore_13) (fun _ h9 => h9) rfl dX4_restore_47 ?_
      refine lv_iconst (v := 0) hx hb dX4_restore_50 (by decide) ?_
      obtain ⟨nw13, e13, h⟩ := zb h
      refine zSw (As := [.ref h5, .int (785 * a1), .ref h2, .int 0]) (rest := []) (zWv_q g _) ⟨hx, hb, hml, hown, hts⟩ (kX4_copyState l g 1570 785 h5 h2 ke nw (785 * a1) 0 e13) (va_cwS 4 hts gX4_restore_X4_copyState rfl rfl rfl hdS_X4_copyState ⟨Nat.le_of_ble_eq_true rfl, Nat.le_of_ble_eq_true rfl⟩) hK hP hD hS hA [5, 2] (by decide) rfl rfl rfl hl.1 rfl (Nat.le_of_ble_eq_true rfl) ⟨Nat.zero_le _, Nat.zero_le _⟩ dX4_restore_51 (fun H locs hP hD hS => ?_)
      replace hP : zP g (zMA g h0 h1 h2 h3 h4 h5 h6 rf11 sz ac sF sB sp ou tx nw13 tr di ke ik) H := hP
      replace hD : va_D A (zMA g h0 h1 h2 h3 h4 h5 h6 rf11 sz ac sF sB sp ou tx nw13 tr di ke ik) := hD
      refine lv_aload_n hx hb dX4_restore_54 rfl (lv_at hl 0 rfl) ?_
      refine lv_iconst (v := 0) hx hb dX4_restore_55 (by decide) ?_
      refine va_put (ci := 4) (v := .int 0) (ty := .int) (C := RX4) (T := TX4) (N := 13) hx hb hts uX4_restore_X4 tyX4 tyX4_ok nmX4 hown hK hP hD hS 0 rfl rfl 6 (by decide) (hts _ mX4_restore_172) (fun _ h9 => h9) rfl (by decide +kernel) rfl rfl (Nat.le_of_ble_eq_true rfl) dX4_restore_56 (fun H locs hP hD hS => ?_)
      replace hP : zP g (zMA g h0 h1 h2 h3 h4 h5 h6 rf11 sz 0 sF sB sp ou tx nw13 tr di ke ik) H := hP
      replace hD : va_D A (zMA g h0 h1 h2 h3 h4 h5 h6 rf11 sz 0 sF sB sp ou tx nw13 tr di ke ik) := hD
      refine lv_aload_n hx hb dX4_restore_59 rfl (lv_at hl 0 rfl) ?_
      refine va_get (ci := 4) (v := .ref h2) (C := RX4) (T := TX4) (N := 13) hx hb hts uX4_restore_X4 hown hK hP 0 rfl rfl 3 (by decide) (hts _ mX4_restore_13) (fun _ h9 => h9) rfl dX4_restore_60 ?_
      refine lv_sipush (v := 768) hx hb dX4_restore_63 (by decide) ?_
      refine za_ild hx hb hK hP 2 rfl 768 (by decide) (by decide) dX4_restore_66 ?_
      cases h
      exact zw_i hx hb hr hlocks hP hS dX4_restore_67
    · replace h := zf c12 h
      refine lv_iconst (v := 0) hx hb dX4_restore_35 (by decide) ?_
      cases h
      exact zw_i hx hb hr hlocks hP hS dX4_restore_36
