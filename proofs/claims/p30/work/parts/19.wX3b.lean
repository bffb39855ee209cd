theorem hdS_X3_freeIfAllowed : yX3_freeIfAllowed.cls ≠ "java/lang/invoke/MethodHandle" ∧ yX3_freeIfAllowed.cls ≠ "java/lang/invoke/VarHandle" ∧ (parseMethodDescriptor yX3_freeIfAllowed.desc).map (fun d => d.parameters.length) = some 3 := by decide +kernel
theorem hdS_X3_pinIfAllowed : yX3_pinIfAllowed.cls ≠ "java/lang/invoke/MethodHandle" ∧ yX3_pinIfAllowed.cls ≠ "java/lang/invoke/VarHandle" ∧ (parseMethodDescriptor yX3_pinIfAllowed.desc).map (fun d => d.parameters.length) = some 4 := by decide +kernel
theorem hdS_X3_setIfAllowed : yX3_setIfAllowed.cls ≠ "java/lang/invoke/MethodHandle" ∧ yX3_setIfAllowed.cls ≠ "java/lang/invoke/VarHandle" ∧ (parseMethodDescriptor yX3_setIfAllowed.desc).map (fun d => d.parameters.length) = some 3 := by decide +kernel
theorem hdS_X3_writeIfAllowed : yX3_writeIfAllowed.cls ≠ "java/lang/invoke/MethodHandle" ∧ yX3_writeIfAllowed.cls ≠ "java/lang/invoke/VarHandle" ∧ (parseMethodDescriptor yX3_writeIfAllowed.desc).map (fun d => d.parameters.length) = some 3 := by decide +kernel
theorem hdV_X0_passTicks : yX0_passTicks.cls = RX0 ∧ yX0_passTicks.cls ≠ "java/lang/invoke/MethodHandle" ∧ yX0_passTicks.cls ≠ "java/lang/invoke/VarHandle" ∧ (parseMethodDescriptor yX0_passTicks.desc).map (fun d => d.parameters.length) = some 1 := by decide +kernel
theorem hdV_X2_letter : yX2_letter.cls = RX2 ∧ yX2_letter.cls ≠ "java/lang/invoke/MethodHandle" ∧ yX2_letter.cls ≠ "java/lang/invoke/VarHandle" ∧ (parseMethodDescriptor yX2_letter.desc).map (fun d => d.parameters.length) = some 0 := by decide +kernel
theorem hdV_X2_number : yX2_number.cls = RX2 ∧ yX2_number.cls ≠ "java/lang/invoke/MethodHandle" ∧ yX2_number.cls ≠ "java/lang/invoke/VarHandle" ∧ (parseMethodDescriptor yX2_number.desc).map (fun d => d.parameters.length) = some 1 := by decide +kernel
def fX3_doTextCommand (nu : Nat → Int32) (lt : Int32) (b : Nat → Int32) (pF : Nat → Int32) (pL : Nat → Int32) (st : Nat → Int32) (tm : Int32) (qt : Int32) (cm : Int32) (ds : Int32) (dr : Int32) : Option (Int32 × (Nat → Int32) × (Nat → Int32) × (Nat → Int32) × (Nat → Int32) × (Int32) × (Int32) × (Int32) × (Int32) × (Int32)) :=
  ob (fX2_number nu 0) fun r1 =>
  ob (fX2_number nu 1) fun r2 =>
  ob (fX2_letter lt) fun r3 =>
  if r3 = 102 then
    ob4 (fX3_freeIfAllowed b tm qt dr r1 r2) fun r5 b5 qt5 dr5 =>
    if ¬ (r5 &&& 1 = r5) then none else some (r5, b5, pF, pL, st, tm, qt5, cm, ds, dr5)
  else if r3 = 105 then
    ob7 (fX0_passTicks b pF pL st tm qt cm ds dr r1) fun r8 b8 tm8 qt8 cm8 ds8 dr8 =>
    some (1, b8, pF, pL, st, tm8, qt8, cm8, ds8, dr8)
  else if r3 = 112 then
    ob (fX2_number nu 2) fun r10 =>
    ob3 (fX3_pinIfAllowed pF pL r1 r2 r10) fun r11 pF11 pL11 =>
    if ¬ (r11 &&& 1 = r11) then none else some (r11, b, pF11, pL11, st, tm, qt, cm, ds, dr)
  else if r3 = 119 then
    ob4 (fX3_writeIfAllowed b qt dr r1 r2) fun r14 b14 qt14 dr14 =>
    if ¬ (r14 &&& 1 = r14) then none else some (r14, b14, pF, pL, st, tm, qt14, cm, ds, dr14)
  else ob2 (fX3_setIfAllowed st r1 r2) fun r16 st16 =>
  if ¬ (r16 &&& 1 = r16) then none else some (r16, b, pF, pL, st16, tm, qt, cm, ds, dr)
theorem mX3_doTextCommand_10 : Cond.fieldLink RX3 10 "IdleDiscards" "text" "LIdleDiscards$Text;" ∈ wsX3_doTextCommand := by decide +kernel
theorem uX3_doTextCommand_X3 : ∀ w ∈ wsX30, w ∈ wsX3_doTextCommand := by decide +kernel
theorem mX3_doTextCommand_19 : Cond.fieldLink RX3 19 "IdleDiscards" "device" "LIdleDiscards$Device;" ∈ wsX3_doTextCommand := by decide +kernel
set_option maxRecDepth 100000 in
set_option maxHeartbeats 4000000 in
theorem kX3_doTextCommand (l : Launch) (g : zG) (h0 xt0 xt1 xt2 xd0 xd1 xd2 xd3 xd4 xc0 xc1 xc2 xc3 xc4 xp0 xp1 xs0 xu0 xe0 xe1 xe2 xe3 xe4 xf0 xf1 xf2 xf3 xf4 : Nat) (ad : Nat → Nat → Nat) (ch : Nat → Int32) (nu : Nat → Int32) (le : Int32) (ta : Int32) (lt : Int32) (b : Nat → Int32) (pF : Nat → Int32) (pL : Nat → Int32) (st : Nat → Int32) (tm : Int32) (qt : Int32) (cm : Int32) (ds : Int32) (dr : Int32) (bC : Nat → Int32) (pFC : Nat → Int32) (pLC : Nat → Int32) (stC : Nat → Int32) (tmC : Int32) (qtC : Int32) (cmC : Int32) (dsC : Int32) (drC : Int32) (ol : Int32) (pz : Int32) (dvs : Nat → zDv) (us : Nat → Int32) (bS : Nat → Int32) (pFS : Nat → Int32) (pLS : Nat → Int32) (stS : Nat → Int32) (tmS : Int32) (qtS : Int32) (cmS : Int32) (dsS : Int32) (drS : Int32) (bT : Nat → Int32) (pFT : Nat → Int32) (pLT : Nat → Int32) (stT : Nat → Int32) (tmT : Int32) (qtT : Int32) (cmT : Int32) (dsT : Int32) (drT : Int32) {r : Int32} {b' : Nat → Int32} {pF' : Nat → Int32} {pL' : Nat → Int32} {st' : Nat → Int32} {tm' : Int32} {qt' : Int32} {cm' : Int32} {ds' : Int32} {dr' : Int32} (h : fX3_doTextCommand nu lt b pF pL st tm qt cm ds dr = some (r, b', pF', pL', st', tm', qt', cm', ds', dr')) : Ma l g yX3_doTextCommand wsX3_doTextCommand { frames := 5, cells := 0, slots := 0, locals := 123 } [.ref h0] (zI g h0 xt0 xt1 xt2 xd0 xd1 xd2 xd3 xd4 xc0 xc1 xc2 xc3 xc4 xp0 xp1 xs0 xu0 xe0 xe1 xe2 xe3 xe4 xf0 xf1 xf2 xf3 xf4 ad ch nu le ta lt b pF pL st tm qt cm ds dr bC pFC pLC stC tmC qtC cmC dsC drC ol pz dvs us bS pFS pLS stS tmS qtS cmS dsS drS bT pFT pLT stT tmT qtT cmT dsT drT) (zWi g (zI g h0 xt0 xt1 xt2 xd0 xd1 xd2 xd3 xd4 xc0 xc1 xc2 xc3 xc4 xp0 xp1 xs0 xu0 xe0 xe1 xe2 xe3 xe4 xf0 xf1 xf2 xf3 xf4 ad ch nu le ta lt b' pF' pL' st' tm' qt' cm' ds' dr' bC pFC pLC stC tmC qtC cmC dsC drC ol pz dvs us bS pFS pLS stS tmS qtS cmS dsS drS bT pFT pLT stT tmT qtT cmT dsT drT) r) := by
  refine zm_in (cc := cX3_doTextCommand) (maxL := 3) (ret := (some .boolean)) (by decide) rfl (Nat.le_of_ble_eq_true rfl) ?_
  intro p e s m below meth c hx hb hr hml hts hown hlocks hK A hA hP hD hS hAm ls hl
  replace hl : lv_has ls 3 [(0, .ref h0)] := hl
  unfold fX3_doTextCommand at h
  refine lv_aload_n hx hb dX3_doTextCommand_0 rfl (lv_at hl 0 rfl) ?_
  refine va_get (ci := 3) (v := .ref xt0) (C := RX3) (T := TX3) (N := 6) hx hb hts uX3_doTextCommand_X3 hown hK hP 0 rfl rfl 0 (by decide) (hts _ mX3_doTextCommand_10) (fun _ h9 => h9) rfl dX3_doTextCommand_1 ?_
  refine lv_iconst (v := 0) hx hb dX3_doTextCommand_4 (by decide) ?_
  obtain ⟨r1, e1, h⟩ := zb h
  refine zV (As := [.int 0]) (rest := []) (zQi_q _) ⟨hx, hb, hml, hown, hts⟩ (kX2_number l g xt0 xt1 xt2 ch nu le ta lt 0 e1) (cwV 1 hts gX3_doTextCommand_X2_number rfl rfl rfl hdV_X2_number ⟨Nat.le_of_ble_eq_true rfl, Nat.le_of_ble_eq_true rfl⟩) hK hP [1, 2, 3] rfl 1 rfl rfl rfl hl.1 rfl (Nat.le_of_ble_eq_true rfl) ⟨Nat.zero_le _, Nat.zero_le _⟩ dX3_doTextCommand_5 ?_
  refine lv_istore_n (lv' := [(1, .int r1), (0, .ref h0)]) hx hb dX3_doTextCommand_8 rfl hl (by decide) rfl (fun ls hl => ?_)
  refine lv_aload_n hx hb dX3_doTextCommand_9 rfl (lv_at hl 1 rfl) ?_
  refine va_get (ci := 3) (v := .ref xt0) (C := RX3) (T := TX3) (N := 6) hx hb hts uX3_doTextCommand_X3 hown hK hP 0 rfl rfl 0 (by decide) (hts _ mX3_doTextCommand_10) (fun _ h9 => h9) rfl dX3_doTextCommand_10 ?_
  refine lv_iconst (v := 1) hx hb dX3_doTextCommand_13 (by decide) ?_
  obtain ⟨r2, e2, h⟩ := zb h
  refine zV (As := [.int 1]) (rest := []) (zQi_q _) ⟨hx, hb, hml, hown, hts⟩ (kX2_number l g xt0 xt1 xt2 ch nu le ta lt 1 e2) (cwV 1 hts gX3_doTextCommand_X2_number rfl rfl rfl hdV_X2_number ⟨Nat.le_of_ble_eq_true rfl, Nat.le_of_ble_eq_true rfl⟩) hK hP [1, 2, 3] rfl 1 rfl rfl rfl hl.1 rfl (Nat.le_of_ble_eq_true rfl) ⟨Nat.zero_le _, Nat.zero_le _⟩ dX3_doTextCommand_14 ?_
  refine lv_istore_n (lv' := [(2, .int r2), (1, .int r1), (0, .ref h0)]) hx hb dX3_doTextCommand_17 rfl hl (by decide) rfl (fun ls hl => ?_)
  refine lv_aload_n hx hb dX3_doTextCommand_18 rfl (lv_at hl 2 rfl) ?_
  refine va_get (ci := 3) (v := .ref xt0) (C := RX3) (T := TX3) (N := 6) hx hb hts uX3_doTextCommand_X3 hown hK hP 0 rfl rfl 0 (by decide) (hts _ mX3_doTextCommand_10) (fun _ h9 => h9) rfl dX3_doTextCommand_19 ?_
  obtain ⟨r3, e3, h⟩ := zb h
  refine zV (As := []) (rest := []) (zQi_q _) ⟨hx, hb, hml, hown, hts⟩ (kX2_letter l g xt0 xt1 xt2 ch nu le ta lt e3) (cwV 0 hts gX3_doTextCommand_X2_letter rfl rfl rfl hdV_X2_letter ⟨Nat.le_of_ble_eq_true rfl, Nat.le_of_ble_eq_true rfl⟩) hK hP [1, 2, 3] rfl 1 rfl rfl rfl hl.1 rfl (Nat.le_of_ble_eq_true rfl) ⟨Nat.zero_le _, Nat.zero_le _⟩ dX3_doTextCommand_22 ?_
  by_cases c4 : r3 = 102
  · replace h := zt c4 h
    refine lv_lookup (tgt := 78) (off := 53) hx hb dX3_doTextCommand_25 (by decide) (by rw [c4]; decide) (by decide) ?_
    refine lv_iload_n hx hb dX3_doTextCommand_78 rfl (lv_at hl 1 rfl) ?_
    refine lv_iload_n hx hb dX3_doTextCommand_79 rfl (lv_at hl 0 rfl) ?_
    refine lv_aload_n hx hb dX3_doTextCommand_80 rfl (lv_at hl 2 rfl) ?_
    refine va_get (ci := 3) (v := .ref xd0) (C := RX3) (T := TX3) (N := 6) hx hb hts uX3_doTextCommand_X3 hown hK hP 0 rfl rfl 1 (by decide) (hts _ mX3_doTextCommand_19) (fun _ h9 => h9) rfl dX3_doTextCommand_81 ?_
    obtain ⟨r5, b5, qt5, dr5, e5, h⟩ := zb4 h
    refine zSw (As := [.int r1, .int r2, .ref xd0]) (rest := []) (zWi_q g _ _) ⟨hx, hb, hml, hown, hts⟩ (kX3_freeIfAllowed l g xd0 xd1 xd2 xd3 xd4 b pF pL st tm qt cm ds dr r1 r2 e5) (va_cwS 3 hts gX3_doTextCommand_X3_freeIfAllowed rfl rfl rfl hdS_X3_freeIfAllowed ⟨Nat.le_of_ble_eq_true rfl, Nat.le_of_ble_eq_true rfl⟩) hK hP hD hS hA [4, 5, 6, 7, 8] (by decide) rfl rfl rfl hl.1 rfl (Nat.le_of_ble_eq_true rfl) ⟨Nat.zero_le _, Nat.zero_le _⟩ dX3_doTextCommand_84 (fun H locs hP hD hS => ?_)
    replace hP : zP g (zI g h0 xt0 xt1 xt2 xd0 xd1 xd2 xd3 xd4 xc0 xc1 xc2 xc3 xc4 xp0 xp1 xs0 xu0 xe0 xe1 xe2 xe3 xe4 xf0 xf1 xf2 xf3 xf4 ad ch nu le ta lt b5 pF pL st tm qt5 cm ds dr5 bC pFC pLC stC tmC qtC cmC dsC drC ol pz dvs us bS pFS pLS stS tmS qtS cmS dsS drS bT pFT pLT stT tmT qtT cmT dsT drT) H := hP
    replace hD : va_D A (zI g h0 xt0 xt1 xt2 xd0 xd1 xd2 xd3 xd4 xc0 xc1 xc2 xc3 xc4 xp0 xp1 xs0 xu0 xe0 xe1 xe2 xe3 xe4 xf0 xf1 xf2 xf3 xf4 ad ch nu le ta lt b5 pF pL st tm qt5 cm ds dr5 bC pFC pLC stC tmC qtC cmC dsC drC ol pz dvs us bS pFS pLS stS tmS qtS cmS dsS drS bT pFT pLT stT tmT qtT cmT dsT drT) := hD
    obtain ⟨i6, h⟩ := zi h
    cases h
    exact zw_z hx hb hr hlocks (Decidable.of_not_not i6) hP hS dX3_doTextCommand_87
  replace h := zf c4 h
  by_cases c7 : r3 = 105
  · replace h := zt c7 h
    refine lv_lookup (tgt := 88) (off := 63) hx hb dX3_doTextCommand_25 (by decide) (by rw [c7]; decide) (by decide) ?_
    refine lv_aload_n hx hb dX3_doTextCommand_88 rfl (lv_at hl 2 rfl) ?_
    refine va_get (ci := 3) (v := .ref xd0) (C := RX3) (T := TX3) (N := 6) hx hb hts uX3_doTextCommand_X3 hown hK hP 0 rfl rfl 1 (by decide) (hts _ mX3_doTextCommand_19) (fun _ h9 => h9) rfl dX3_doTextCommand_89 ?_
    refine lv_iload_n hx hb dX3_doTextCommand_92 rfl (lv_at hl 1 rfl) ?_
    obtain ⟨r8, b8, tm8, qt8, cm8, ds8, dr8, e8, h⟩ := zb7 h
    refine zVw (As := [.int r1]) (rest := []) (zWi_q g _ _) ⟨hx, hb, hml, hown, hts⟩ (kX0_passTicks l g xd0 xd1 xd2 xd3 xd4 b pF pL st tm qt cm ds dr r1 e8) (cwV 1 hts gX3_doTextCommand_X0_passTicks rfl rfl rfl hdV_X0_passTicks ⟨Nat.le_of_ble_eq_true rfl, Nat.le_of_ble_eq_true rfl⟩) hK hP hD hS hA [4, 5, 6, 7, 8] (by decide) rfl rfl 4 rfl rfl rfl hl.1 rfl (Nat.le_of_ble_eq_true rfl) ⟨Nat.zero_le _, Nat.zero_le _⟩ dX3_doTextCommand_93 (fun H locs hP hD hS => ?_)
    replace hP : zP g (zI g h0 xt0 xt1 xt2 xd0 xd1 xd2 xd3 xd4 xc0 xc1 xc2 xc3 xc4 xp0 xp1 xs0 xu0 xe0 xe1 xe2 xe3 xe4 xf0 xf1 xf2 xf3 xf4 ad ch nu le ta lt b8 pF pL st tm8 qt8 cm8 ds8 dr8 bC pFC pLC stC tmC qtC cmC dsC drC ol pz dvs us bS pFS pLS stS tmS qtS cmS dsS drS bT pFT pLT stT tmT qtT cmT dsT drT) H := hP
    replace hD : va_D A (zI g h0 xt0 xt1 xt2 xd0 xd1 xd2 xd3 xd4 xc0 xc1 xc2 xc3 xc4 xp0 xp1 xs0 xu0 xe0 xe1 xe2 xe3 xe4 xf0 xf1 xf2 xf3 xf4 ad ch nu le ta lt b8 pF pL st tm8 qt8 cm8 ds8 dr8 bC pFC pLC stC tmC qtC cmC dsC drC ol pz dvs us bS pFS pLS stS tmS qtS cmS dsS drS bT pFT pLT stT tmT qtT cmT dsT drT) := hD
    refine lv_pop hx hb dX3_doTextCommand_96 rfl ?_
    refine lv_iconst (v := 1) hx hb dX3_doTextCommand_97 (by decide) ?_
    cases h
    exact zw_z hx hb hr hlocks (by decide) hP hS dX3_doTextCommand_98
  replace h := zf c7 h
  by_cases c9 : r3 = 112
  · replace h := zt c9 h
    refine lv_lookup (tgt := 99) (off := 74) hx hb dX3_doTextCommand_25 (by decide) (by rw [c9]; decide) (by decide) ?_
    refine lv_iload_n hx hb dX3_doTextCommand_99 rfl (lv_at hl 1 rfl) ?_
    refine lv_iload_n hx hb dX3_doTextCommand_100 rfl (lv_at hl 0 rfl) ?_
    refine lv_aload_n hx hb dX3_doTextCommand_101 rfl (lv_at hl 2 rfl) ?_
    refine va_get (ci := 3) (v := .ref xt0) (C := RX3) (T := TX3) (N := 6) hx hb hts uX3_doTextCommand_X3 hown hK hP 0 rfl rfl 0 (by decide) (hts _ mX3_doTextCommand_10) (fun _ h9 => h9) rfl dX3_doTextCommand_102 ?_
    refine lv_iconst (v := 2) hx hb dX3_doTextCommand_105 (by decide) ?_
    obtain ⟨r10, e10, h⟩ := zb h
    refine zV (As := [.int 2]) (rest := [.int r2, .int r1]) (zQi_q _) ⟨hx, hb, hml, hown, hts⟩ (kX2_number l g xt0 xt1 xt2 ch nu le ta lt 2 e10) (cwV 1 hts gX3_doTextCommand_X2_number rfl rfl rfl hdV_X2_number ⟨Nat.le_of_ble_eq_true rfl, Nat.le_of_ble_eq_true rfl⟩) hK hP [1, 2, 3] rfl 1 rfl rfl rfl hl.1 rfl (Nat.le_of_ble_eq_true rfl) ⟨Nat.zero_le _, Nat.zero_le _⟩ dX3_doTextCommand_106 ?_
    refine lv_aload_n hx hb dX3_doTextCommand_109 rfl (lv_at hl 2 rfl) ?_
    refine va_get (ci := 3) (v := .ref xd0) (C := RX3) (T := TX3) (N := 6) hx hb hts uX3_doTextCommand_X3 hown hK hP 0 rfl rfl 1 (by decide) (hts _ mX3_doTextCommand_19) (fun _ h9 => h9) rfl dX3_doTextCommand_110 ?_
    obtain ⟨r11, pF11, pL11, e11, h⟩ := zb3 h
    refine zSw (As := [.int r1, .int r2, .int r10, .ref xd0]) (rest := []) (zWi_q g _ _) ⟨hx, hb, hml, hown, hts⟩ (kX3_pinIfAllowed l g xd0 xd1 xd2 xd3 xd4 b pF pL st tm qt cm ds dr r1 r2 r10 e11) (va_cwS 4 hts gX3_doTextCommand_X3_pinIfAllowed rfl rfl rfl hdS_X3_pinIfAllowed ⟨Nat.le_of_ble_eq_true rfl, Nat.le_of_ble_eq_true rfl⟩) hK hP hD hS hA [4, 5, 6, 7, 8] (by decide) rfl rfl rfl hl.1 rfl (Nat.le_of_ble_eq_true rfl) ⟨Nat.zero_le _, Nat.zero_le _⟩ dX3_doTextCommand_113 (fun H locs hP hD hS => ?_)
    replace hP : zP g (zI g h0 xt0 xt1 xt2 xd0 xd1 xd2 xd3 xd4 xc0 xc1 xc2 xc3 xc4 xp0 xp1 xs0 xu0 xe0 xe1 xe2 xe3 xe4 xf0 xf1 xf2 xf3 xf4 ad ch nu le ta lt b pF11 pL11 st tm qt cm ds dr bC pFC pLC stC tmC qtC cmC dsC drC ol pz dvs us bS pFS pLS stS tmS qtS cmS dsS drS bT pFT pLT stT tmT qtT cmT dsT drT) H := hP
    replace hD : va_D A (zI g h0 xt0 xt1 xt2 xd0 xd1 xd2 xd3 xd4 xc0 xc1 xc2 xc3 xc4 xp0 xp1 xs0 xu0 xe0 xe1 xe2 xe3 xe4 xf0 xf1 xf2 xf3 xf4 ad ch nu le ta lt b pF11 pL11 st tm qt cm ds dr bC pFC pLC stC tmC qtC cmC dsC drC ol pz dvs us bS pFS pLS stS tmS qtS cmS dsS drS bT pFT pLT stT tmT qtT cmT dsT drT) := hD
    obtain ⟨i12, h⟩ := zi h
    cases h
    exact zw_z hx hb hr hlocks (Decidable.of_not_not i12) hP hS dX3_doTextCommand_116
  replace h := zf c9 h
  by_cases c13 : r3 = 119
  · replace h := zt c13 h
    refine lv_lookup (tgt := 68) (off := 43) hx hb dX3_doTextCommand_25 (by decide) (by rw [c13]; decide) (by decide) ?_
    refine lv_iload_n hx hb dX3_doTextCommand_68 rfl (lv_at hl 1 rfl) ?_
    refine lv_iload_n hx hb dX3_doTextCommand_69 rfl (lv_at hl 0 rfl) ?_
    refine lv_aload_n hx hb dX3_doTextCommand_70 rfl (lv_at hl 2 rfl) ?_
    refine va_get (ci := 3) (v := .ref xd0) (C := RX3) (T := TX3) (N := 6) hx hb hts uX3_doTextCommand_X3 hown hK hP 0 rfl rfl 1 (by decide) (hts _ mX3_doTextCommand_19) (fun _ h9 => h9) rfl dX3_doTextCommand_71 ?_
    obtain ⟨r14, b14, qt14, dr14, e14, h⟩ := zb4 h
    refine zSw (As := [.int r1, .int r2, .ref xd0]) (rest := []) (zWi_q g _ _) ⟨hx, hb, hml, hown, hts⟩ (kX3_writeIfAllowed l g xd0 xd1 xd2 xd3 xd4 b pF pL st tm qt cm ds dr r1 r2 e14) (va_cwS 3 hts gX3_doTextCommand_X3_writeIfAllowed rfl rfl rfl hdS_X3_writeIfAllowed ⟨Nat.le_of_ble_eq_true rfl, Nat.le_of_ble_eq_true rfl⟩) hK hP hD hS hA [4, 5, 6, 7, 8] (by decide) rfl rfl rfl hl.1 rfl (Nat.le_of_ble_eq_true rfl) ⟨Nat.zero_le _, Nat.zero_le _⟩ dX3_doTextCommand_74 (fun H locs hP hD hS => ?_)
    replace hP : zP g (zI g h0 xt0 xt1 xt2 xd0 xd1 xd2 xd3 xd4 xc0 xc1 xc2 xc3 xc4 xp0 xp1 xs0 xu0 xe0 xe1 xe2 xe3 xe4 xf0 xf1 xf2 xf3 xf4 ad ch nu le ta lt b14 pF pL st tm qt14 cm ds dr14 bC pFC pLC stC tmC qtC cmC dsC drC ol pz dvs us bS pFS pLS stS tmS qtS cmS dsS drS bT pFT pLT stT tmT qtT cmT dsT drT) H := hP
    replace hD : va_D A (zI g h0 xt0 xt1 xt2 xd0 xd1 xd2 xd3 xd4 xc0 xc1 xc2 xc3 xc4 xp0 xp1 xs0 xu0 xe0 xe1 xe2 xe3 xe4 xf0 xf1 xf2 xf3 xf4 ad ch nu le ta lt b14 pF pL st tm qt14 cm ds dr14 bC pFC pLC stC tmC qtC cmC dsC drC ol pz dvs us bS pFS pLS stS tmS qtS cmS dsS drS bT pFT pLT stT tmT qtT cmT dsT drT) := hD
    obtain ⟨i15, h⟩ := zi h
    cases h
    exact zw_z hx hb hr hlocks (Decidable.of_not_not i15) hP hS dX3_doTextCommand_77
  replace h := zf c13 h
  refine lv_lookup (tgt := 117) (off := 92) hx hb dX3_doTextCommand_25 (by decide) (by show Op.lookupswitch.offset [(102, 53), (105, 63), (112, 74), (119, 43)] 92 _ = _; rw [lv_osw c4 (a := 102) (by decide), lv_osw c7 (a := 105) (by decide), lv_osw c9 (a := 112) (by decide), lv_osw c13 (a := 119) (by decide)]; rfl) (by decide) ?_
  refine lv_iload_n hx hb dX3_doTextCommand_117 rfl (lv_at hl 1 rfl) ?_
  refine lv_iload_n hx hb dX3_doTextCommand_118 rfl (lv_at hl 0 rfl) ?_
  refine lv_aload_n hx hb dX3_doTextCommand_119 rfl (lv_at hl 2 rfl) ?_
  refine va_get (ci := 3) (v := .ref xd0) (C := RX3) (T := TX3) (N := 6) hx hb hts uX3_doTextCommand_X3 hown hK hP 0 rfl rfl 1 (by decide) (hts _ mX3_doTextCommand_19) (fun _ h9 => h9) rfl dX3_doTextCommand_120 ?_
  obtain ⟨r16, st16, e16, h⟩ := zb2 h
  refine zSa (As := [.int r1, .int r2, .ref xd0]) (rest := []) (zWi_q g _ _) ⟨hx, hb, hml, hown, hts⟩ (kX3_setIfAllowed l g xd0 xd1 xd2 xd3 xd4 b pF pL st tm qt cm ds dr r1 r2 e16) (va_cwS 3 hts gX3_doTextCommand_X3_setIfAllowed rfl rfl rfl hdS_X3_setIfAllowed ⟨Nat.le_of_ble_eq_true rfl, Nat.le_of_ble_eq_true rfl⟩) hK hP hD hS hA hAm [4, 5, 6, 7, 8] (by decide) rfl rfl rfl hl.1 rfl (Nat.le_of_ble_eq_true rfl) ⟨Nat.zero_le _, Nat.zero_le _⟩ dX3_doTextCommand_123 (fun H locs hP hD hS => ?_)
  replace hP : zP g (zI g h0 xt0 xt1 xt2 xd0 xd1 xd2 xd3 xd4 xc0 xc1 xc2 xc3 xc4 xp0 xp1 xs0 xu0 xe0 xe1 xe2 xe3 xe4 xf0 xf1 xf2 xf3 xf4 ad ch nu le ta lt b pF pL st16 tm qt cm ds dr bC pFC pLC stC tmC qtC cmC dsC drC ol pz dvs us bS pFS pLS stS tmS qtS cmS dsS drS bT pFT pLT stT tmT qtT cmT dsT drT) H := hP
  replace hD : va_D A (zI g h0 xt0 xt1 xt2 xd0 xd1 xd2 xd3 xd4 xc0 xc1 xc2 xc3 xc4 xp0 xp1 xs0 xu0 xe0 xe1 xe2 xe3 xe4 xf0 xf1 xf2 xf3 xf4 ad ch nu le ta lt b pF pL st16 tm qt cm ds dr bC pFC pLC stC tmC qtC cmC dsC drC ol pz dvs us bS pFS pLS stS tmS qtS cmS dsS drS bT pFT pLT stT tmT qtT cmT dsT drT) := hD
  obtain ⟨i17, h⟩ := zi h
  cases h
  exact zw_z hx hb hr hlocks (Decidable.of_not_not i17) hP hS dX3_doTextCommand_126
theorem hdV_X0_makeNew : yX0_makeNew.cls = RX0 ∧ yX0_makeNew.cls ≠ "java/lang/invoke/MethodHandle" ∧ yX0_makeNew.cls ≠ "java/lang/invoke/VarHandle" ∧ (parseMethodDescriptor yX0_makeNew.desc).map (fun d => d.parameters.length) = some 0 := by decide +kernel
theorem hdV_X1_forget : yX1_forget.cls = RX1 ∧ yX1_forget.cls ≠ "java/lang/invoke/MethodHandle" ∧ yX1_forget.cls ≠ "java/lang/invoke/VarHandle" ∧ (parseMethodDescriptor yX1_forget.desc).map (fun d => d.parameters.length) = some 0 := by decide +kernel
theorem hdV_X2_beginCommands : yX2_beginCommands.cls = RX2 ∧ yX2_beginCommands.cls ≠ "java/lang/invoke/MethodHandle" ∧ yX2_beginCommands.cls ≠ "java/lang/invoke/VarHandle" ∧ (parseMethodDescriptor yX2_beginCommands.desc).map (fun d => d.parameters.length) = some 0 := by decide +kernel
theorem hdV_X2_firstError : yX2_firstError.cls = RX2 ∧ yX2_firstError.cls ≠ "java/lang/invoke/MethodHandle" ∧ yX2_firstError.cls ≠ "java/lang/invoke/VarHandle" ∧ (parseMethodDescriptor yX2_firstError.desc).map (fun d => d.parameters.length) = some 0 := by decide +kernel
theorem hdV_X3_doTextCommand : yX3_doTextCommand.cls = RX3 ∧ yX3_doTextCommand.cls ≠ "java/lang/invoke/MethodHandle" ∧ yX3_doTextCommand.cls ≠ "java/lang/invoke/VarHandle" ∧ (parseMethodDescriptor yX3_doTextCommand.desc).map (fun d => d.parameters.length) = some 0 := by decide +kernel
def fX3_load_66 (ch : Nat → Int32) (le : Int32) : Nat → Int32 → Int32 → (Nat → Int32) → (Int32) → (Int32) → (Nat → Int32) → (Nat → Int32) → (Nat → Int32) → (Nat → Int32) → (Int32) → (Int32) → (Int32) → (Int32) → (Int32) → (Int32) → (Nat → Int32) → Option (Int32 × Int32 × (Nat → Int32) × (Int32) × (Int32) × (Nat → Int32) × (Nat → Int32) × (Nat → Int32) × (Nat → Int32) × (Int32) × (Int32) × (Int32) × (Int32) × (Int32) × (Int32) × (Nat → Int32))
  | 0, _, _, _, _, _, _, _, _, _, _, _, _, _, _, _, _ => none
  | n + 1, v1, v2, nu, ta, lt, b, pF, pL, st, tm, qt, cm, ds, dr, pz, us =>
    if 120 ≤ v2 then
        some (0, v1, nu, ta, lt, b, pF, pL, st, tm, qt, cm, ds, dr, pz, us)
      else
        ob4 (fX2_readCommand ch nu le ta lt) fun r2 nu2 ta2 lt2 =>
        if r2 = 0 then
          some (0, v1, nu2, ta2, lt2, b, pF, pL, st, tm, qt, cm, ds, dr, pz, us)
        else
          ob10 (fX3_doTextCommand nu2 lt2 b pF pL st tm qt cm ds dr) fun r4 b4 pF4 pL4 st4 tm4 qt4 cm4 ds4 dr4 =>
          if r4 = 0 then
            fX3_load_66 ch le n (v1 + 1) (v2 + 1) nu2 ta2 lt2 b4 pF4 pL4 st4 tm4 qt4 cm4 ds4 dr4 pz us
          else
            fX3_load_66 ch le n v1 (v2 + 1) nu2 ta2 lt2 b4 pF4 pL4 st4 tm4 qt4 cm4 ds4 dr4 pz us
def fX3_load_37 (ch : Nat → Int32) (le : Int32) : Nat → Int32 → (Nat → Int32) → (Int32) → (Int32) → (Nat → Int32) → (Nat → Int32) → (Nat → Int32) → (Nat → Int32) → (Int32) → (Int32) → (Int32) → (Int32) → (Int32) → (Int32) → (Nat → Int32) → Option (Int32 × Int32 × (Nat → Int32) × (Int32) × (Int32) × (Nat → Int32) × (Nat → Int32) × (Nat → Int32) × (Nat → Int32) × (Int32) × (Int32) × (Int32) × (Int32) × (Int32) × (Int32) × (Nat → Int32))
  | 0, _, _, _, _, _, _, _, _, _, _, _, _, _, _, _ => none
  | n + 1, v1, nu, ta, lt, b, pF, pL, st, tm, qt, cm, ds, dr, pz, us =>
    if 2 ≤ v1 then
        ob (fX2_beginCommands) fun ta7 =>
        fX3_load_66 ch le 1000 0 0 nu ta7 lt b pF pL st tm qt cm ds dr pz us
      else
        if v1 < 0 ∨ 2 ≤ v1.toNatClampNeg then none else
        fX3_load_37 ch le n (v1 + 1) nu ta lt b pF pL st tm qt cm ds dr pz (upd us v1.toNatClampNeg (vp_nar .boolean 0))
def fX3_load (ch : Nat → Int32) (nu : Nat → Int32) (le : Int32) (ta : Int32) (lt : Int32) (b : Nat → Int32) (pF : Nat → Int32) (pL : Nat → Int32) (st : Nat → Int32) (tm : Int32) (qt : Int32) (cm : Int32) (ds : Int32) (dr : Int32) (pz : Int32) (us : Nat → Int32) : Option (Int32 × Int32 × (Nat → Int32) × (Int32) × (Int32) × (Nat → Int32) × (Nat → Int32) × (Nat → Int32) × (Nat → Int32) × (Int32) × (Int32) × (Int32) × (Int32) × (Int32) × (Int32) × (Nat → Int32)) :=
  ob4 (fX2_firstError ch nu le ta lt) fun r9 nu9 ta9 lt9 =>
  if r9 = (-1) then
    ob9 (fX0_makeNew b pF pL st) fun b11 pF11 pL11 st11 tm11 qt11 cm11 ds11 dr11 =>
    ob (fX1_forget) fun pz12 =>
    fX3_load_37 ch le 1000 0 nu9 ta9 lt9 b11 pF11 pL11 st11 tm11 qt11 cm11 ds11 dr11 pz12 us
  else
    some (3, 0, nu9, ta9, lt9, b, pF, pL, st, tm, qt, cm, ds, dr, pz, us)
theorem mX3_load_10 : Cond.fieldLink RX3 10 "IdleDiscards" "text" "LIdleDiscards$Text;" ∈ wsX3_load := by decide +kernel
theorem uX3_load_X3 : ∀ w ∈ wsX30, w ∈ wsX3_load := by decide +kernel
theorem mX3_load_37 : Cond.fieldLink RX3 37 "IdleDiscards" "slotUsed" "[Z" ∈ wsX3_load := by decide +kernel
theorem mX3_load_19 : Cond.fieldLink RX3 19 "IdleDiscards" "device" "LIdleDiscards$Device;" ∈ wsX3_load := by decide +kernel
theorem mX3_load_29 : Cond.fieldLink RX3 29 "IdleDiscards" "past" "LIdleDiscards$Past;" ∈ wsX3_load := by decide +kernel
theorem mX3_load_k52 : Cond.classLink RX3 52 (zE 3) ∈ wsX3_load := by decide +kernel
theorem mX3_load_j52 : Cond.initialized (zE 3) ∈ wsX3_load := by decide +kernel
theorem mX3_load_a52 : ∀ w ∈ (vx_atS RX3 56 (zE 3) ["java/lang/RuntimeException", "java/lang/Exception"]).filter goodWord, w ∈ wsX3_load := by decide +kernel
set_option maxRecDepth 100000 in
set_option maxHeartbeats 4000000 in
theorem kX3_load (l : Launch) (g : zG) (h0 xt0 xt1 xt2 xd0 xd1 xd2 xd3 xd4 xc0 xc1 xc2 xc3 xc4 xp0 xp1 xs0 xu0 xe0 xe1 xe2 xe3 xe4 xf0 xf1 xf2 xf3 xf4 : Nat) (ad : Nat → Nat → Nat) (ch : Nat → Int32) (nu : Nat → Int32) (le : Int32) (ta : Int32) (lt : Int32) (b : Nat → Int32) (pF : Nat → Int32) (pL : Nat → Int32) (st : Nat → Int32) (tm : Int32) (qt : Int32) (cm : Int32) (ds : Int32) (dr : Int32) (bC : Nat → Int32) (pFC : Nat → Int32) (pLC : Nat → Int32) (stC : Nat → Int32) (tmC : Int32) (qtC : Int32) (cmC : Int32) (dsC : Int32) (drC : Int32) (ol : Int32) (pz : Int32) (dvs : Nat → zDv) (us : Nat → Int32) (bS : Nat → Int32) (pFS : Nat → Int32) (pLS : Nat → Int32) (stS : Nat → Int32) (tmS : Int32) (qtS : Int32) (cmS : Int32) (dsS : Int32) (drS : Int32) (bT : Nat → Int32) (pFT : Nat → Int32) (pLT : Nat → Int32) (stT : Nat → Int32) (tmT : Int32) (qtT : Int32) (cmT : Int32) (dsT : Int32) (drT : Int32) (htr : l.stackTraces = false) {k : Int32} {r : Int32} {nu' : Nat → Int32} {ta' : Int32} {lt' : Int32} {b' : Nat → Int32} {pF' : Nat → Int32} {pL' : Nat → Int32} {st' : Nat → Int32} {tm' : Int32} {qt' : Int32} {cm' : Int32} {ds' : Int32} {dr' : Int32} {pz' : Int32} {us' : Nat → Int32} (h : fX3_load ch nu le ta lt b pF pL st tm qt cm ds dr pz us = some (k, r, nu', ta', lt', b', pF', pL', st', tm', qt', cm', ds', dr', pz', us')) : Mx l g yX3_load wsX3_load { frames := 6, cells := 1, slots := 6, locals := 145 } [.ref h0] (zI g h0 xt0 xt1 xt2 xd0 xd1 xd2 xd3 xd4 xc0 xc1 xc2 xc3 xc4 xp0 xp1 xs0 xu0 xe0 xe1 xe2 xe3 xe4 xf0 xf1 xf2 xf3 xf4 ad ch nu le ta lt b pF pL st tm qt cm ds dr bC pFC pLC stC tmC qtC cmC dsC drC ol pz dvs us bS pFS pLS stS tmS qtS cmS dsS drS bT pFT pLT stT tmT qtT cmT dsT drT) (zXi g (zI g h0 xt0 xt1 xt2 xd0 xd1 xd2 xd3 xd4 xc0 xc1 xc2 xc3 xc4 xp0 xp1 xs0 xu0 xe0 xe1 xe2 xe3 xe4 xf0 xf1 xf2 xf3 xf4 ad ch nu' le ta' lt' b' pF' pL' st' tm' qt' cm' ds' dr' bC pFC pLC stC tmC qtC cmC dsC drC ol pz' dvs us' bS pFS pLS stS tmS qtS cmS dsS drS bT pFT pLT stT tmT qtT cmT dsT drT) k r) (zXx g (zI g h0 xt0 xt1 xt2 xd0 xd1 xd2 xd3 xd4 xc0 xc1 xc2 xc3 xc4 xp0 xp1 xs0 xu0 xe0 xe1 xe2 xe3 xe4 xf0 xf1 xf2 xf3 xf4 ad ch nu' le ta' lt' b' pF' pL' st' tm' qt' cm' ds' dr' bC pFC pLC stC tmC qtC cmC dsC drC ol pz' dvs us' bS pFS pLS stS tmS qtS cmS dsS drS bT pFT pLT stT tmT qtT cmT dsT drT) k) 1 6 := by
  refine zx_in (cc := cX3_load) (maxL := 3) (ret := (some .int)) (by decide) rfl (Nat.le_of_ble_eq_true rfl) ?_
  intro p e s m below meth c hx hb hr hml hts hown hlocks hK ht A hA hP hD hS hAm ls hl
  replace hl : lv_has ls 3 [(0, .ref h0)] := hl
  have loop_66 : ∀ (n : Nat) (v1 : Int32) (v2 : Int32) (nu : (Nat → Int32)) (ta : (Int32)) (lt : (Int32)) (b : (Nat → Int32)) (pF : (Nat → Int32)) (pL : (Nat → Int32)) (st : (Nat → Int32)) (tm : (Int32)) (qt : (Int32)) (cm : (Int32)) (ds : (Int32)) (dr : (Int32)) (pz : (Int32)) (us : (Nat → Int32)), fX3_load_66 ch le n v1 v2 nu ta lt b pF pL st tm qt cm ds dr pz us = some (k, r, nu', ta', lt', b', pF', pL', st', tm', qt', cm', ds', dr', pz', us') → ∀ (H : Heap) (locs : List Loc), zP g (zI g h0 xt0 xt1 xt2 xd0 xd1 xd2 xd3 xd4 xc0 xc1 xc2 xc3 xc4 xp0 xp1 xs0 xu0 xe0 xe1 xe2 xe3 xe4 xf0 xf1 xf2 xf3 xf4 ad ch nu le ta lt b pF pL st tm qt cm ds dr bC pFC pLC stC tmC qtC cmC dsC drC ol pz dvs us bS pFS pLS stS tmS qtS cmS dsS drS bT pFT pLT stT tmT qtT cmT dsT drT) H → va_D A (zI g h0 xt0 xt1 xt2 xd0 xd1 xd2 xd3 xd4 xc0 xc1 xc2 xc3 xc4 xp0 xp1 xs0 xu0 xe0 xe1 xe2 xe3 xe4 xf0 xf1 xf2 xf3 xf4 ad ch nu le ta lt b pF pL st tm qt cm ds dr bC pFC pLC stC tmC qtC cmC dsC drC ol pz dvs us bS pFS pLS stS tmS qtS cmS dsS drS bT pFT pLT stT tmT qtT cmT dsT drT) → va_S A s.heap H locs → ∀ (ls : Array Slot), lv_has ls 3 [(0, .ref h0), (1, .int v1), (2, .int v2)] → W p l e ({ frames := 6, cells := 1, slots := 6, locals := 145 } : Room) s m [.ref h0].toArray below meth c H locs 0 0 (vx_MQ below (zXi g (zI g h0 xt0 xt1 xt2 xd0 xd1 xd2 xd3 xd4 xc0 xc1 xc2 xc3 xc4 xp0 xp1 xs0 xu0 xe0 xe1 xe2 xe3 xe4 xf0 xf1 xf2 xf3 xf4 ad ch nu' le ta' lt' b' pF' pL' st' tm' qt' cm' ds' dr' bC pFC pLC stC tmC qtC cmC dsC drC ol pz' dvs us' bS pFS pLS stS tmS qtS cmS dsS drS bT pFT pLT stT tmT qtT cmT dsT drT) k r A) (zXx g (zI g h0 xt0 xt1 xt2 xd0 xd1 xd2 xd3 xd4 xc0 xc1 xc2 xc3 xc4 xp0 xp1 xs0 xu0 xe0 xe1 xe2 xe3 xe4 xf0 xf1 xf2 xf3 xf4 ad ch nu' le ta' lt' b' pF' pL' st' tm' qt' cm' ds' dr' bC pFC pLC stC tmC qtC cmC dsC drC ol pz' dvs us' bS pFS pLS stS tmS qtS cmS dsS drS bT pFT pLT stT tmT qtT cmT dsT drT) k A) [.ref h0].toArray s 1 6 A) (F0 m 66 ls []) := by
    intro n
    induction n with
    | zero => intro v1 v2 nu ta lt b pF pL st tm qt cm ds dr pz us h H locs hP hD hS ls hl; exact zn h
    | succ n ih =>
      intro v1 v2 nu ta lt b pF pL st tm qt cm ds dr pz us h H locs hP hD hS ls hl
      rw [fX3_load_66] at h
      refine lv_iload_n hx hb dX3_load_66 rfl (lv_at hl 2 rfl) ?_
      refine lv_bipush (v := 120) hx hb dX3_load_67 (by decide) ?_
      refine lv_icmp_ge (tgt := 98) hx hb dX3_load_69 (by decide) (fun c1 => ?_) (fun c1 => ?_)
      · replace h := zt c1 h
        refine lv_iload_n hx hb dX3_load_98 rfl (lv_at hl 1 rfl) ?_
        cases h
        exact zx_i hx hb hr hlocks hP hS (by decide) (by decide) dX3_load_99
      · replace h := zf c1 h
        refine lv_aload_n hx hb dX3_load_72 rfl (lv_at hl 0 rfl) ?_
        refine va_get (ci := 3) (v := .ref xt0) (C := RX3) (T := TX3) (N := 6) hx hb hts uX3_load_X3 hown hK hP 0 rfl rfl 0 (by decide) (hts _ mX3_load_10) (fun _ h9 => h9) rfl dX3_load_73 ?_
        obtain ⟨r2, nu2, ta2, lt2, e2, h⟩ := zb4 h
        refine zVw (As := []) (rest := []) (zWi_q g _ _) ⟨hx, hb, hml, hown, hts⟩ (kX2_readCommand l g xt0 xt1 xt2 ch nu le ta lt e2) (cwV 0 hts gX3_load_X2_readCommand rfl rfl rfl hdV_X2_readCommand ⟨Nat.le_of_ble_eq_true rfl, Nat.le_of_ble_eq_true rfl⟩) hK hP hD hS hA [1, 2, 3] (by decide) rfl rfl 1 rfl rfl rfl hl.1 rfl (Nat.le_of_ble_eq_true rfl) ⟨Nat.le_of_ble_eq_true rfl, Nat.le_of_ble_eq_true rfl⟩ dX3_load_76 (fun H locs hP hD hS => ?_)
        replace hP : zP g (zI g h0 xt0 xt1 xt2 xd0 xd1 xd2 xd3 xd4 xc0 xc1 xc2 xc3 xc4 xp0 xp1 xs0 xu0 xe0 xe1 xe2 xe3 xe4 xf0 xf1 xf2 xf3 xf4 ad ch nu2 le ta2 lt2 b pF pL st tm qt cm ds dr bC pFC pLC stC tmC qtC cmC dsC drC ol pz dvs us bS pFS pLS stS tmS qtS cmS dsS drS bT pFT pLT stT tmT qtT cmT dsT drT) H := hP
        replace hD : va_D A (zI g h0 xt0 xt1 xt2 xd0 xd1 xd2 xd3 xd4 xc0 xc1 xc2 xc3 xc4 xp0 xp1 xs0 xu0 xe0 xe1 xe2 xe3 xe4 xf0 xf1 xf2 xf3 xf4 ad ch nu2 le ta2 lt2 b pF pL st tm qt cm ds dr bC pFC pLC stC tmC qtC cmC dsC drC ol pz dvs us bS pFS pLS stS tmS qtS cmS dsS drS bT pFT pLT stT tmT qtT cmT dsT drT) := hD
        refine lv_if_eq (tgt := 98) hx hb dX3_load_79 (by decide) (fun c3 => ?_) (fun c3 => ?_)
        · replace h := zt c3 h
          refine lv_iload_n hx hb dX3_load_98 rfl (lv_at hl 1 rfl) ?_
          cases h
          exact zx_i hx hb hr hlocks hP hS (by decide) (by decide) dX3_load_99
        · replace h := zf c3 h
          refine lv_aload_n hx hb dX3_load_82 rfl (lv_at hl 0 rfl) ?_
          obtain ⟨r4, b4, pF4, pL4, st4, tm4, qt4, cm4, ds4, dr4, e4, h⟩ := zb10 h
          refine zVaA (As := []) (rest := []) (zWi_q g _ _) ⟨hx, hb, hml, hown, hts⟩ (kX3_doTextCommand l g h0 xt0 xt1 xt2 xd0 xd1 xd2 xd3 xd4 xc0 xc1 xc2 xc3 xc4 xp0 xp1 xs0 xu0 xe0 xe1 xe2 xe3 xe4 xf0 xf1 xf2 xf3 xf4 ad ch nu2 le ta2 lt2 b pF pL st tm qt cm ds dr bC pFC pLC stC tmC qtC cmC dsC drC ol pz dvs us bS pFS pLS stS tmS qtS cmS dsS drS bT pFT pLT stT tmT qtT cmT dsT drT e4) (cwV 0 hts gX3_load_X3_doTextCommand rfl rfl rfl hdV_X3_doTextCommand ⟨Nat.le_of_ble_eq_true rfl, Nat.le_of_ble_eq_true rfl⟩) hK hP hD hS hA hAm (by rfl) 0 rfl rfl rfl hl.1 rfl (Nat.le_of_ble_eq_true rfl) ⟨Nat.le_of_ble_eq_true rfl, Nat.le_of_ble_eq_true rfl⟩ dX3_load_83 (fun H locs hP hD hS => ?_)
          replace hP : zP g (zI g h0 xt0 xt1 xt2 xd0 xd1 xd2 xd3 xd4 xc0 xc1 xc2 xc3 xc4 xp0 xp1 xs0 xu0 xe0 xe1 xe2 xe3 xe4 xf0 xf1 xf2 xf3 xf4 ad ch nu2 le ta2 lt2 b4 pF4 pL4 st4 tm4 qt4 cm4 ds4 dr4 bC pFC pLC stC tmC qtC cmC dsC drC ol pz dvs us bS pFS pLS stS tmS qtS cmS dsS drS bT pFT pLT stT tmT qtT cmT dsT drT) H := hP
          replace hD : va_D A (zI g h0 xt0 xt1 xt2 xd0 xd1 xd2 xd3 xd4 xc0 xc1 xc2 xc3 xc4 xp0 xp1 xs0 xu0 xe0 xe1 xe2 xe3 xe4 xf0 xf1 xf2 xf3 xf4 ad ch nu2 le ta2 lt2 b4 pF4 pL4 st4 tm4 qt4 cm4 ds4 dr4 bC pFC pLC stC tmC qtC cmC dsC drC ol pz dvs us bS pFS pLS stS tmS qtS cmS dsS drS bT pFT pLT stT tmT qtT cmT dsT drT) := hD
          refine lv_if_ne (tgt := 92) hx hb dX3_load_86 (by decide) (fun c5 => ?_) (fun c5 => ?_)
          · replace h := zf c5 h
            refine lv_iinc (v := (v2 + 1)) (lv' := [(2, .int (v2 + 1)), (0, .ref h0), (1, .int v1)]) hx hb dX3_load_92 hl (k := 2) rfl rfl (by decide) rfl (fun ls hl => ?_)
            refine lv_goto (tgt := 66) hx hb dX3_load_95 (by decide) ?_
            exact ih v1 (v2 + 1) nu2 ta2 lt2 b4 pF4 pL4 st4 tm4 qt4 cm4 ds4 dr4 pz us h H locs hP hD hS ls (lv_sub hl [1, 2, 0] rfl)
          · replace h := zt c5 h
            refine lv_iinc (v := (v1 + 1)) (lv' := [(1, .int (v1 + 1)), (0, .ref h0), (2, .int v2)]) hx hb dX3_load_89 hl (k := 1) rfl rfl (by decide) rfl (fun ls hl => ?_)
            refine lv_iinc (v := (v2 + 1)) (lv' := [(2, .int (v2 + 1)), (1, .int (v1 + 1)), (0, .ref h0)]) hx hb dX3_load_92 hl (k := 2) rfl rfl (by decide) rfl (fun ls hl => ?_)
            refine lv_goto (tgt := 66) hx hb dX3_load_95 (by decide) ?_
            exact ih (v1 + 1) (v2 + 1) nu2 ta2 lt2 b4 pF4 pL4 st4 tm4 qt4 cm4 ds4 dr4 pz us h H locs hP hD hS ls (lv_sub hl [2, 1, 0] rfl)
  have loop_37 : ∀ (n : Nat) (v1 : Int32) (nu : (Nat → Int32)) (ta : (Int32)) (lt : (Int32)) (b : (Nat → Int32)) (pF : (Nat → Int32)) (pL : (Nat → Int32)) (st : (Nat → Int32)) (tm : (Int32)) (qt : (Int32)) (cm : (Int32)) (ds : (Int32)) (dr : (Int32)) (pz : (Int32)) (us : (Nat → Int32)), fX3_load_37 ch le n v1 nu ta lt b pF pL st tm qt cm ds dr pz us = some (k, r, nu', ta', lt', b', pF', pL', st', tm', qt', cm', ds', dr', pz', us') → ∀ (H : Heap) (locs : List Loc), zP g (zI g h0 xt0 xt1 xt2 xd0 xd1 xd2 xd3 xd4 xc0 xc1 xc2 xc3 xc4 xp0 xp1 xs0 xu0 xe0 xe1 xe2 xe3 xe4 xf0 xf1 xf2 xf3 xf4 ad ch nu le ta lt b pF pL st tm qt cm ds dr bC pFC pLC stC tmC qtC cmC dsC drC ol pz dvs us bS pFS pLS stS tmS qtS cmS dsS drS bT pFT pLT stT tmT qtT cmT dsT drT) H → va_D A (zI g h0 xt0 xt1 xt2 xd0 xd1 xd2 xd3 xd4 xc0 xc1 xc2 xc3 xc4 xp0 xp1 xs0 xu0 xe0 xe1 xe2 xe3 xe4 xf0 xf1 xf2 xf3 xf4 ad ch nu le ta lt b pF pL st tm qt cm ds dr bC pFC pLC stC tmC qtC cmC dsC drC ol pz dvs us bS pFS pLS stS tmS qtS cmS dsS drS bT pFT pLT stT tmT qtT cmT dsT drT) → va_S A s.heap H locs → ∀ (ls : Array Slot), lv_has ls 3 [(0, .ref h0), (1, .int v1)] → W p l e ({ frames := 6, cells := 1, slots := 6, locals := 145 } : Room) s m [.ref h0].toArray below meth c H locs 0 0 (vx_MQ below (zXi g (zI g h0 xt0 xt1 xt2 xd0 xd1 xd2 xd3 xd4 xc0 xc1 xc2 xc3 xc4 xp0 xp1 xs0 xu0 xe0 xe1 xe2 xe3 xe4 xf0 xf1 xf2 xf3 xf4 ad ch nu' le ta' lt' b' pF' pL' st' tm' qt' cm' ds' dr' bC pFC pLC stC tmC qtC cmC dsC drC ol pz' dvs us' bS pFS pLS stS tmS qtS cmS dsS drS bT pFT pLT stT tmT qtT cmT dsT drT) k r A) (zXx g (zI g h0 xt0 xt1 xt2 xd0 xd1 xd2 xd3 xd4 xc0 xc1 xc2 xc3 xc4 xp0 xp1 xs0 xu0 xe0 xe1 xe2 xe3 xe4 xf0 xf1 xf2 xf3 xf4 ad ch nu' le ta' lt' b' pF' pL' st' tm' qt' cm' ds' dr' bC pFC pLC stC tmC qtC cmC dsC drC ol pz' dvs us' bS pFS pLS stS tmS qtS cmS dsS drS bT pFT pLT stT tmT qtT cmT dsT drT) k A) [.ref h0].toArray s 1 6 A) (F0 m 37 ls []) := by
    intro n
    induction n with
    | zero => intro v1 nu ta lt b pF pL st tm qt cm ds dr pz us h H locs hP hD hS ls hl; exact zn h
    | succ n ih =>
      intro v1 nu ta lt b pF pL st tm qt cm ds dr pz us h H locs hP hD hS ls hl
      rw [fX3_load_37] at h
      refine lv_iload_n hx hb dX3_load_37 rfl (lv_at hl 1 rfl) ?_
      refine lv_iconst (v := 2) hx hb dX3_load_38 (by decide) ?_
      refine lv_icmp_ge (tgt := 55) hx hb dX3_load_39 (by decide) (fun c6 => ?_) (fun c6 => ?_)
      · replace h := zt c6 h
        refine lv_aload_n hx hb dX3_load_55 rfl (lv_at hl 0 rfl) ?_
        refine va_get (ci := 3) (v := .ref xt0) (C := RX3) (T := TX3) (N := 6) hx hb hts uX3_load_X3 hown hK hP 0 rfl rfl 0 (by decide) (hts _ mX3_load_10) (fun _ h9 => h9) rfl dX3_load_56 ?_
        obtain ⟨ta7, e7, h⟩ := zb h
        refine zVw (As := []) (rest := []) (zWv_q g _) ⟨hx, hb, hml, hown, hts⟩ (kX2_beginCommands l g xt0 xt1 xt2 ch nu le ta lt e7) (cwV 0 hts gX3_load_X2_beginCommands rfl rfl rfl hdV_X2_beginCommands ⟨Nat.le_of_ble_eq_true rfl, Nat.le_of_ble_eq_true rfl⟩) hK hP hD hS hA [1, 2, 3] (by decide) rfl rfl 1 rfl rfl rfl hl.1 rfl (Nat.le_of_ble_eq_true rfl) ⟨Nat.le_of_ble_eq_true rfl, Nat.le_of_ble_eq_true rfl⟩ dX3_load_59 (fun H locs hP hD hS => ?_)
        replace hP : zP g (zI g h0 xt0 xt1 xt2 xd0 xd1 xd2 xd3 xd4 xc0 xc1 xc2 xc3 xc4 xp0 xp1 xs0 xu0 xe0 xe1 xe2 xe3 xe4 xf0 xf1 xf2 xf3 xf4 ad ch nu le ta7 lt b pF pL st tm qt cm ds dr bC pFC pLC stC tmC qtC cmC dsC drC ol pz dvs us bS pFS pLS stS tmS qtS cmS dsS drS bT pFT pLT stT tmT qtT cmT dsT drT) H := hP
        replace hD : va_D A (zI g h0 xt0 xt1 xt2 xd0 xd1 xd2 xd3 xd4 xc0 xc1 xc2 xc3 xc4 xp0 xp1 xs0 xu0 xe0 xe1 xe2 xe3 xe4 xf0 xf1 xf2 xf3 xf4 ad ch nu le ta7 lt b pF pL st tm qt cm ds dr bC pFC pLC stC tmC qtC cmC dsC drC ol pz dvs us bS pFS pLS stS tmS qtS cmS dsS drS bT pFT pLT stT tmT qtT cmT dsT drT) := hD
        refine lv_iconst (v := 0) hx hb dX3_load_62 (by decide) ?_
        refine lv_istore_n (lv' := [(1, .int 0), (0, .ref h0)]) hx hb dX3_load_63 rfl hl (by decide) rfl (fun ls hl => ?_)
        refine lv_iconst (v := 0) hx hb dX3_load_64 (by decide) ?_
        refine lv_istore_n (lv' := [(2, .int 0), (1, .int 0), (0, .ref h0)]) hx hb dX3_load_65 rfl hl (by decide) rfl (fun ls hl => ?_)
        exact loop_66 1000 0 0 nu ta7 lt b pF pL st tm qt cm ds dr pz us h H locs hP hD hS ls (lv_sub hl [2, 1, 0] rfl)
      · replace h := zf c6 h
        refine lv_aload_n hx hb dX3_load_42 rfl (lv_at hl 0 rfl) ?_
        refine va_get (ci := 3) (v := .ref xu0) (C := RX3) (T := TX3) (N := 6) hx hb hts uX3_load_X3 hown hK hP 0 rfl rfl 5 (by decide) (hts _ mX3_load_37) (fun _ h9 => h9) rfl dX3_load_43 ?_
        refine lv_iload_n hx hb dX3_load_46 rfl (lv_at hl 1 rfl) ?_
        refine lv_iconst (v := 0) hx hb dX3_load_47 (by decide) ?_
        obtain ⟨i8, h⟩ := zi h
        refine za_zst hx hb hK hP hD hS 17 rfl _ rfl i8 dX3_load_48 (fun H locs hP hD hS => ?_)
        replace hP : zP g (zI g h0 xt0 xt1 xt2 xd0 xd1 xd2 xd3 xd4 xc0 xc1 xc2 xc3 xc4 xp0 xp1 xs0 xu0 xe0 xe1 xe2 xe3 xe4 xf0 xf1 xf2 xf3 xf4 ad ch nu le ta lt b pF pL st tm qt cm ds dr bC pFC pLC stC tmC qtC cmC dsC drC ol pz dvs (upd us v1.toNatClampNeg (vp_nar .boolean 0)) bS pFS pLS stS tmS qtS cmS dsS drS bT pFT pLT stT tmT qtT cmT dsT drT) H := hP
        replace hD : va_D A (zI g h0 xt0 xt1 xt2 xd0 xd1 xd2 xd3 xd4 xc0 xc1 xc2 xc3 xc4 xp0 xp1 xs0 xu0 xe0 xe1 xe2 xe3 xe4 xf0 xf1 xf2 xf3 xf4 ad ch nu le ta lt b pF pL st tm qt cm ds dr bC pFC pLC stC tmC qtC cmC dsC drC ol pz dvs (upd us v1.toNatClampNeg (vp_nar .boolean 0)) bS pFS pLS stS tmS qtS cmS dsS drS bT pFT pLT stT tmT qtT cmT dsT drT) := hD
        refine lv_iinc (v := (v1 + 1)) (lv' := [(1, .int (v1 + 1)), (0, .ref h0)]) hx hb dX3_load_49 hl (k := 1) rfl rfl (by decide) rfl (fun ls hl => ?_)
        refine lv_goto (tgt := 37) hx hb dX3_load_52 (by decide) ?_
        exact ih (v1 + 1) nu ta lt b pF pL st tm qt cm ds dr pz (upd us v1.toNatClampNeg (vp_nar .boolean 0)) h H locs hP hD hS ls (lv_sub hl [1, 0] rfl)
  unfold fX3_load at h
  refine lv_aload_n hx hb dX3_load_0 rfl (lv_at hl 0 rfl) ?_
  refine va_get (ci := 3) (v := .ref xt0) (C := RX3) (T := TX3) (N := 6) hx hb hts uX3_load_X3 hown hK hP 0 rfl rfl 0 (by decide) (hts _ mX3_load_10) (fun _ h9 => h9) rfl dX3_load_1 ?_
  obtain ⟨r9, nu9, ta9, lt9, e9, h⟩ := zb4 h
  refine zVw (As := []) (rest := []) (zWi_q g _ _) ⟨hx, hb, hml, hown, hts⟩ (kX2_firstError l g xt0 xt1 xt2 ch nu le ta lt e9) (cwV 0 hts gX3_load_X2_firstError rfl rfl rfl hdV_X2_firstError ⟨Nat.le_of_ble_eq_true rfl, Nat.le_of_ble_eq_true rfl⟩) hK hP hD hS hA [1, 2, 3] (by decide) rfl rfl 1 rfl rfl rfl hl.1 rfl (Nat.le_of_ble_eq_true rfl) ⟨Nat.le_of_ble_eq_true rfl, Nat.le_of_ble_eq_true rfl⟩ dX3_load_4 (fun H locs hP hD hS => ?_)
  replace hP : zP g (zI g h0 xt0 xt1 xt2 xd0 xd1 xd2 xd3 xd4 xc0 xc1 xc2 xc3 xc4 xp0 xp1 xs0 xu0 xe0 xe1 xe2 xe3 xe4 xf0 xf1 xf2 xf3 xf4 ad ch nu9 le ta9 lt9 b pF pL st tm qt cm ds dr bC pFC pLC stC tmC qtC cmC dsC drC ol pz dvs us bS pFS pLS stS tmS qtS cmS dsS drS bT pFT pLT stT tmT qtT cmT dsT drT) H := hP
  replace hD : va_D A (zI g h0 xt0 xt1 xt2 xd0 xd1 xd2 xd3 xd4 xc0 xc1 xc2 xc3 xc4 xp0 xp1 xs0 xu0 xe0 xe1 xe2 xe3 xe4 xf0 xf1 xf2 xf3 xf4 ad ch nu9 le ta9 lt9 b pF pL st tm qt cm ds dr bC pFC pLC stC tmC qtC cmC dsC drC ol pz dvs us bS pFS pLS stS tmS qtS cmS dsS drS bT pFT pLT stT tmT qtT cmT dsT drT) := hD
  refine lv_iconst (v := (-1)) hx hb dX3_load_7 (by decide) ?_
  refine lv_icmp_eq (tgt := 21) hx hb dX3_load_8 (by decide) (fun c10 => ?_) (fun c10 => ?_)
  · replace h := zt c10 h
    refine lv_aload_n hx hb dX3_load_21 rfl (lv_at hl 0 rfl) ?_
    refine va_get (ci := 3) (v := .ref xd0) (C := RX3) (T := TX3) (N := 6) hx hb hts uX3_load_X3 hown hK hP 0 rfl rfl 1 (by decide) (hts _ mX3_load_19) (fun _ h9 => h9) rfl dX3_load_22 ?_
    obtain ⟨b11, pF11, pL11, st11, tm11, qt11, cm11, ds11, dr11, e11, h⟩ := zb9 h
    refine zVa (As := []) (rest := []) (zWv_q g _) ⟨hx, hb, hml, hown, hts⟩ (kX0_makeNew l g xd0 xd1 xd2 xd3 xd4 b pF pL st tm qt cm ds dr e11) (cwV 0 hts gX3_load_X0_makeNew rfl rfl rfl hdV_X0_makeNew ⟨Nat.le_of_ble_eq_true rfl, Nat.le_of_ble_eq_true rfl⟩) hK hP hD hS hA hAm [4, 5, 6, 7, 8] (by decide) rfl rfl 4 rfl rfl rfl hl.1 rfl (Nat.le_of_ble_eq_true rfl) ⟨Nat.le_of_ble_eq_true rfl, Nat.le_of_ble_eq_true rfl⟩ dX3_load_25 (fun H locs hP hD hS => ?_)
    replace hP : zP g (zI g h0 xt0 xt1 xt2 xd0 xd1 xd2 xd3 xd4 xc0 xc1 xc2 xc3 xc4 xp0 xp1 xs0 xu0 xe0 xe1 xe2 xe3 xe4 xf0 xf1 xf2 xf3 xf4 ad ch nu9 le ta9 lt9 b11 pF11 pL11 st11 tm11 qt11 cm11 ds11 dr11 bC pFC pLC stC tmC qtC cmC dsC drC ol pz dvs us bS pFS pLS stS tmS qtS cmS dsS drS bT pFT pLT stT tmT qtT cmT dsT drT) H := hP
    replace hD : va_D A (zI g h0 xt0 xt1 xt2 xd0 xd1 xd2 xd3 xd4 xc0 xc1 xc2 xc3 xc4 xp0 xp1 xs0 xu0 xe0 xe1 xe2 xe3 xe4 xf0 xf1 xf2 xf3 xf4 ad ch nu9 le ta9 lt9 b11 pF11 pL11 st11 tm11 qt11 cm11 ds11 dr11 bC pFC pLC stC tmC qtC cmC dsC drC ol pz dvs us bS pFS pLS stS tmS qtS cmS dsS drS bT pFT pLT stT tmT qtT cmT dsT drT) := hD
    refine lv_aload_n hx hb dX3_load_28 rfl (lv_at hl 0 rfl) ?_
    refine va_get (ci := 3) (v := .ref xp0) (C := RX3) (T := TX3) (N := 6) hx hb hts uX3_load_X3 hown hK hP 0 rfl rfl 3 (by decide) (hts _ mX3_load_29) (fun _ h9 => h9) rfl dX3_load_29 ?_
    obtain ⟨pz12, e12, h⟩ := zb h
    refine zVw (As := []) (rest := []) (zWv_q g _) ⟨hx, hb, hml, hown, hts⟩ (kX1_forget l g xp0 (.ref xp1) ol pz e12) (cwV 0 hts gX3_load_X1_forget rfl rfl rfl hdV_X1_forget ⟨Nat.le_of_ble_eq_true rfl, Nat.le_of_ble_eq_true rfl⟩) hK hP hD hS hA [14] (by decide) rfl rfl 14 rfl rfl rfl hl.1 rfl (Nat.le_of_ble_eq_true rfl) ⟨Nat.le_of_ble_eq_true rfl, Nat.le_of_ble_eq_true rfl⟩ dX3_load_32 (fun H locs hP hD hS => ?_)
    replace hP : zP g (zI g h0 xt0 xt1 xt2 xd0 xd1 xd2 xd3 xd4 xc0 xc1 xc2 xc3 xc4 xp0 xp1 xs0 xu0 xe0 xe1 xe2 xe3 xe4 xf0 xf1 xf2 xf3 xf4 ad ch nu9 le ta9 lt9 b11 pF11 pL11 st11 tm11 qt11 cm11 ds11 dr11 bC pFC pLC stC tmC qtC cmC dsC drC ol pz12 dvs us bS pFS pLS stS tmS qtS cmS dsS drS bT pFT pLT stT tmT qtT cmT dsT drT) H := hP
    replace hD : va_D A (zI g h0 xt0 xt1 xt2 xd0 xd1 xd2 xd3 xd4 xc0 xc1 xc2 xc3 xc4 xp0 xp1 xs0 xu0 xe0 xe1 xe2 xe3 xe4 xf0 xf1 xf2 xf3 xf4 ad ch nu9 le ta9 lt9 b11 pF11 pL11 st11 tm11 qt11 cm11 ds11 dr11 bC pFC pLC stC tmC qtC cmC dsC drC ol pz12 dvs us bS pFS pLS stS tmS qtS cmS dsS drS bT pFT pLT stT tmT qtT cmT dsT drT) := hD
    refine lv_iconst (v := 0) hx hb dX3_load_35 (by decide) ?_
    refine lv_istore_n (lv' := [(1, .int 0), (0, .ref h0)]) hx hb dX3_load_36 rfl hl (by decide) rfl (fun ls hl => ?_)
    exact loop_37 1000 0 nu9 ta9 lt9 b11 pF11 pL11 st11 tm11 qt11 cm11 ds11 dr11 pz12 us h H locs hP hD hS ls (lv_sub hl [1, 0] rfl)
  · replace h := zf c10 h
    cases h
    exact zx_throw (text := "the text is not a log") hx hb htr hown hts (by decide) zEx_3 mX3_load_k52 mX3_load_j52 mX3_load_a52 zEb_3 zEg_3_52 zEf_3 zEn (by decide +kernel) hAm hP hS (hl.1.trans hml.symm) dX3_load_11 dX3_load_14 dX3_load_15 dX3_load_17 dX3_load_20 ht (Nat.le_of_ble_eq_true rfl) (Nat.le_of_ble_eq_true rfl) (Nat.le_of_ble_eq_true rfl) (Nat.le_of_ble_eq_true rfl) hlocks (by decide) (by decide)
theorem hdV_X2_add : yX2_add.cls = RX2 ∧ yX2_add.cls ≠ "java/lang/invoke/MethodHandle" ∧ yX2_add.cls ≠ "java/lang/invoke/VarHandle" ∧ (parseMethodDescriptor yX2_add.desc).map (fun d => d.parameters.length) = some 1 := by decide +kernel
theorem hdV_X2_isFull : yX2_isFull.cls = RX2 ∧ yX2_isFull.cls ≠ "java/lang/invoke/MethodHandle" ∧ yX2_isFull.cls ≠ "java/lang/invoke/VarHandle" ∧ (parseMethodDescriptor yX2_isFull.desc).map (fun d => d.parameters.length) = some 0 := by decide +kernel
def fX3_append (ch : Nat → Int32) (le : Int32) (a1 : Int32) : Option (Int32 × Int32 × (Nat → Int32) × (Int32)) :=
  if a1 < 0 then
    some (2, 0, ch, le)
  else
    if a1 ≤ 255 then
      ob (fX2_isFull le) fun r3 =>
      if r3 = 0 then
        ob3 (fX2_add ch le ((a1.toUInt32 % 65536).toInt32)) fun r5 ch5 le5 =>
        some (0, r5, ch5, le5)
      else
        some (3, 0, ch, le)
    else
      some (2, 0, ch, le)
theorem mX3_append_k41 : Cond.classLink RX3 41 (zE 2) ∈ wsX3_append := by decide +kernel
theorem mX3_append_j41 : Cond.initialized (zE 2) ∈ wsX3_append := by decide +kernel
theorem mX3_append_a41 : ∀ w ∈ (vx_atS RX3 45 (zE 2) ["java/lang/RuntimeException", "java/lang/Exception"]).filter goodWord, w ∈ wsX3_append := by decide +kernel
theorem mX3_append_10 : Cond.fieldLink RX3 10 "IdleDiscards" "text" "LIdleDiscards$Text;" ∈ wsX3_append := by decide +kernel
theorem uX3_append_X3 : ∀ w ∈ wsX30, w ∈ wsX3_append := by decide +kernel
theorem mX3_append_k52 : Cond.classLink RX3 52 (zE 3) ∈ wsX3_append := by decide +kernel
theorem mX3_append_j52 : Cond.initialized (zE 3) ∈ wsX3_append := by decide +kernel
theorem mX3_append_a52 : ∀ w ∈ (vx_atS RX3 56 (zE 3) ["java/lang/RuntimeException", "java/lang/Exception"]).filter goodWord, w ∈ wsX3_append := by decide +kernel
set_option maxRecDepth 100000 in
set_option maxHeartbeats 4000000 in
theorem kX3_append (l : Launch) (g : zG) (h0 xt0 xt1 xt2 xd0 xd1 xd2 xd3 xd4 xc0 xc1 xc2 xc3 xc4 xp0 xp1 xs0 xu0 xe0 xe1 xe2 xe3 xe4 xf0 xf1 xf2 xf3 xf4 : Nat) (ad : Nat → Nat → Nat) (ch : Nat → Int32) (nu : Nat → Int32) (le : Int32) (ta : Int32) (lt : Int32) (b : Nat → Int32) (pF : Nat → Int32) (pL : Nat → Int32) (st : Nat → Int32) (tm : Int32) (qt : Int32) (cm : Int32) (ds : Int32) (dr : Int32) (bC : Nat → Int32) (pFC : Nat → Int32) (pLC : Nat → Int32) (stC : Nat → Int32) (tmC : Int32) (qtC : Int32) (cmC : Int32) (dsC : Int32) (drC : Int32) (ol : Int32) (pz : Int32) (dvs : Nat → zDv) (us : Nat → Int32) (bS : Nat → Int32) (pFS : Nat → Int32) (pLS : Nat → Int32) (stS : Nat → Int32) (tmS : Int32) (qtS : Int32) (cmS : Int32) (dsS : Int32) (drS : Int32) (bT : Nat → Int32) (pFT : Nat → Int32) (pLT : Nat → Int32) (stT : Nat → Int32) (tmT : Int32) (qtT : Int32) (cmT : Int32) (dsT : Int32) (drT : Int32) (a1 : Int32) (htr : l.stackTraces = false) {k : Int32} {r : Int32} {ch' : Nat → Int32} {le' : Int32} (h : fX3_append ch le a1 = some (k, r, ch', le')) : Mx l g yX3_append wsX3_append { frames := 6, cells := 1, slots := 6, locals := 82 } [.ref h0, .int a1] (zI g h0 xt0 xt1 xt2 xd0 xd1 xd2 xd3 xd4 xc0 xc1 xc2 xc3 xc4 xp0 xp1 xs0 xu0 xe0 xe1 xe2 xe3 xe4 xf0 xf1 xf2 xf3 xf4 ad ch nu le ta lt b pF pL st tm qt cm ds dr bC pFC pLC stC tmC qtC cmC dsC drC ol pz dvs us bS pFS pLS stS tmS qtS cmS dsS drS bT pFT pLT stT tmT qtT cmT dsT drT) (zXi g (zI g h0 xt0 xt1 xt2 xd0 xd1 xd2 xd3 xd4 xc0 xc1 xc2 xc3 xc4 xp0 xp1 xs0 xu0 xe0 xe1 xe2 xe3 xe4 xf0 xf1 xf2 xf3 xf4 ad ch' nu le' ta lt b pF pL st tm qt cm ds dr bC pFC pLC stC tmC qtC cmC dsC drC ol pz dvs us bS pFS pLS stS tmS qtS cmS dsS drS bT pFT pLT stT tmT qtT cmT dsT drT) k r) (zXx g (zI g h0 xt0 xt1 xt2 xd0 xd1 xd2 xd3 xd4 xc0 xc1 xc2 xc3 xc4 xp0 xp1 xs0 xu0 xe0 xe1 xe2 xe3 xe4 xf0 xf1 xf2 xf3 xf4 ad ch' nu le' ta lt b pF pL st tm qt cm ds dr bC pFC pLC stC tmC qtC cmC dsC drC ol pz dvs us bS pFS pLS stS tmS qtS cmS dsS drS bT pFT pLT stT tmT qtT cmT dsT drT) k) 1 6 := by
  refine zx_in (cc := cX3_append) (maxL := 2) (ret := (some .int)) (by decide) rfl (Nat.le_of_ble_eq_true rfl) ?_
  intro p e s m below meth c hx hb hr hml hts hown hlocks hK ht A hA hP hD hS hAm ls hl
  replace hl : lv_has ls 2 [(0, .ref h0), (1, .int a1)] := hl
  unfold fX3_append at h
  refine lv_iload_n hx hb dX3_append_0 rfl (lv_at hl 1 rfl) ?_
  refine lv_if_lt (tgt := 11) hx hb dX3_append_1 (by decide) (fun c1 => ?_) (fun c1 => ?_)
  · replace h := zt c1 h
    cases h
    exact zx_throw (text := "no such character") hx hb htr hown hts (by decide) zEx_2 mX3_append_k41 mX3_append_j41 mX3_append_a41 zEb_2 zEg_2_41 zEf_2 zEn (by decide +kernel) hAm hP hS (hl.1.trans hml.symm) dX3_append_11 dX3_append_14 dX3_append_15 dX3_append_17 dX3_append_20 ht (Nat.le_of_ble_eq_true rfl) (Nat.le_of_ble_eq_true rfl) (Nat.le_of_ble_eq_true rfl) (Nat.le_of_ble_eq_true rfl) hlocks (by decide) (by decide)
  · replace h := zf c1 h
    refine lv_iload_n hx hb dX3_append_4 rfl (lv_at hl 1 rfl) ?_
    refine lv_sipush (v := 255) hx hb dX3_append_5 (by decide) ?_
    refine lv_icmp_le (tgt := 21) hx hb dX3_append_8 (by decide) (fun c2 => ?_) (fun c2 => ?_)
    · replace h := zt c2 h
      refine lv_aload_n hx hb dX3_append_21 rfl (lv_at hl 0 rfl) ?_
      refine va_get (ci := 3) (v := .ref xt0) (C := RX3) (T := TX3) (N := 6) hx hb hts uX3_append_X3 hown hK hP 0 rfl rfl 0 (by decide) (hts _ mX3_append_10) (fun _ h9 => h9) rfl dX3_append_22 ?_
      obtain ⟨r3, e3, h⟩ := zb h
      refine zV (As := []) (rest := []) (zQi_q _) ⟨hx, hb, hml, hown, hts⟩ (kX2_isFull l g xt0 xt1 xt2 ch nu le ta lt e3) (cwV 0 hts gX3_append_X2_isFull rfl rfl rfl hdV_X2_isFull ⟨Nat.le_of_ble_eq_true rfl, Nat.le_of_ble_eq_true rfl⟩) hK hP [1, 2, 3] rfl 1 rfl rfl rfl hl.1 rfl (Nat.le_of_ble_eq_true rfl) ⟨Nat.le_of_ble_eq_true rfl, Nat.le_of_ble_eq_true rfl⟩ dX3_append_25 ?_
      refine lv_if_eq (tgt := 41) hx hb dX3_append_28 (by decide) (fun c4 => ?_) (fun c4 => ?_)
      · replace h := zt c4 h
        refine lv_aload_n hx hb dX3_append_41 rfl (lv_at hl 0 rfl) ?_
        refine va_get (ci := 3) (v := .ref xt0) (C := RX3) (T := TX3) (N := 6) hx hb hts uX3_append_X3 hown hK hP 0 rfl rfl 0 (by decide) (hts _ mX3_append_10) (fun _ h9 => h9) rfl dX3_append_42 ?_
        refine lv_iload_n hx hb dX3_append_45 rfl (lv_at hl 1 rfl) ?_
        refine lv_i2c (v := (a1.toUInt32 % 65536).toInt32) hx hb dX3_append_46 rfl ?_
        obtain ⟨r5, ch5, le5, e5, h⟩ := zb3 h
        refine zVw (As := [.int ((a1.toUInt32 % 65536).toInt32)]) (rest := []) (zWi_q g _ _) ⟨hx, hb, hml, hown, hts⟩ (kX2_add l g xt0 xt1 xt2 ch nu le ta lt ((a1.toUInt32 % 65536).toInt32) e5) (cwV 1 hts gX3_append_X2_add rfl rfl rfl hdV_X2_add ⟨Nat.le_of_ble_eq_true rfl, Nat.le_of_ble_eq_true rfl⟩) hK hP hD hS hA [1, 2, 3] (by decide) rfl rfl 1 rfl rfl rfl hl.1 rfl (Nat.le_of_ble_eq_true rfl) ⟨Nat.le_of_ble_eq_true rfl, Nat.le_of_ble_eq_true rfl⟩ dX3_append_47 (fun H locs hP hD hS => ?_)
        replace hP : zP g (zI g h0 xt0 xt1 xt2 xd0 xd1 xd2 xd3 xd4 xc0 xc1 xc2 xc3 xc4 xp0 xp1 xs0 xu0 xe0 xe1 xe2 xe3 xe4 xf0 xf1 xf2 xf3 xf4 ad ch5 nu le5 ta lt b pF pL st tm qt cm ds dr bC pFC pLC stC tmC qtC cmC dsC drC ol pz dvs us bS pFS pLS stS tmS qtS cmS dsS drS bT pFT pLT stT tmT qtT cmT dsT drT) H := hP
        replace hD : va_D A (zI g h0 xt0 xt1 xt2 xd0 xd1 xd2 xd3 xd4 xc0 xc1 xc2 xc3 xc4 xp0 xp1 xs0 xu0 xe0 xe1 xe2 xe3 xe4 xf0 xf1 xf2 xf3 xf4 ad ch5 nu le5 ta lt b pF pL st tm qt cm ds dr bC pFC pLC stC tmC qtC cmC dsC drC ol pz dvs us bS pFS pLS stS tmS qtS cmS dsS drS bT pFT pLT stT tmT qtT cmT dsT drT) := hD
        cases h
        exact zx_i hx hb hr hlocks hP hS (by decide) (by decide) dX3_append_50
      · replace h := zf c4 h
        cases h
        exact zx_throw (text := "the text is full") hx hb htr hown hts (by decide) zEx_3 mX3_append_k52 mX3_append_j52 mX3_append_a52 zEb_3 zEg_3_52 zEf_3 zEn (by decide +kernel) hAm hP hS (hl.1.trans hml.symm) dX3_append_31 dX3_append_34 dX3_append_35 dX3_append_37 dX3_append_40 ht (Nat.le_of_ble_eq_true rfl) (Nat.le_of_ble_eq_true rfl) (Nat.le_of_ble_eq_true rfl) (Nat.le_of_ble_eq_true rfl) hlocks (by decide) (by decide)
    · replace h := zf c2 h
      cases h
      exact zx_throw (text := "no such character") hx hb htr hown hts (by decide) zEx_2 mX3_append_k41 mX3_append_j41 mX3_append_a41 zEb_2 zEg_2_41 zEf_2 zEn (by decide +kernel) hAm hP hS (hl.1.trans hml.symm) dX3_append_11 dX3_append_14 dX3_append_15 dX3_append_17 dX3_append_20 ht (Nat.le_of_ble_eq_true rfl) (Nat.le_of_ble_eq_true rfl) (Nat.le_of_ble_eq_true rfl) (Nat.le_of_ble_eq_true rfl) hlocks (by decide) (by decide)
theorem hdV_X0_commands : yX0_commands.cls = RX0 ∧ yX0_commands.cls ≠ "java/lang/invoke/MethodHandle" ∧ yX0_commands.cls ≠ "java/lang/invoke/VarHandle" ∧ (parseMethodDescriptor yX0_commands.desc).map (fun d => d.parameters.length) = some 0 := by decide +kernel
theorem hdV_X0_count : yX0_count.cls = RX0 ∧ yX0_count.cls ≠ "java/lang/invoke/MethodHandle" ∧ yX0_count.cls ≠ "java/lang/invoke/VarHandle" ∧ (parseMethodDescriptor yX0_count.desc).map (fun d => d.parameters.length) = some 1 := by decide +kernel
theorem hdV_X0_countPinned : yX0_countPinned.cls = RX0 ∧ yX0_countPinned.cls ≠ "java/lang/invoke/MethodHandle" ∧ yX0_countPinned.cls ≠ "java/lang/invoke/VarHandle" ∧ (parseMethodDescriptor yX0_countPinned.desc).map (fun d => d.parameters.length) = some 0 := by decide +kernel
theorem hdV_X0_countQueued : yX0_countQueued.cls = RX0 ∧ yX0_countQueued.cls ≠ "java/lang/invoke/MethodHandle" ∧ yX0_countQueued.cls ≠ "java/lang/invoke/VarHandle" ∧ (parseMethodDescriptor yX0_countQueued.desc).map (fun d => d.parameters.length) = some 0 := by decide +kernel
theorem hdV_X0_countRanges : yX0_countRanges.cls = RX0 ∧ yX0_countRanges.cls ≠ "java/lang/invoke/MethodHandle" ∧ yX0_countRanges.cls ≠ "java/lang/invoke/VarHandle" ∧ (parseMethodDescriptor yX0_countRanges.desc).map (fun d => d.parameters.length) = some 0 := by decide +kernel
theorem hdV_X0_discarded : yX0_discarded.cls = RX0 ∧ yX0_discarded.cls ≠ "java/lang/invoke/MethodHandle" ∧ yX0_discarded.cls ≠ "java/lang/invoke/VarHandle" ∧ (parseMethodDescriptor yX0_discarded.desc).map (fun d => d.parameters.length) = some 0 := by decide +kernel
theorem hdV_X0_dropped : yX0_dropped.cls = RX0 ∧ yX0_dropped.cls ≠ "java/lang/invoke/MethodHandle" ∧ yX0_dropped.cls ≠ "java/lang/invoke/VarHandle" ∧ (parseMethodDescriptor yX0_dropped.desc).map (fun d => d.parameters.length) = some 0 := by decide +kernel
theorem hdV_X0_quietTicks : yX0_quietTicks.cls = RX0 ∧ yX0_quietTicks.cls ≠ "java/lang/invoke/MethodHandle" ∧ yX0_quietTicks.cls ≠ "java/lang/invoke/VarHandle" ∧ (parseMethodDescriptor yX0_quietTicks.desc).map (fun d => d.parameters.length) = some 0 := by decide +kernel
theorem hdV_X0_time : yX0_time.cls = RX0 ∧ yX0_time.cls ≠ "java/lang/invoke/MethodHandle" ∧ yX0_time.cls ≠ "java/lang/invoke/VarHandle" ∧ (parseMethodDescriptor yX0_time.desc).map (fun d => d.parameters.length) = some 0 := by decide +kernel
def fX3_about (b : Nat → Int32) (pF : Nat → Int32) (pL : Nat → Int32) (tm : Int32) (qt : Int32) (cm : Int32) (ds : Int32) (dr : Int32) (a1 : Int32) : Option (Int32 × Int32) :=
  if a1 = 0 then
    ob (fX0_count b (-2)) fun r2 =>
    some (0, r2)
  else if a1 = 1 then
    ob (fX0_count b (-1)) fun r4 =>
    some (0, (256 - r4))
  else if a1 = 2 then
    ob (fX0_countRanges b) fun r6 =>
    some (0, r6)
  else if a1 = 3 then
    ob (fX0_countQueued b) fun r8 =>
    some (0, r8)
  else if a1 = 4 then
    ob (fX0_time tm) fun r10 =>
    some (0, r10)
  else if a1 = 5 then
    ob (fX0_quietTicks qt) fun r12 =>
    some (0, r12)
  else if a1 = 6 then
    ob (fX0_commands cm) fun r14 =>
    some (0, r14)
  else if a1 = 7 then
    ob (fX0_discarded ds) fun r16 =>
    some (0, r16)
  else if a1 = 8 then
    ob (fX0_dropped dr) fun r18 =>
    some (0, r18)
  else if a1 = 9 then
    ob (fX0_countPinned pF pL) fun r20 =>
    some (0, r20)
  else if a1 = 10 then
    ob (fX0_count b (-3)) fun r22 =>
    some (0, r22)
  else some (2, 0)
theorem mX3_about_19 : Cond.fieldLink RX3 19 "IdleDiscards" "device" "LIdleDiscards$Device;" ∈ wsX3_about := by decide +kernel
theorem uX3_about_X3 : ∀ w ∈ wsX30, w ∈ wsX3_about := by decide +kernel
theorem mX3_about_k41 : Cond.classLink RX3 41 (zE 2) ∈ wsX3_about := by decide +kernel
theorem mX3_about_j41 : Cond.initialized (zE 2) ∈ wsX3_about := by decide +kernel
theorem mX3_about_a41 : ∀ w ∈ (vx_atS RX3 45 (zE 2) ["java/lang/RuntimeException", "java/lang/Exception"]).filter goodWord, w ∈ wsX3_about := by decide +kernel
set_option maxRecDepth 100000 in
set_option maxHeartbeats 4000000 in
theorem kX3_about (l : Launch) (g : zG) (h0 xt0 xt1 xt2 xd0 xd1 xd2 xd3 xd4 xc0 xc1 xc2 xc3 xc4 xp0 xp1 xs0 xu0 xe0 xe1 xe2 xe3 xe4 xf0 xf1 xf2 xf3 xf4 : Nat) (ad : Nat → Nat → Nat) (ch : Nat → Int32) (nu : Nat → Int32) (le : Int32) (ta : Int32) (lt : Int32) (b : Nat → Int32) (pF : Nat → Int32) (pL : Nat → Int32) (st : Nat → Int32) (tm : Int32) (qt : Int32) (cm : Int32) (ds : Int32) (dr : Int32) (bC : Nat → Int32) (pFC : Nat → Int32) (pLC : Nat → Int32) (stC : Nat → Int32) (tmC : Int32) (qtC : Int32) (cmC : Int32) (dsC : Int32) (drC : Int32) (ol : Int32) (pz : Int32) (dvs : Nat → zDv) (us : Nat → Int32) (bS : Nat → Int32) (pFS : Nat → Int32) (pLS : Nat → Int32) (stS : Nat → Int32) (tmS : Int32) (qtS : Int32) (cmS : Int32) (dsS : Int32) (drS : Int32) (bT : Nat → Int32) (pFT : Nat → Int32) (pLT : Nat → Int32) (stT : Nat → Int32) (tmT : Int32) (qtT : Int32) (cmT : Int32) (dsT : Int32) (drT : Int32) (a1 : Int32) (htr : l.stackTraces = false) {k : Int32} {r : Int32} (h : fX3_about b pF pL tm qt cm ds dr a1 = some (k, r)) : Mx l g yX3_about wsX3_about { frames := 6, cells := 1, slots := 6, locals := 82 } [.ref h0, .int a1] (zI g h0 xt0 xt1 xt2 xd0 xd1 xd2 xd3 xd4 xc0 xc1 xc2 xc3 xc4 xp0 xp1 xs0 xu0 xe0 xe1 xe2 xe3 xe4 xf0 xf1 xf2 xf3 xf4 ad ch nu le ta lt b pF pL st tm qt cm ds dr bC pFC pLC stC tmC qtC cmC dsC drC ol pz dvs us bS pFS pLS stS tmS qtS cmS dsS drS bT pFT pLT stT tmT qtT cmT dsT drT) (zXi g (zI g h0 xt0 xt1 xt2 xd0 xd1 xd2 xd3 xd4 xc0 xc1 xc2 xc3 xc4 xp0 xp1 xs0 xu0 xe0 xe1 xe2 xe3 xe4 xf0 xf1 xf2 xf3 xf4 ad ch nu le ta lt b pF pL st tm qt cm ds dr bC pFC pLC stC tmC qtC cmC dsC drC ol pz dvs us bS pFS pLS stS tmS qtS cmS dsS drS bT pFT pLT stT tmT qtT cmT dsT drT) k r) (zXx g (zI g h0 xt0 xt1 xt2 xd0 xd1 xd2 xd3 xd4 xc0 xc1 xc2 xc3 xc4 xp0 xp1 xs0 xu0 xe0 xe1 xe2 xe3 xe4 xf0 xf1 xf2 xf3 xf4 ad ch nu le ta lt b pF pL st tm qt cm ds dr bC pFC pLC stC tmC qtC cmC dsC drC ol pz dvs us bS pFS pLS stS tmS qtS cmS dsS drS bT pFT pLT stT tmT qtT cmT dsT drT) k) 1 6 := by
  refine zx_in (cc := cX3_about) (maxL := 2) (ret := (some .int)) (by decide) rfl (Nat.le_of_ble_eq_true rfl) ?_
  intro p e s m below meth c hx hb hr hml hts hown hlocks hK ht A hA hP hD hS hAm ls hl
  replace hl : lv_has ls 2 [(0, .ref h0), (1, .int a1)] := hl
  unfold fX3_about at h
  refine lv_iload_n hx hb dX3_about_0 rfl (lv_at hl 1 rfl) ?_
  by_cases c1 : a1 = 0
  · replace h := zt c1 h
    refine lv_tableIn (tgt := 60) (off := 59) hx hb dX3_about_1 (by rw [c1]; decide) (by rw [c1]; decide) (by rw [c1]; rfl) (by decide) ?_
    refine lv_aload_n hx hb dX3_about_60 rfl (lv_at hl 0 rfl) ?_
    refine va_get (ci := 3) (v := .ref xd0) (C := RX3) (T := TX3) (N := 6) hx hb hts uX3_about_X3 hown hK hP 0 rfl rfl 1 (by decide) (hts _ mX3_about_19) (fun _ h9 => h9) rfl dX3_about_61 ?_
    refine lv_bipush (v := (-2)) hx hb dX3_about_64 (by decide) ?_
    obtain ⟨r2, e2, h⟩ := zb h
    refine zV (As := [.int (-2)]) (rest := []) (zQi_q _) ⟨hx, hb, hml, hown, hts⟩ (kX0_count l g xd0 xd1 xd2 xd3 xd4 b pF pL st tm qt cm ds dr (-2) e2) (cwV 1 hts gX3_about_X0_count rfl rfl rfl hdV_X0_count ⟨Nat.le_of_ble_eq_true rfl, Nat.le_of_ble_eq_true rfl⟩) hK hP [4, 5, 6, 7, 8] rfl 4 rfl rfl rfl hl.1 rfl (Nat.le_of_ble_eq_true rfl) ⟨Nat.le_of_ble_eq_true rfl, Nat.le_of_ble_eq_true rfl⟩ dX3_about_66 ?_
    cases h
    exact zx_i hx hb hr hlocks hP hS (by decide) (by decide) dX3_about_69
  replace h := zf c1 h
  by_cases c3 : a1 = 1
  · replace h := zt c3 h
    refine lv_tableIn (tgt := 70) (off := 69) hx hb dX3_about_1 (by rw [c3]; decide) (by rw [c3]; decide) (by rw [c3]; rfl) (by decide) ?_
    refine lv_sipush (v := 256) hx hb dX3_about_70 (by decide) ?_
    refine lv_aload_n hx hb dX3_about_73 rfl (lv_at hl 0 rfl) ?_
    refine va_get (ci := 3) (v := .ref xd0) (C := RX3) (T := TX3) (N := 6) hx hb hts uX3_about_X3 hown hK hP 0 rfl rfl 1 (by decide) (hts _ mX3_about_19) (fun _ h9 => h9) rfl dX3_about_74 ?_
    refine lv_iconst (v := (-1)) hx hb dX3_about_77 (by decide) ?_
    obtain ⟨r4, e4, h⟩ := zb h
    refine zV (As := [.int (-1)]) (rest := [.int 256]) (zQi_q _) ⟨hx, hb, hml, hown, hts⟩ (kX0_count l g xd0 xd1 xd2 xd3 xd4 b pF pL st tm qt cm ds dr (-1) e4) (cwV 1 hts gX3_about_X0_count rfl rfl rfl hdV_X0_count ⟨Nat.le_of_ble_eq_true rfl, Nat.le_of_ble_eq_true rfl⟩) hK hP [4, 5, 6, 7, 8] rfl 4 rfl rfl rfl hl.1 rfl (Nat.le_of_ble_eq_true rfl) ⟨Nat.le_of_ble_eq_true rfl, Nat.le_of_ble_eq_true rfl⟩ dX3_about_78 ?_
    refine lv_isub hx hb dX3_about_81 ?_
    cases h
    exact zx_i hx hb hr hlocks hP hS (by decide) (by decide) dX3_about_82
  replace h := zf c3 h
  by_cases c5 : a1 = 2
  · replace h := zt c5 h
    refine lv_tableIn (tgt := 83) (off := 82) hx hb dX3_about_1 (by rw [c5]; decide) (by rw [c5]; decide) (by rw [c5]; rfl) (by decide) ?_
    refine lv_aload_n hx hb dX3_about_83 rfl (lv_at hl 0 rfl) ?_
    refine va_get (ci := 3) (v := .ref xd0) (C := RX3) (T := TX3) (N := 6) hx hb hts uX3_about_X3 hown hK hP 0 rfl rfl 1 (by decide) (hts _ mX3_about_19) (fun _ h9 => h9) rfl dX3_about_84 ?_
    obtain ⟨r6, e6, h⟩ := zb h
    refine zV (As := []) (rest := []) (zQi_q _) ⟨hx, hb, hml, hown, hts⟩ (kX0_countRanges l g xd0 xd1 xd2 xd3 xd4 b pF pL st tm qt cm ds dr e6) (cwV 0 hts gX3_about_X0_countRanges rfl rfl rfl hdV_X0_countRanges ⟨Nat.le_of_ble_eq_true rfl, Nat.le_of_ble_eq_true rfl⟩) hK hP [4, 5, 6, 7, 8] rfl 4 rfl rfl rfl hl.1 rfl (Nat.le_of_ble_eq_true rfl) ⟨Nat.le_of_ble_eq_true rfl, Nat.le_of_ble_eq_true rfl⟩ dX3_about_87 ?_
    cases h
    exact zx_i hx hb hr hlocks hP hS (by decide) (by decide) dX3_about_90
  replace h := zf c5 h
  by_cases c7 : a1 = 3
  · replace h := zt c7 h
    refine lv_tableIn (tgt := 91) (off := 90) hx hb dX3_about_1 (by rw [c7]; decide) (by rw [c7]; decide) (by rw [c7]; rfl) (by decide) ?_
    refine lv_aload_n hx hb dX3_about_91 rfl (lv_at hl 0 rfl) ?_
    refine va_get (ci := 3) (v := .ref xd0) (C := RX3) (T := TX3) (N := 6) hx hb hts uX3_about_X3 hown hK hP 0 rfl rfl 1 (by decide) (hts _ mX3_about_19) (fun _ h9 => h9) rfl dX3_about_92 ?_
    obtain ⟨r8, e8, h⟩ := zb h
    refine zV (As := []) (rest := []) (zQi_q _) ⟨hx, hb, hml, hown, hts⟩ (kX0_countQueued l g xd0 xd1 xd2 xd3 xd4 b pF pL st tm qt cm ds dr e8) (cwV 0 hts gX3_about_X0_countQueued rfl rfl rfl hdV_X0_countQueued ⟨Nat.le_of_ble_eq_true rfl, Nat.le_of_ble_eq_true rfl⟩) hK hP [4, 5, 6, 7, 8] rfl 4 rfl rfl rfl hl.1 rfl (Nat.le_of_ble_eq_true rfl) ⟨Nat.le_of_ble_eq_true rfl, Nat.le_of_ble_eq_true rfl⟩ dX3_about_95 ?_
    cases h
    exact zx_i hx hb hr hlocks hP hS (by decide) (by decide) dX3_about_98
  replace h := zf c7 h
  by_cases c9 : a1 = 4
  · replace h := zt c9 h
    refine lv_tableIn (tgt := 99) (off := 98) hx hb dX3_about_1 (by rw [c9]; decide) (by rw [c9]; decide) (by rw [c9]; rfl) (by decide) ?_
    refine lv_aload_n hx hb dX3_about_99 rfl (lv_at hl 0 rfl) ?_
    refine va_get (ci := 3) (v := .ref xd0) (C := RX3) (T := TX3) (N := 6) hx hb hts uX3_about_X3 hown hK hP 0 rfl rfl 1 (by decide) (hts _ mX3_about_19) (fun _ h9 => h9) rfl dX3_about_100 ?_
    obtain ⟨r10, e10, h⟩ := zb h
    refine zV (As := []) (rest := []) (zQi_q _) ⟨hx, hb, hml, hown, hts⟩ (kX0_time l g xd0 xd1 xd2 xd3 xd4 b pF pL st tm qt cm ds dr e10) (cwV 0 hts gX3_about_X0_time rfl rfl rfl hdV_X0_time ⟨Nat.le_of_ble_eq_true rfl, Nat.le_of_ble_eq_true rfl⟩) hK hP [4, 5, 6, 7, 8] rfl 4 rfl rfl rfl hl.1 rfl (Nat.le_of_ble_eq_true rfl) ⟨Nat.le_of_ble_eq_true rfl, Nat.le_of_ble_eq_true rfl⟩ dX3_about_103 ?_
    cases h
    exact zx_i hx hb hr hlocks hP hS (by decide) (by decide) dX3_about_106
  replace h := zf c9 h
  by_cases c11 : a1 = 5
  · replace h := zt c11 h
    refine lv_tableIn (tgt := 107) (off := 106) hx hb dX3_about_1 (by rw [c11]; decide) (by rw [c11]; decide) (by rw [c11]; rfl) (by decide) ?_
    refine lv_aload_n hx hb dX3_about_107 rfl (lv_at hl 0 rfl) ?_
    refine va_get (ci := 3) (v := .ref xd0) (C := RX3) (T := TX3) (N := 6) hx hb hts uX3_about_X3 hown hK hP 0 rfl rfl 1 (by decide) (hts _ mX3_about_19) (fun _ h9 => h9) rfl dX3_about_108 ?_
    obtain ⟨r12, e12, h⟩ := zb h
    refine zV (As := []) (rest := []) (zQi_q _) ⟨hx, hb, hml, hown, hts⟩ (kX0_quietTicks l g xd0 xd1 xd2 xd3 xd4 b pF pL st tm qt cm ds dr e12) (cwV 0 hts gX3_about_X0_quietTicks rfl rfl rfl hdV_X0_quietTicks ⟨Nat.le_of_ble_eq_true rfl, Nat.le_of_ble_eq_true rfl⟩) hK hP [4, 5, 6, 7, 8] rfl 4 rfl rfl rfl hl.1 rfl (Nat.le_of_ble_eq_true rfl) ⟨Nat.le_of_ble_eq_true rfl, Nat.le_of_ble_eq_true rfl⟩ dX3_about_111 ?_
    cases h
    exact zx_i hx hb hr hlocks hP hS (by decide) (by decide) dX3_about_114
  replace h := zf c11 h
  by_cases c13 : a1 = 6
  · replace h := zt c13 h
    refine lv_tableIn (tgt := 115) (off := 114) hx hb dX3_about_1 (by rw [c13]; decide) (by rw [c13]; decide) (by rw [c13]; rfl) (by decide) ?_
    refine lv_aload_n hx hb dX3_about_115 rfl (lv_at hl 0 rfl) ?_
    refine va_get (ci := 3) (v := .ref xd0) (C := RX3) (T := TX3) (N := 6) hx hb hts uX3_about_X3 hown hK hP 0 rfl rfl 1 (by decide) (hts _ mX3_about_19) (fun _ h9 => h9) rfl dX3_about_116 ?_
    obtain ⟨r14, e14, h⟩ := zb h
    refine zV (As := []) (rest := []) (zQi_q _) ⟨hx, hb, hml, hown, hts⟩ (kX0_commands l g xd0 xd1 xd2 xd3 xd4 b pF pL st tm qt cm ds dr e14) (cwV 0 hts gX3_about_X0_commands rfl rfl rfl hdV_X0_commands ⟨Nat.le_of_ble_eq_true rfl, Nat.le_of_ble_eq_true rfl⟩) hK hP [4, 5, 6, 7, 8] rfl 4 rfl rfl rfl hl.1 rfl (Nat.le_of_ble_eq_true rfl) ⟨Nat.le_of_ble_eq_true rfl, Nat.le_of_ble_eq_true rfl⟩ dX3_about_119 ?_
    cases h
    exact zx_i hx hb hr hlocks hP hS (by decide) (by decide) dX3_about_122
  replace h := zf c13 h
  by_cases c15 : a1 = 7
  · replace h := zt c15 h
    refine lv_tableIn (tgt := 123) (off := 122) hx hb dX3_about_1 (by rw [c15]; decide) (by rw [c15]; decide) (by rw [c15]; rfl) (by decide) ?_
    refine lv_aload_n hx hb dX3_about_123 rfl (lv_at hl 0 rfl) ?_
    refine va_get (ci := 3) (v := .ref xd0) (C := RX3) (T := TX3) (N := 6) hx hb hts uX3_about_X3 hown hK hP 0 rfl rfl 1 (by decide) (hts _ mX3_about_19) (fun _ h9 => h9) rfl dX3_about_124 ?_
    obtain ⟨r16, e16, h⟩ := zb h
    refine zV (As := []) (rest := []) (zQi_q _) ⟨hx, hb, hml, hown, hts⟩ (kX0_discarded l g xd0 xd1 xd2 xd3 xd4 b pF pL st tm qt cm ds dr e16) (cwV 0 hts gX3_about_X0_discarded rfl rfl rfl hdV_X0_discarded ⟨Nat.le_of_ble_eq_true rfl, Nat.le_of_ble_eq_true rfl⟩) hK hP [4, 5, 6, 7, 8] rfl 4 rfl rfl rfl hl.1 rfl (Nat.le_of_ble_eq_true rfl) ⟨Nat.le_of_ble_eq_true rfl, Nat.le_of_ble_eq_true rfl⟩ dX3_about_127 ?_
    cases h
    exact zx_i hx hb hr hlocks hP hS (by decide) (by decide) dX3_about_130
  replace h := zf c15 h
  by_cases c17 : a1 = 8
  · replace h := zt c17 h
    refine lv_tableIn (tgt := 131) (off := 130) hx hb dX3_about_1 (by rw [c17]; decide) (by rw [c17]; decide) (by rw [c17]; rfl) (by decide) ?_
    refine lv_aload_n hx hb dX3_about_131 rfl (lv_at hl 0 rfl) ?_
    refine va_get (ci := 3) (v := .ref xd0) (C := RX3) (T := TX3) (N := 6) hx hb hts uX3_about_X3 hown hK hP 0 rfl rfl 1 (by decide) (hts _ mX3_about_19) (fun _ h9 => h9) rfl dX3_about_132 ?_
    obtain ⟨r18, e18, h⟩ := zb h
    refine zV (As := []) (rest := []) (zQi_q _) ⟨hx, hb, hml, hown, hts⟩ (kX0_dropped l g xd0 xd1 xd2 xd3 xd4 b pF pL st tm qt cm ds dr e18) (cwV 0 hts gX3_about_X0_dropped rfl rfl rfl hdV_X0_dropped ⟨Nat.le_of_ble_eq_true rfl, Nat.le_of_ble_eq_true rfl⟩) hK hP [4, 5, 6, 7, 8] rfl 4 rfl rfl rfl hl.1 rfl (Nat.le_of_ble_eq_true rfl) ⟨Nat.le_of_ble_eq_true rfl, Nat.le_of_ble_eq_true rfl⟩ dX3_about_135 ?_
    cases h
    exact zx_i hx hb hr hlocks hP hS (by decide) (by decide) dX3_about_138
  replace h := zf c17 h
  by_cases c19 : a1 = 9
  · replace h := zt c19 h
    refine lv_tableIn (tgt := 139) (off := 138) hx hb dX3_about_1 (by rw [c19]; decide) (by rw [c19]; decide) (by rw [c19]; rfl) (by decide) ?_
    refine lv_aload_n hx hb dX3_about_139 rfl (lv_at hl 0 rfl) ?_
    refine va_get (ci := 3) (v := .ref xd0) (C := RX3) (T := TX3) (N := 6) hx hb hts uX3_about_X3 hown hK hP 0 rfl rfl 1 (by decide) (hts _ mX3_about_19) (fun _ h9 => h9) rfl dX3_about_140 ?_
    obtain ⟨r20, e20, h⟩ := zb h
    refine zV (As := []) (rest := []) (zQi_q _) ⟨hx, hb, hml, hown, hts⟩ (kX0_countPinned l g xd0 xd1 xd2 xd3 xd4 b pF pL st tm qt cm ds dr e20) (cwV 0 hts gX3_about_X0_countPinned rfl rfl rfl hdV_X0_countPinned ⟨Nat.le_of_ble_eq_true rfl, Nat.le_of_ble_eq_true rfl⟩) hK hP [4, 5, 6, 7, 8] rfl 4 rfl rfl rfl hl.1 rfl (Nat.le_of_ble_eq_true rfl) ⟨Nat.le_of_ble_eq_true rfl, Nat.le_of_ble_eq_true rfl⟩ dX3_about_143 ?_
    cases h
    exact zx_i hx hb hr hlocks hP hS (by decide) (by decide) dX3_about_146
  replace h := zf c19 h
  by_cases c21 : a1 = 10
  · replace h := zt c21 h
    refine lv_tableIn (tgt := 147) (off := 146) hx hb dX3_about_1 (by rw [c21]; decide) (by rw [c21]; decide) (by rw [c21]; rfl) (by decide) ?_
    refine lv_aload_n hx hb dX3_about_147 rfl (lv_at hl 0 rfl) ?_
    refine va_get (ci := 3) (v := .ref xd0) (C := RX3) (T := TX3) (N := 6) hx hb hts uX3_about_X3 hown hK hP 0 rfl rfl 1 (by decide) (hts _ mX3_about_19) (fun _ h9 => h9) rfl dX3_about_148 ?_
    refine lv_bipush (v := (-3)) hx hb dX3_about_151 (by decide) ?_
    obtain ⟨r22, e22, h⟩ := zb h
    refine zV (As := [.int (-3)]) (rest := []) (zQi_q _) ⟨hx, hb, hml, hown, hts⟩ (kX0_count l g xd0 xd1 xd2 xd3 xd4 b pF pL st tm qt cm ds dr (-3) e22) (cwV 1 hts gX3_about_X0_count rfl rfl rfl hdV_X0_count ⟨Nat.le_of_ble_eq_true rfl, Nat.le_of_ble_eq_true rfl⟩) hK hP [4, 5, 6, 7, 8] rfl 4 rfl rfl rfl hl.1 rfl (Nat.le_of_ble_eq_true rfl) ⟨Nat.le_of_ble_eq_true rfl, Nat.le_of_ble_eq_true rfl⟩ dX3_about_153 ?_
    cases h
    exact zx_i hx hb hr hlocks hP hS (by decide) (by decide) dX3_about_156
  replace h := zf c21 h
  refine lv_tableOut (tgt := 157) hx hb dX3_about_1 (by have n1 := lv_neT (a := 0) c1 (by decide); have n3 := lv_neT (a := 1) c3 (by decide); have n5 := lv_neT (a := 2) c5 (by decide); have n7 := lv_neT (a := 3) c7 (by decide); have n9 := lv_neT (a := 4) c9 (by decide); have n11 := lv_neT (a := 5) c11 (by decide); have n13 := lv_neT (a := 6) c13 (by decide); have n15 := lv_neT (a := 7) c15 (by decide); have n17 := lv_neT (a := 8) c17 (by decide); have n19 := lv_neT (a := 9) c19 (by decide); have n21 := lv_neT (a := 10) c21 (by decide); omega) (by decide) ?_
  cases h
  exact zx_throw (text := "no such number") hx hb htr hown hts (by decide) zEx_2 mX3_about_k41 mX3_about_j41 mX3_about_a41 zEb_2 zEg_2_41 zEf_2 zEn (by decide +kernel) hAm hP hS (hl.1.trans hml.symm) dX3_about_157 dX3_about_160 dX3_about_161 dX3_about_163 dX3_about_166 ht (Nat.le_of_ble_eq_true rfl) (Nat.le_of_ble_eq_true rfl) (Nat.le_of_ble_eq_true rfl) (Nat.le_of_ble_eq_true rfl) hlocks (by decide) (by decide)
theorem hdV_X0_isAlive : yX0_isAlive.cls = RX0 ∧ yX0_isAlive.cls ≠ "java/lang/invoke/MethodHandle" ∧ yX0_isAlive.cls ≠ "java/lang/invoke/VarHandle" ∧ (parseMethodDescriptor yX0_isAlive.desc).map (fun d => d.parameters.length) = some 1 := by decide +kernel
theorem hdV_X0_isHeld : yX0_isHeld.cls = RX0 ∧ yX0_isHeld.cls ≠ "java/lang/invoke/MethodHandle" ∧ yX0_isHeld.cls ≠ "java/lang/invoke/VarHandle" ∧ (parseMethodDescriptor yX0_isHeld.desc).map (fun d => d.parameters.length) = some 1 := by decide +kernel
theorem hdV_X0_rangeOf : yX0_rangeOf.cls = RX0 ∧ yX0_rangeOf.cls ≠ "java/lang/invoke/MethodHandle" ∧ yX0_rangeOf.cls ≠ "java/lang/invoke/VarHandle" ∧ (parseMethodDescriptor yX0_rangeOf.desc).map (fun d => d.parameters.length) = some 1 := by decide +kernel
def fX3_block (b : Nat → Int32) (pF : Nat → Int32) (pL : Nat → Int32) (a1 : Int32) (a2 : Int32) : Option (Int32 × Int32) :=
  ob (fX3_checkBlock a1) fun k1 =>
  if k1 = 0 then
    if a2 = 0 then
      ob (fX0_isAlive b a1) fun r3 =>
      if r3 = 0 then
        some (0, 0)
      else
        some (0, 1)
    else if a2 = 1 then
      ob (fX0_isHeld b a1) fun r6 =>
      if r6 = 0 then
        some (0, 0)
      else
        some (0, 1)
    else if a2 = 2 then
      ob (fX0_rangeOf b a1) fun r9 =>
      some (0, r9)
    else if a2 = 3 then
      ob (fX0_isAnyPinned pF pL a1 (a1 + 1)) fun r11 =>
      if r11 = 0 then
        some (0, 0)
      else
        some (0, 1)
    else some (2, 0)
  else some (k1, 0)
theorem mX3_block_19 : Cond.fieldLink RX3 19 "IdleDiscards" "device" "LIdleDiscards$Device;" ∈ wsX3_block := by decide +kernel
theorem uX3_block_X3 : ∀ w ∈ wsX30, w ∈ wsX3_block := by decide +kernel
theorem mX3_block_k41 : Cond.classLink RX3 41 (zE 2) ∈ wsX3_block := by decide +kernel
theorem mX3_block_j41 : Cond.initialized (zE 2) ∈ wsX3_block := by decide +kernel
theorem mX3_block_a41 : ∀ w ∈ (vx_atS RX3 45 (zE 2) ["java/lang/RuntimeException", "java/lang/Exception"]).filter goodWord, w ∈ wsX3_block := by decide +kernel
set_option maxRecDepth 100000 in
set_option maxHeartbeats 4000000 in
theorem kX3_block (l : Launch) (g : zG) (h0 xt0 xt1 xt2 xd0 xd1 xd2 xd3 xd4 xc0 xc1 xc2 xc3 xc4 xp0 xp1 xs0 xu0 xe0 xe1 xe2 xe3 xe4 xf0 xf1 xf2 xf3 xf4 : Nat) (ad : Nat → Nat → Nat) (ch : Nat → Int32) (nu : Nat → Int32) (le : Int32) (ta : Int32) (lt : Int32) (b : Nat → Int32) (pF : Nat → Int32) (pL : Nat → Int32) (st : Nat → Int32) (tm : Int32) (qt : Int32) (cm : Int32) (ds : Int32) (dr : Int32) (bC : Nat → Int32) (pFC : Nat → Int32) (pLC : Nat → Int32) (stC : Nat → Int32) (tmC : Int32) (qtC : Int32) (cmC : Int32) (dsC : Int32) (drC : Int32) (ol : Int32) (pz : Int32) (dvs : Nat → zDv) (us : Nat → Int32) (bS : Nat → Int32) (pFS : Nat → Int32) (pLS : Nat → Int32) (stS : Nat → Int32) (tmS : Int32) (qtS : Int32) (cmS : Int32) (dsS : Int32) (drS : Int32) (bT : Nat → Int32) (pFT : Nat → Int32) (pLT : Nat → Int32) (stT : Nat → Int32) (tmT : Int32) (qtT : Int32) (cmT : Int32) (dsT : Int32) (drT : Int32) (a1 : Int32) (a2 : Int32) (htr : l.stackTraces = false) {k : Int32} {r : Int32} (h : fX3_block b pF pL a1 a2 = some (k, r)) : Mx l g yX3_block wsX3_block { frames := 7, cells := 2, slots := 12, locals := 102 } [.ref h0, .int a1, .int a2] (zI g h0 xt0 xt1 xt2 xd0 xd1 xd2 xd3 xd4 xc0 xc1 xc2 xc3 xc4 xp0 xp1 xs0 xu0 xe0 xe1 xe2 xe3 xe4 xf0 xf1 xf2 xf3 xf4 ad ch nu le ta lt b pF pL st tm qt cm ds dr bC pFC pLC stC tmC qtC cmC dsC drC ol pz dvs us bS pFS pLS stS tmS qtS cmS dsS drS bT pFT pLT stT tmT qtT cmT dsT drT) (zXi g (zI g h0 xt0 xt1 xt2 xd0 xd1 xd2 xd3 xd4 xc0 xc1 xc2 xc3 xc4 xp0 xp1 xs0 xu0 xe0 xe1 xe2 xe3 xe4 xf0 xf1 xf2 xf3 xf4 ad ch nu le ta lt b pF pL st tm qt cm ds dr bC pFC pLC stC tmC qtC cmC dsC drC ol pz dvs us bS pFS pLS stS tmS qtS cmS dsS drS bT pFT pLT stT tmT qtT cmT dsT drT) k r) (zXx g (zI g h0 xt0 xt1 xt2 xd0 xd1 xd2 xd3 xd4 xc0 xc1 xc2 xc3 xc4 xp0 xp1 xs0 xu0 xe0 xe1 xe2 xe3 xe4 xf0 xf1 xf2 xf3 xf4 ad ch nu le ta lt b pF pL st tm qt cm ds dr bC pFC pLC stC tmC qtC cmC dsC drC ol pz dvs us bS pFS pLS stS tmS qtS cmS dsS drS bT pFT pLT stT tmT qtT cmT dsT drT) k) 2 12 := by
  refine zx_in (cc := cX3_block) (maxL := 3) (ret := (some .int)) (by decide) rfl (Nat.le_of_ble_eq_true rfl) ?_
  intro p e s m below meth c hx hb hr hml hts hown hlocks hK ht A hA hP hD hS hAm ls hl
  replace hl : lv_has ls 3 [(0, .ref h0), (1, .int a1), (2, .int a2)] := hl
  unfold fX3_block at h
  refine lv_iload_n hx hb dX3_block_0 rfl (lv_at hl 1 rfl) ?_
  obtain ⟨k1, e1, h⟩ := zb h
  refine zSx (As := [.int a1]) (rest := []) (zXv_q g _ _) (zXx_q g _ _) ⟨hx, hb, hml, hown, hts⟩ (kX3_checkBlock l g a1 htr e1) (va_cwS 1 hts gX3_block_X3_checkBlock rfl rfl rfl hdS_X3_checkBlock ⟨Nat.le_of_ble_eq_true rfl, Nat.le_of_ble_eq_true rfl⟩) hK hP hD hS hA hAm [] (by decide) rfl rfl rfl hl.1 rfl (Nat.le_of_ble_eq_true rfl) ⟨Nat.le_of_ble_eq_true rfl, Nat.le_of_ble_eq_true rfl⟩ dX3_block_1 (fun c1 H locs q ce hP hD hS hq1 hq2 hq3 => ?_) (fun c1 H locs hP hD hS => ?_)
  · replace h := zf c1 h
    replace hP : zP g (zI g h0 xt0 xt1 xt2 xd0 xd1 xd2 xd3 xd4 xc0 xc1 xc2 xc3 xc4 xp0 xp1 xs0 xu0 xe0 xe1 xe2 xe3 xe4 xf0 xf1 xf2 xf3 xf4 ad ch nu le ta lt b pF pL st tm qt cm ds dr bC pFC pLC stC tmC qtC cmC dsC drC ol pz dvs us bS pFS pLS stS tmS qtS cmS dsS drS bT pFT pLT stT tmT qtT cmT dsT drT) H := hP
    cases h
    exact zx_out ht hlocks c1 hP hS hq1 hq2 hq3 (by decide) (by decide)
  · replace h := zt c1 h
    replace hP : zP g (zI g h0 xt0 xt1 xt2 xd0 xd1 xd2 xd3 xd4 xc0 xc1 xc2 xc3 xc4 xp0 xp1 xs0 xu0 xe0 xe1 xe2 xe3 xe4 xf0 xf1 xf2 xf3 xf4 ad ch nu le ta lt b pF pL st tm qt cm ds dr bC pFC pLC stC tmC qtC cmC dsC drC ol pz dvs us bS pFS pLS stS tmS qtS cmS dsS drS bT pFT pLT stT tmT qtT cmT dsT drT) H := hP
    replace hD : va_D A (zI g h0 xt0 xt1 xt2 xd0 xd1 xd2 xd3 xd4 xc0 xc1 xc2 xc3 xc4 xp0 xp1 xs0 xu0 xe0 xe1 xe2 xe3 xe4 xf0 xf1 xf2 xf3 xf4 ad ch nu le ta lt b pF pL st tm qt cm ds dr bC pFC pLC stC tmC qtC cmC dsC drC ol pz dvs us bS pFS pLS stS tmS qtS cmS dsS drS bT pFT pLT stT tmT qtT cmT dsT drT) := hD
    refine lv_iload_n hx hb dX3_block_4 rfl (lv_at hl 2 rfl) ?_
    by_cases c2 : a2 = 0
    · replace h := zt c2 h
      refine lv_tableIn (tgt := 36) (off := 31) hx hb dX3_block_5 (by rw [c2]; decide) (by rw [c2]; decide) (by rw [c2]; rfl) (by decide) ?_
      refine lv_aload_n hx hb dX3_block_36 rfl (lv_at hl 0 rfl) ?_
      refine va_get (ci := 3) (v := .ref xd0) (C := RX3) (T := TX3) (N := 6) hx hb hts uX3_block_X3 hown hK hP 0 rfl rfl 1 (by decide) (hts _ mX3_block_19) (fun _ h9 => h9) rfl dX3_block_37 ?_
      refine lv_iload_n hx hb dX3_block_40 rfl (lv_at hl 1 rfl) ?_
      obtain ⟨r3, e3, h⟩ := zb h
      refine zV (As := [.int a1]) (rest := []) (zQi_q _) ⟨hx, hb, hml, hown, hts⟩ (kX0_isAlive l g xd0 xd1 xd2 xd3 xd4 b pF pL st tm qt cm ds dr a1 e3) (cwV 1 hts gX3_block_X0_isAlive rfl rfl rfl hdV_X0_isAlive ⟨Nat.le_of_ble_eq_true rfl, Nat.le_of_ble_eq_true rfl⟩) hK hP [4, 5, 6, 7, 8] rfl 4 rfl rfl rfl hl.1 rfl (Nat.le_of_ble_eq_true rfl) ⟨Nat.le_of_ble_eq_true rfl, Nat.le_of_ble_eq_true rfl⟩ dX3_block_41 ?_
      refine lv_if_eq (tgt := 51) hx hb dX3_block_44 (by decide) (fun c4 => ?_) (fun c4 => ?_)
      · replace h := zt c4 h
        refine lv_iconst (v := 0) hx hb dX3_block_51 (by decide) ?_
        cases h
        exact zx_i hx hb hr hlocks hP hS (by decide) (by decide) dX3_block_52
      · replace h := zf c4 h
        refine lv_iconst (v := 1) hx hb dX3_block_47 (by decide) ?_
        refine lv_goto (tgt := 52) hx hb dX3_block_48 (by decide) ?_
        cases h
        exact zx_i hx hb hr hlocks hP hS (by decide) (by decide) dX3_block_52
    replace h := zf c2 h
    by_cases c5 : a2 = 1
    · replace h := zt c5 h
      refine lv_tableIn (tgt := 53) (off := 48) hx hb dX3_block_5 (by rw [c5]; decide) (by rw [c5]; decide) (by rw [c5]; rfl) (by decide) ?_
      refine lv_aload_n hx hb dX3_block_53 rfl (lv_at hl 0 rfl) ?_
      refine va_get (ci := 3) (v := .ref xd0) (C := RX3) (T := TX3) (N := 6) hx hb hts uX3_block_X3 hown hK hP 0 rfl rfl 1 (by decide) (hts _ mX3_block_19) (fun _ h9 => h9) rfl dX3_block_54 ?_
      refine lv_iload_n hx hb dX3_block_57 rfl (lv_at hl 1 rfl) ?_
      obtain ⟨r6, e6, h⟩ := zb h
      refine zV (As := [.int a1]) (rest := []) (zQi_q _) ⟨hx, hb, hml, hown, hts⟩ (kX0_isHeld l g xd0 xd1 xd2 xd3 xd4 b pF pL st tm qt cm ds dr a1 e6) (cwV 1 hts gX3_block_X0_isHeld rfl rfl rfl hdV_X0_isHeld ⟨Nat.le_of_ble_eq_true rfl, Nat.le_of_ble_eq_true rfl⟩) hK hP [4, 5, 6, 7, 8] rfl 4 rfl rfl rfl hl.1 rfl (Nat.le_of_ble_eq_true rfl) ⟨Nat.le_of_ble_eq_true rfl, Nat.le_of_ble_eq_true rfl⟩ dX3_block_58 ?_
      refine lv_if_eq (tgt := 68) hx hb dX3_block_61 (by decide) (fun c7 => ?_) (fun c7 => ?_)
      · replace h := zt c7 h
        refine lv_iconst (v := 0) hx hb dX3_block_68 (by decide) ?_
        cases h
        exact zx_i hx hb hr hlocks hP hS (by decide) (by decide) dX3_block_69
      · replace h := zf c7 h
        refine lv_iconst (v := 1) hx hb dX3_block_64 (by decide) ?_
        refine lv_goto (tgt := 69) hx hb dX3_block_65 (by decide) ?_
        cases h
        exact zx_i hx hb hr hlocks hP hS (by decide) (by decide) dX3_block_69
    replace h := zf c5 h
    by_cases c8 : a2 = 2
    · replace h := zt c8 h
      refine lv_tableIn (tgt := 70) (off := 65) hx hb dX3_block_5 (by rw [c8]; decide) (by rw [c8]; decide) (by rw [c8]; rfl) (by decide) ?_
      refine lv_aload_n hx hb dX3_block_70 rfl (lv_at hl 0 rfl) ?_
      refine va_get (ci := 3) (v := .ref xd0) (C := RX3) (T := TX3) (N := 6) hx hb hts uX3_block_X3 hown hK hP 0 rfl rfl 1 (by decide) (hts _ mX3_block_19) (fun _ h9 => h9) rfl dX3_block_71 ?_
      refine lv_iload_n hx hb dX3_block_74 rfl (lv_at hl 1 rfl) ?_
      obtain ⟨r9, e9, h⟩ := zb h
      refine zV (As := [.int a1]) (rest := []) (zQi_q _) ⟨hx, hb, hml, hown, hts⟩ (kX0_rangeOf l g xd0 xd1 xd2 xd3 xd4 b pF pL st tm qt cm ds dr a1 e9) (cwV 1 hts gX3_block_X0_rangeOf rfl rfl rfl hdV_X0_rangeOf ⟨Nat.le_of_ble_eq_true rfl, Nat.le_of_ble_eq_true rfl⟩) hK hP [4, 5, 6, 7, 8] rfl 4 rfl rfl rfl hl.1 rfl (Nat.le_of_ble_eq_true rfl) ⟨Nat.le_of_ble_eq_true rfl, Nat.le_of_ble_eq_true rfl⟩ dX3_block_75 ?_
      cases h
      exact zx_i hx hb hr hlocks hP hS (by decide) (by decide) dX3_block_78
    replace h := zf c8 h
    by_cases c10 : a2 = 3
    · replace h := zt c10 h
      refine lv_tableIn (tgt := 79) (off := 74) hx hb dX3_block_5 (by rw [c10]; decide) (by rw [c10]; decide) (by rw [c10]; rfl) (by decide) ?_
      refine lv_aload_n hx hb dX3_block_79 rfl (lv_at hl 0 rfl) ?_
      refine va_get (ci := 3) (v := .ref xd0) (C := RX3) (T := TX3) (N := 6) hx hb hts uX3_block_X3 hown hK hP 0 rfl rfl 1 (by decide) (hts _ mX3_block_19) (fun _ h9 => h9) rfl dX3_block_80 ?_
      refine lv_iload_n hx hb dX3_block_83 rfl (lv_at hl 1 rfl) ?_
      refine lv_iload_n hx hb dX3_block_84 rfl (lv_at hl 1 rfl) ?_
      refine lv_iconst (v := 1) hx hb dX3_block_85 (by decide) ?_
      refine lv_iadd hx hb dX3_block_86 ?_
      obtain ⟨r11, e11, h⟩ := zb h
      refine zV (As := [.int a1, .int (a1 + 1)]) (rest := []) (zQi_q _) ⟨hx, hb, hml, hown, hts⟩ (kX0_isAnyPinned l g xd0 xd1 xd2 xd3 xd4 b pF pL st tm qt cm ds dr a1 (a1 + 1) e11) (cwV 2 hts gX3_block_X0_isAnyPinned rfl rfl rfl hdV_X0_isAnyPinned ⟨Nat.le_of_ble_eq_true rfl, Nat.le_of_ble_eq_true rfl⟩) hK hP [4, 5, 6, 7, 8] rfl 4 rfl rfl rfl hl.1 rfl (Nat.le_of_ble_eq_true rfl) ⟨Nat.le_of_ble_eq_true rfl, Nat.le_of_ble_eq_true rfl⟩ dX3_block_87 ?_
      refine lv_if_eq (tgt := 97) hx hb dX3_block_90 (by decide) (fun c12 => ?_) (fun c12 => ?_)
      · replace h := zt c12 h
        refine lv_iconst (v := 0) hx hb dX3_block_97 (by decide) ?_
        cases h
        exact zx_i hx hb hr hlocks hP hS (by decide) (by decide) dX3_block_98
      · replace h := zf c12 h
        refine lv_iconst (v := 1) hx hb dX3_block_93 (by decide) ?_
        refine lv_goto (tgt := 98) hx hb dX3_block_94 (by decide) ?_
        cases h
        exact zx_i hx hb hr hlocks hP hS (by decide) (by decide) dX3_block_98
    replace h := zf c10 h
    refine lv_tableOut (tgt := 99) hx hb dX3_block_5 (by have n2 := lv_neT (a := 0) c2 (by decide); have n5 := lv_neT (a := 1) c5 (by decide); have n8 := lv_neT (a := 2) c8 (by decide); have n10 := lv_neT (a := 3) c10 (by decide); omega) (by decide) ?_
    cases h
    exact zx_throw (text := "no such number of a block") hx hb htr hown hts (by decide) zEx_2 mX3_block_k41 mX3_block_j41 mX3_block_a41 zEb_2 zEg_2_41 zEf_2 zEn (by decide +kernel) hAm hP hS (hl.1.trans hml.symm) dX3_block_99 dX3_block_102 dX3_block_103 dX3_block_105 dX3_block_108 ht (Nat.le_of_ble_eq_true rfl) (Nat.le_of_ble_eq_true rfl) (Nat.le_of_ble_eq_true rfl) (Nat.le_of_ble_eq_true rfl) hlocks (by decide) (by decide)
theorem hdV_X0_countGranules : yX0_countGranules.cls = RX0 ∧ yX0_countGranules.cls ≠ "java/lang/invoke/MethodHandle" ∧ yX0_countGranules.cls ≠ "java/lang/invoke/VarHandle" ∧ (parseMethodDescriptor yX0_countGranules.desc).map (fun d => d.parameters.length) = some 2 := by decide +kernel
theorem hdV_X0_countPieces : yX0_countPieces.cls = RX0 ∧ yX0_countPieces.cls ≠ "java/lang/invoke/MethodHandle" ∧ yX0_countPieces.cls ≠ "java/lang/invoke/VarHandle" ∧ (parseMethodDescriptor yX0_countPieces.desc).map (fun d => d.parameters.length) = some 2 := by decide +kernel
theorem hdV_X0_endOfRange : yX0_endOfRange.cls = RX0 ∧ yX0_endOfRange.cls ≠ "java/lang/invoke/MethodHandle" ∧ yX0_endOfRange.cls ≠ "java/lang/invoke/VarHandle" ∧ (parseMethodDescriptor yX0_endOfRange.desc).map (fun d => d.parameters.length) = some 1 := by decide +kernel
theorem hdV_X0_firstOfRange : yX0_firstOfRange.cls = RX0 ∧ yX0_firstOfRange.cls ≠ "java/lang/invoke/MethodHandle" ∧ yX0_firstOfRange.cls ≠ "java/lang/invoke/VarHandle" ∧ (parseMethodDescriptor yX0_firstOfRange.desc).map (fun d => d.parameters.length) = some 1 := by decide +kernel
theorem hdV_X0_timeOf : yX0_timeOf.cls = RX0 ∧ yX0_timeOf.cls ≠ "java/lang/invoke/MethodHandle" ∧ yX0_timeOf.cls ≠ "java/lang/invoke/VarHandle" ∧ (parseMethodDescriptor yX0_timeOf.desc).map (fun d => d.parameters.length) = some 1 := by decide +kernel
def fX3_range (b : Nat → Int32) (pF : Nat → Int32) (pL : Nat → Int32) (st : Nat → Int32) (tm : Int32) (a1 : Int32) (a2 : Int32) : Option (Int32 × Int32) :=
  if a1 < 0 then
    some (1, 0)
  else
    ob (fX0_countRanges b) fun r2 =>
    if a1 < r2 then
      ob (fX0_firstOfRange b a1) fun r4 =>
      ob (fX0_endOfRange b r4) fun r5 =>
      if a2 = 0 then
        some (0, r4)
      else if a2 = 1 then
        some (0, (r5 - r4))
      else if a2 = 2 then
        ob (fX0_timeOf b r4) fun r9 =>
        some (0, r9)
      else if a2 = 3 then
        ob (fX0_countPieces b pF pL st r4 r5) fun r11 =>
        some (0, r11)
      else if a2 = 4 then
        ob (fX0_countGranules b pF pL st r4 r5) fun r13 =>
        some (0, r13)
      else if a2 = 5 then
        ob (fX0_isDue b st tm r4) fun r15 =>
        if r15 = 0 then
          some (0, 0)
        else
          some (0, 1)
      else some (2, 0)
    else
      some (1, 0)
theorem mX3_range_k158 : Cond.classLink RX3 158 (zE 1) ∈ wsX3_range := by decide +kernel
theorem mX3_range_j158 : Cond.initialized (zE 1) ∈ wsX3_range := by decide +kernel
theorem mX3_range_a158 : ∀ w ∈ (vx_atS RX3 162 (zE 1) ["java/lang/RuntimeException", "java/lang/Exception"]).filter goodWord, w ∈ wsX3_range := by decide +kernel
theorem mX3_range_19 : Cond.fieldLink RX3 19 "IdleDiscards" "device" "LIdleDiscards$Device;" ∈ wsX3_range := by decide +kernel
theorem uX3_range_X3 : ∀ w ∈ wsX30, w ∈ wsX3_range := by decide +kernel
theorem mX3_range_k41 : Cond.classLink RX3 41 (zE 2) ∈ wsX3_range := by decide +kernel
theorem mX3_range_j41 : Cond.initialized (zE 2) ∈ wsX3_range := by decide +kernel
theorem mX3_range_a41 : ∀ w ∈ (vx_atS RX3 45 (zE 2) ["java/lang/RuntimeException", "java/lang/Exception"]).filter goodWord, w ∈ wsX3_range := by decide +kernel
set_option maxRecDepth 100000 in
set_option maxHeartbeats 4000000 in
theorem kX3_range (l : Launch) (g : zG) (h0 xt0 xt1 xt2 xd0 xd1 xd2 xd3 xd4 xc0 xc1 xc2 xc3 xc4 xp0 xp1 xs0 xu0 xe0 xe1 xe2 xe3 xe4 xf0 xf1 xf2 xf3 xf4 : Nat) (ad : Nat → Nat → Nat) (ch : Nat → Int32) (nu : Nat → Int32) (le : Int32) (ta : Int32) (lt : Int32) (b : Nat → Int32) (pF : Nat → Int32) (pL : Nat → Int32) (st : Nat → Int32) (tm : Int32) (qt : Int32) (cm : Int32) (ds : Int32) (dr : Int32) (bC : Nat → Int32) (pFC : Nat → Int32) (pLC : Nat → Int32) (stC : Nat → Int32) (tmC : Int32) (qtC : Int32) (cmC : Int32) (dsC : Int32) (drC : Int32) (ol : Int32) (pz : Int32) (dvs : Nat → zDv) (us : Nat → Int32) (bS : Nat → Int32) (pFS : Nat → Int32) (pLS : Nat → Int32) (stS : Nat → Int32) (tmS : Int32) (qtS : Int32) (cmS : Int32) (dsS : Int32) (drS : Int32) (bT : Nat → Int32) (pFT : Nat → Int32) (pLT : Nat → Int32) (stT : Nat → Int32) (tmT : Int32) (qtT : Int32) (cmT : Int32) (dsT : Int32) (drT : Int32) (a1 : Int32) (a2 : Int32) (htr : l.stackTraces = false) {k : Int32} {r : Int32} (h : fX3_range b pF pL st tm a1 a2 = some (k, r)) : Mx l g yX3_range wsX3_range { frames := 6, cells := 1, slots := 6, locals := 82 } [.ref h0, .int a1, .int a2] (zI g h0 xt0 xt1 xt2 xd0 xd1 xd2 xd3 xd4 xc0 xc1 xc2 xc3 xc4 xp0 xp1 xs0 xu0 xe0 xe1 xe2 xe3 xe4 xf0 xf1 xf2 xf3 xf4 ad ch nu le ta lt b pF pL st tm qt cm ds dr bC pFC pLC stC tmC qtC cmC dsC drC ol pz dvs us bS pFS pLS stS tmS qtS cmS dsS drS bT pFT pLT stT tmT qtT cmT dsT drT) (zXi g (zI g h0 xt0 xt1 xt2 xd0 xd1 xd2 xd3 xd4 xc0 xc1 xc2 xc3 xc4 xp0 xp1 xs0 xu0 xe0 xe1 xe2 xe3 xe4 xf0 xf1 xf2 xf3 xf4 ad ch nu le ta lt b pF pL st tm qt cm ds dr bC pFC pLC stC tmC qtC cmC dsC drC ol pz dvs us bS pFS pLS stS tmS qtS cmS dsS drS bT pFT pLT stT tmT qtT cmT dsT drT) k r) (zXx g (zI g h0 xt0 xt1 xt2 xd0 xd1 xd2 xd3 xd4 xc0 xc1 xc2 xc3 xc4 xp0 xp1 xs0 xu0 xe0 xe1 xe2 xe3 xe4 xf0 xf1 xf2 xf3 xf4 ad ch nu le ta lt b pF pL st tm qt cm ds dr bC pFC pLC stC tmC qtC cmC dsC drC ol pz dvs us bS pFS pLS stS tmS qtS cmS dsS drS bT pFT pLT stT tmT qtT cmT dsT drT) k) 1 6 := by
  refine zx_in (cc := cX3_range) (maxL := 5) (ret := (some .int)) (by decide) rfl (Nat.le_of_ble_eq_true rfl) ?_
  intro p e s m below meth c hx hb hr hml hts hown hlocks hK ht A hA hP hD hS hAm ls hl
  replace hl : lv_has ls 5 [(0, .ref h0), (1, .int a1), (2, .int a2)] := hl
  unfold fX3_range at h
  refine lv_iload_n hx hb dX3_range_0 rfl (lv_at hl 1 rfl) ?_
  refine lv_if_lt (tgt := 15) hx hb dX3_range_1 (by decide) (fun c1 => ?_) (fun c1 => ?_)
  · replace h := zt c1 h
    cases h
    exact zx_throw (text := "no such range") hx hb htr hown hts (by decide) zEx_1 mX3_range_k158 mX3_range_j158 mX3_range_a158 zEb_1 zEg_1_158 zEf_1 zEn (by decide +kernel) hAm hP hS (hl.1.trans hml.symm) dX3_range_15 dX3_range_18 dX3_range_19 dX3_range_21 dX3_range_24 ht (Nat.le_of_ble_eq_true rfl) (Nat.le_of_ble_eq_true rfl) (Nat.le_of_ble_eq_true rfl) (Nat.le_of_ble_eq_true rfl) hlocks (by decide) (by decide)
  · replace h := zf c1 h
    refine lv_iload_n hx hb dX3_range_4 rfl (lv_at hl 1 rfl) ?_
    refine lv_aload_n hx hb dX3_range_5 rfl (lv_at hl 0 rfl) ?_
    refine va_get (ci := 3) (v := .ref xd0) (C := RX3) (T := TX3) (N := 6) hx hb hts uX3_range_X3 hown hK hP 0 rfl rfl 1 (by decide) (hts _ mX3_range_19) (fun _ h9 => h9) rfl dX3_range_6 ?_
    obtain ⟨r2, e2, h⟩ := zb h
    refine zV (As := []) (rest := [.int a1]) (zQi_q _) ⟨hx, hb, hml, hown, hts⟩ (kX0_countRanges l g xd0 xd1 xd2 xd3 xd4 b pF pL st tm qt cm ds dr e2) (cwV 0 hts gX3_range_X0_countRanges rfl rfl rfl hdV_X0_countRanges ⟨Nat.le_of_ble_eq_true rfl, Nat.le_of_ble_eq_true rfl⟩) hK hP [4, 5, 6, 7, 8] rfl 4 rfl rfl rfl hl.1 rfl (Nat.le_of_ble_eq_true rfl) ⟨Nat.le_of_ble_eq_true rfl, Nat.le_of_ble_eq_true rfl⟩ dX3_range_9 ?_
    refine lv_icmp_lt (tgt := 25) hx hb dX3_range_12 (by decide) (fun c3 => ?_) (fun c3 => ?_)
    · replace h := zt c3 h
      refine lv_aload_n hx hb dX3_range_25 rfl (lv_at hl 0 rfl) ?_
      refine va_get (ci := 3) (v := .ref xd0) (C := RX3) (T := TX3) (N := 6) hx hb hts uX3_range_X3 hown hK hP 0 rfl rfl 1 (by decide) (hts _ mX3_range_19) (fun _ h9 => h9) rfl dX3_range_26 ?_
      refine lv_iload_n hx hb dX3_range_29 rfl (lv_at hl 1 rfl) ?_
      obtain ⟨r4, e4, h⟩ := zb h
      refine zV (As := [.int a1]) (rest := []) (zQi_q _) ⟨hx, hb, hml, hown, hts⟩ (kX0_firstOfRange l g xd0 xd1 xd2 xd3 xd4 b pF pL st tm qt cm ds dr a1 e4) (cwV 1 hts gX3_range_X0_firstOfRange rfl rfl rfl hdV_X0_firstOfRange ⟨Nat.le_of_ble_eq_true rfl, Nat.le_of_ble_eq_true rfl⟩) hK hP [4, 5, 6, 7, 8] rfl 4 rfl rfl rfl hl.1 rfl (Nat.le_of_ble_eq_true rfl) ⟨Nat.le_of_ble_eq_true rfl, Nat.le_of_ble_eq_true rfl⟩ dX3_range_30 ?_
      refine lv_istore_n (lv' := [(3, .int r4), (0, .ref h0), (1, .int a1), (2, .int a2)]) hx hb dX3_range_33 rfl hl (by decide) rfl (fun ls hl => ?_)
      refine lv_aload_n hx hb dX3_range_34 rfl (lv_at hl 1 rfl) ?_
      refine va_get (ci := 3) (v := .ref xd0) (C := RX3) (T := TX3) (N := 6) hx hb hts uX3_range_X3 hown hK hP 0 rfl rfl 1 (by decide) (hts _ mX3_range_19) (fun _ h9 => h9) rfl dX3_range_35 ?_
      refine lv_iload_n hx hb dX3_range_38 rfl (lv_at hl 0 rfl) ?_
      obtain ⟨r5, e5, h⟩ := zb h
      refine zV (As := [.int r4]) (rest := []) (zQi_q _) ⟨hx, hb, hml, hown, hts⟩ (kX0_endOfRange l g xd0 xd1 xd2 xd3 xd4 b pF pL st tm qt cm ds dr r4 e5) (cwV 1 hts gX3_range_X0_endOfRange rfl rfl rfl hdV_X0_endOfRange ⟨Nat.le_of_ble_eq_true rfl, Nat.le_of_ble_eq_true rfl⟩) hK hP [4, 5, 6, 7, 8] rfl 4 rfl rfl rfl hl.1 rfl (Nat.le_of_ble_eq_true rfl) ⟨Nat.le_of_ble_eq_true rfl, Nat.le_of_ble_eq_true rfl⟩ dX3_range_39 ?_
      refine lv_istore (lv' := [(4, .int r5), (3, .int r4), (0, .ref h0), (1, .int a1), (2, .int a2)]) hx hb dX3_range_42 hl (by decide) rfl (fun ls hl => ?_)
      refine lv_iload_n hx hb dX3_range_44 rfl (lv_at hl 4 rfl) ?_
      by_cases c6 : a2 = 0
      · replace h := zt c6 h
        refine lv_tableIn (tgt := 84) (off := 39) hx hb dX3_range_45 (by rw [c6]; decide) (by rw [c6]; decide) (by rw [c6]; rfl) (by decide) ?_
        refine lv_iload_n hx hb dX3_range_84 rfl (lv_at hl 1 rfl) ?_
        cases h
        exact zx_i hx hb hr hlocks hP hS (by decide) (by decide) dX3_range_85
      replace h := zf c6 h
      by_cases c7 : a2 = 1
      · replace h := zt c7 h
        refine lv_tableIn (tgt := 86) (off := 41) hx hb dX3_range_45 (by rw [c7]; decide) (by rw [c7]; decide) (by rw [c7]; rfl) (by decide) ?_
        refine lv_iload hx hb dX3_range_86 (lv_at hl 0 rfl) ?_
        refine lv_iload_n hx hb dX3_range_88 rfl (lv_at hl 1 rfl) ?_
        refine lv_isub hx hb dX3_range_89 ?_
        cases h
        exact zx_i hx hb hr hlocks hP hS (by decide) (by decide) dX3_range_90
      replace h := zf c7 h
      by_cases c8 : a2 = 2
      · replace h := zt c8 h
        refine lv_tableIn (tgt := 91) (off := 46) hx hb dX3_range_45 (by rw [c8]; decide) (by rw [c8]; decide) (by rw [c8]; rfl) (by decide) ?_
        refine lv_aload_n hx hb dX3_range_91 rfl (lv_at hl 2 rfl) ?_
        refine va_get (ci := 3) (v := .ref xd0) (C := RX3) (T := TX3) (N := 6) hx hb hts uX3_range_X3 hown hK hP 0 rfl rfl 1 (by decide) (hts _ mX3_range_19) (fun _ h9 => h9) rfl dX3_range_92 ?_
        refine lv_iload_n hx hb dX3_range_95 rfl (lv_at hl 1 rfl) ?_
        obtain ⟨r9, e9, h⟩ := zb h
        refine zV (As := [.int r4]) (rest := []) (zQi_q _) ⟨hx, hb, hml, hown, hts⟩ (kX0_timeOf l g xd0 xd1 xd2 xd3 xd4 b pF pL st tm qt cm ds dr r4 e9) (cwV 1 hts gX3_range_X0_timeOf rfl rfl rfl hdV_X0_timeOf ⟨Nat.le_of_ble_eq_true rfl, Nat.le_of_ble_eq_true rfl⟩) hK hP [4, 5, 6, 7, 8] rfl 4 rfl rfl rfl hl.1 rfl (Nat.le_of_ble_eq_true rfl) ⟨Nat.le_of_ble_eq_true rfl, Nat.le_of_ble_eq_true rfl⟩ dX3_range_96 ?_
        cases h
        exact zx_i hx hb hr hlocks hP hS (by decide) (by decide) dX3_range_99
      replace h := zf c8 h
      by_cases c10 : a2 = 3
      · replace h := zt c10 h
        refine lv_tableIn (tgt := 100) (off := 55) hx hb dX3_range_45 (by rw [c10]; decide) (by rw [c10]; decide) (by rw [c10]; rfl) (by decide) ?_
        refine lv_aload_n hx hb dX3_range_100 rfl (lv_at hl 2 rfl) ?_
        refine va_get (ci := 3) (v := .ref xd0) (C := RX3) (T := TX3) (N := 6) hx hb hts uX3_range_X3 hown hK hP 0 rfl rfl 1 (by decide) (hts _ mX3_range_19) (fun _ h9 => h9) rfl dX3_range_101 ?_
        refine lv_iload_n hx hb dX3_range_104 rfl (lv_at hl 1 rfl) ?_
        refine lv_iload hx hb dX3_range_105 (lv_at hl 0 rfl) ?_
        obtain ⟨r11, e11, h⟩ := zb h
        refine zV (As := [.int r4, .int r5]) (rest := []) (zQi_q _) ⟨hx, hb, hml, hown, hts⟩ (kX0_countPieces l g xd0 xd1 xd2 xd3 xd4 b pF pL st tm qt cm ds dr r4 r5 e11) (cwV 2 hts gX3_range_X0_countPieces rfl rfl rfl hdV_X0_countPieces ⟨Nat.le_of_ble_eq_true rfl, Nat.le_of_ble_eq_true rfl⟩) hK hP [4, 5, 6, 7, 8] rfl 4 rfl rfl rfl hl.1 rfl (Nat.le_of_ble_eq_true rfl) ⟨Nat.le_of_ble_eq_true rfl, Nat.le_of_ble_eq_true rfl⟩ dX3_range_107 ?_
        cases h
        exact zx_i hx hb hr hlocks hP hS (by decide) (by decide) dX3_range_110
      replace h := zf c10 h
      by_cases c12 : a2 = 4
      · replace h := zt c12 h
        refine lv_tableIn (tgt := 111) (off := 66) hx hb dX3_range_45 (by rw [c12]; decide) (by rw [c12]; decide) (by rw [c12]; rfl) (by decide) ?_
        refine lv_aload_n hx hb dX3_range_111 rfl (lv_at hl 2 rfl) ?_
        refine va_get (ci := 3) (v := .ref xd0) (C := RX3) (T := TX3) (N := 6) hx hb hts uX3_range_X3 hown hK hP 0 rfl rfl 1 (by decide) (hts _ mX3_range_19) (fun _ h9 => h9) rfl dX3_range_112 ?_
        refine lv_iload_n hx hb dX3_range_115 rfl (lv_at hl 1 rfl) ?_
        refine lv_iload hx hb dX3_range_116 (lv_at hl 0 rfl) ?_
        obtain ⟨r13, e13, h⟩ := zb h
        refine zV (As := [.int r4, .int r5]) (rest := []) (zQi_q _) ⟨hx, hb, hml, hown, hts⟩ (kX0_countGranules l g xd0 xd1 xd2 xd3 xd4 b pF pL st tm qt cm ds dr r4 r5 e13) (cwV 2 hts gX3_range_X0_countGranules rfl rfl rfl hdV_X0_countGranules ⟨Nat.le_of_ble_eq_true rfl, Nat.le_of_ble_eq_true rfl⟩) hK hP [4, 5, 6, 7, 8] rfl 4 rfl rfl rfl hl.1 rfl (Nat.le_of_ble_eq_true rfl) ⟨Nat.le_of_ble_eq_true rfl, Nat.le_of_ble_eq_true rfl⟩ dX3_range_118 ?_
        cases h
        exact zx_i hx hb hr hlocks hP hS (by decide) (by decide) dX3_range_121
      replace h := zf c12 h
      by_cases c14 : a2 = 5
      · replace h := zt c14 h
        refine lv_tableIn (tgt := 122) (off := 77) hx hb dX3_range_45 (by rw [c14]; decide) (by rw [c14]; decide) (by rw [c14]; rfl) (by decide) ?_
        refine lv_aload_n hx hb dX3_range_122 rfl (lv_at hl 2 rfl) ?_
        refine va_get (ci := 3) (v := .ref xd0) (C := RX3) (T := TX3) (N := 6) hx hb hts uX3_range_X3 hown hK hP 0 rfl rfl 1 (by decide) (hts _ mX3_range_19) (fun _ h9 => h9) rfl dX3_range_123 ?_
        refine lv_iload_n hx hb dX3_range_126 rfl (lv_at hl 1 rfl) ?_
        obtain ⟨r15, e15, h⟩ := zb h
        refine zV (As := [.int r4]) (rest := []) (zQi_q _) ⟨hx, hb, hml, hown, hts⟩ (kX0_isDue l g xd0 xd1 xd2 xd3 xd4 b pF pL st tm qt cm ds dr r4 e15) (cwV 1 hts gX3_range_X0_isDue rfl rfl rfl hdV_X0_isDue ⟨Nat.le_of_ble_eq_true rfl, Nat.le_of_ble_eq_true rfl⟩) hK hP [4, 5, 6, 7, 8] rfl 4 rfl rfl rfl hl.1 rfl (Nat.le_of_ble_eq_true rfl) ⟨Nat.le_of_ble_eq_true rfl, Nat.le_of_ble_eq_true rfl⟩ dX3_range_127 ?_
        refine lv_if_eq (tgt := 137) hx hb dX3_range_130 (by decide) (fun c16 => ?_) (fun c16 => ?_)
        · replace h := zt c16 h
          refine lv_iconst (v := 0) hx hb dX3_range_137 (by decide) ?_
          cases h
          exact zx_i hx hb hr hlocks hP hS (by decide) (by decide) dX3_range_138
        · replace h := zf c16 h
          refine lv_iconst (v := 1) hx hb dX3_range_133 (by decide) ?_
          refine lv_goto (tgt := 138) hx hb dX3_range_134 (by decide) ?_
          cases h
          exact zx_i hx hb hr hlocks hP hS (by decide) (by decide) dX3_range_138
      replace h := zf c14 h
      refine lv_tableOut (tgt := 139) hx hb dX3_range_45 (by have n6 := lv_neT (a := 0) c6 (by decide); have n7 := lv_neT (a := 1) c7 (by decide); have n8 := lv_neT (a := 2) c8 (by decide); have n10 := lv_neT (a := 3) c10 (by decide); have n12 := lv_neT (a := 4) c12 (by decide); have n14 := lv_neT (a := 5) c14 (by decide); omega) (by decide) ?_
      cases h
      exact zx_throw (text := "no such number of a range") hx hb htr hown hts (by decide) zEx_2 mX3_range_k41 mX3_range_j41 mX3_range_a41 zEb_2 zEg_2_41 zEf_2 zEn (by decide +kernel) hAm hP hS (hl.1.trans hml.symm) dX3_range_139 dX3_range_142 dX3_range_143 dX3_range_145 dX3_range_148 ht (Nat.le_of_ble_eq_true rfl) (Nat.le_of_ble_eq_true rfl) (Nat.le_of_ble_eq_true rfl) (Nat.le_of_ble_eq_true rfl) hlocks (by decide) (by decide)
    · replace h := zf c3 h
      cases h
      exact zx_throw (text := "no such range") hx hb htr hown hts (by decide) zEx_1 mX3_range_k158 mX3_range_j158 mX3_range_a158 zEb_1 zEg_1_158 zEf_1 zEn (by decide +kernel) hAm hP hS (hl.1.trans hml.symm) dX3_range_15 dX3_range_18 dX3_range_19 dX3_range_21 dX3_range_24 ht (Nat.le_of_ble_eq_true rfl) (Nat.le_of_ble_eq_true rfl) (Nat.le_of_ble_eq_true rfl) (Nat.le_of_ble_eq_true rfl) hlocks (by decide) (by decide)
theorem hdS_X3_checkPin : yX3_checkPin.cls ≠ "java/lang/invoke/MethodHandle" ∧ yX3_checkPin.cls ≠ "java/lang/invoke/VarHandle" ∧ (parseMethodDescriptor yX3_checkPin.desc).map (fun d => d.parameters.length) = some 1 := by decide +kernel
theorem hdV_X0_firstPinned : yX0_firstPinned.cls = RX0 ∧ yX0_firstPinned.cls ≠ "java/lang/invoke/MethodHandle" ∧ yX0_firstPinned.cls ≠ "java/lang/invoke/VarHandle" ∧ (parseMethodDescriptor yX0_firstPinned.desc).map (fun d => d.parameters.length) = some 1 := by decide +kernel
theorem hdV_X0_hasPin : yX0_hasPin.cls = RX0 ∧ yX0_hasPin.cls ≠ "java/lang/invoke/MethodHandle" ∧ yX0_hasPin.cls ≠ "java/lang/invoke/VarHandle" ∧ (parseMethodDescriptor yX0_hasPin.desc).map (fun d => d.parameters.length) = some 1 := by decide +kernel
theorem hdV_X0_lengthPinned : yX0_lengthPinned.cls = RX0 ∧ yX0_lengthPinned.cls ≠ "java/lang/invoke/MethodHandle" ∧ yX0_lengthPinned.cls ≠ "java/lang/invoke/VarHandle" ∧ (parseMethodDescriptor yX0_lengthPinned.desc).map (fun d => d.parameters.length) = some 1 := by decide +kernel
def fX3_pinned (pF : Nat → Int32) (pL : Nat → Int32) (a1 : Int32) (a2 : Int32) : Option (Int32 × Int32) :=
  ob (fX3_checkPin a1) fun k1 =>
  if k1 = 0 then
    if a2 = 0 then
      ob (fX0_hasPin pL a1) fun r3 =>
      if r3 = 0 then
        some (0, (-1))
      else
        if a2 = 0 then
          ob (fX0_firstPinned pF a1) fun r7 =>
          some (0, r7)
        else
          ob (fX0_lengthPinned pL a1) fun r6 =>
          some (0, r6)
    else
      if a2 = 1 then
        ob (fX0_hasPin pL a1) fun r9 =>
        if r9 = 0 then
          some (0, (-1))
        else
          if a2 = 0 then
            ob (fX0_firstPinned pF a1) fun r13 =>
            some (0, r13)
          else
            ob (fX0_lengthPinned pL a1) fun r12 =>
            some (0, r12)
      else
        some (2, 0)
  else some (k1, 0)
theorem mX3_pinned_19 : Cond.fieldLink RX3 19 "IdleDiscards" "device" "LIdleDiscards$Device;" ∈ wsX3_pinned := by decide +kernel
theorem uX3_pinned_X3 : ∀ w ∈ wsX30, w ∈ wsX3_pinned := by decide +kernel
theorem mX3_pinned_k41 : Cond.classLink RX3 41 (zE 2) ∈ wsX3_pinned := by decide +kernel
theorem mX3_pinned_j41 : Cond.initialized (zE 2) ∈ wsX3_pinned := by decide +kernel
theorem mX3_pinned_a41 : ∀ w ∈ (vx_atS RX3 45 (zE 2) ["java/lang/RuntimeException", "java/lang/Exception"]).filter goodWord, w ∈ wsX3_pinned := by decide +kernel
set_option maxRecDepth 100000 in
set_option maxHeartbeats 4000000 in
theorem kX3_pinned (l : Launch) (g : zG) (h0 xt0 xt1 xt2 xd0 xd1 xd2 xd3 xd4 xc0 xc1 xc2 xc3 xc4 xp0 xp1 xs0 xu0 xe0 xe1 xe2 xe3 xe4 xf0 xf1 xf2 xf3 xf4 : Nat) (ad : Nat → Nat → Nat) (ch : Nat → Int32) (nu : Nat → Int32) (le : Int32) (ta : Int32) (lt : Int32) (b : Nat → Int32) (pF : Nat → Int32) (pL : Nat → Int32) (st : Nat → Int32) (tm : Int32) (qt : Int32) (cm : Int32) (ds : Int32) (dr : Int32) (bC : Nat → Int32) (pFC : Nat → Int32) (pLC : Nat → Int32) (stC : Nat → Int32) (tmC : Int32) (qtC : Int32) (cmC : Int32) (dsC : Int32) (drC : Int32) (ol : Int32) (pz : Int32) (dvs : Nat → zDv) (us : Nat → Int32) (bS : Nat → Int32) (pFS : Nat → Int32) (pLS : Nat → Int32) (stS : Nat → Int32) (tmS : Int32) (qtS : Int32) (cmS : Int32) (dsS : Int32) (drS : Int32) (bT : Nat → Int32) (pFT : Nat → Int32) (pLT : Nat → Int32) (stT : Nat → Int32) (tmT : Int32) (qtT : Int32) (cmT : Int32) (dsT : Int32) (drT : Int32) (a1 : Int32) (a2 : Int32) (htr : l.stackTraces = false) {k : Int32} {r : Int32} (h : fX3_pinned pF pL a1 a2 = some (k, r)) : Mx l g yX3_pinned wsX3_pinned { frames := 7, cells := 2, slots := 12, locals := 102 } [.ref h0, .int a1, .int a2] (zI g h0 xt0 xt1 xt2 xd0 xd1 xd2 xd3 xd4 xc0 xc1 xc2 xc3 xc4 xp0 xp1 xs0 xu0 xe0 xe1 xe2 xe3 xe4 xf0 xf1 xf2 xf3 xf4 ad ch nu le ta lt b pF pL st tm qt cm ds dr bC pFC pLC stC tmC qtC cmC dsC drC ol pz dvs us bS pFS pLS stS tmS qtS cmS dsS drS bT pFT pLT stT tmT qtT cmT dsT drT) (zXi g (zI g h0 xt0 xt1 xt2 xd0 xd1 xd2 xd3 xd4 xc0 xc1 xc2 xc3 xc4 xp0 xp1 xs0 xu0 xe0 xe1 xe2 xe3 xe4 xf0 xf1 xf2 xf3 xf4 ad ch nu le ta lt b pF pL st tm qt cm ds dr bC pFC pLC stC tmC qtC cmC dsC drC ol pz dvs us bS pFS pLS stS tmS qtS cmS dsS drS bT pFT pLT stT tmT qtT cmT dsT drT) k r) (zXx g (zI g h0 xt0 xt1 xt2 xd0 xd1 xd2 xd3 xd4 xc0 xc1 xc2 xc3 xc4 xp0 xp1 xs0 xu0 xe0 xe1 xe2 xe3 xe4 xf0 xf1 xf2 xf3 xf4 ad ch nu le ta lt b pF pL st tm qt cm ds dr bC pFC pLC stC tmC qtC cmC dsC drC ol pz dvs us bS pFS pLS stS tmS qtS cmS dsS drS bT pFT pLT stT tmT qtT cmT dsT drT) k) 2 12 := by
  refine zx_in (cc := cX3_pinned) (maxL := 3) (ret := (some .int)) (by decide) rfl (Nat.le_of_ble_eq_true rfl) ?_
  intro p e s m below meth c hx hb hr hml hts hown hlocks hK ht A hA hP hD hS hAm ls hl
  replace hl : lv_has ls 3 [(0, .ref h0), (1, .int a1), (2, .int a2)] := hl
  unfold fX3_pinned at h
  refine lv_iload_n hx hb dX3_pinned_0 rfl (lv_at hl 1 rfl) ?_
  obtain ⟨k1, e1, h⟩ := zb h
  refine zSx (As := [.int a1]) (rest := []) (zXv_q g _ _) (zXx_q g _ _) ⟨hx, hb, hml, hown, hts⟩ (kX3_checkPin l g a1 htr e1) (va_cwS 1 hts gX3_pinned_X3_checkPin rfl rfl rfl hdS_X3_checkPin ⟨Nat.le_of_ble_eq_true rfl, Nat.le_of_ble_eq_true rfl⟩) hK hP hD hS hA hAm [] (by decide) rfl rfl rfl hl.1 rfl (Nat.le_of_ble_eq_true rfl) ⟨Nat.le_of_ble_eq_true rfl, Nat.le_of_ble_eq_true rfl⟩ dX3_pinned_1 (fun c1 H locs q ce hP hD hS hq1 hq2 hq3 => ?_) (fun c1 H locs hP hD hS => ?_)
  · replace h := zf c1 h
    replace hP : zP g (zI g h0 xt0 xt1 xt2 xd0 xd1 xd2 xd3 xd4 xc0 xc1 xc2 xc3 xc4 xp0 xp1 xs0 xu0 xe0 xe1 xe2 xe3 xe4 xf0 xf1 xf2 xf3 xf4 ad ch nu le ta lt b pF pL st tm qt cm ds dr bC pFC pLC stC tmC qtC cmC dsC drC ol pz dvs us bS pFS pLS stS tmS qtS cmS dsS drS bT pFT pLT stT tmT qtT cmT dsT drT) H := hP
    cases h
    exact zx_out ht hlocks c1 hP hS hq1 hq2 hq3 (by decide) (by decide)
  · replace h := zt c1 h
    replace hP : zP g (zI g h0 xt0 xt1 xt2 xd0 xd1 xd2 xd3 xd4 xc0 xc1 xc2 xc3 xc4 xp0 xp1 xs0 xu0 xe0 xe1 xe2 xe3 xe4 xf0 xf1 xf2 xf3 xf4 ad ch nu le ta lt b pF pL st tm qt cm ds dr bC pFC pLC stC tmC qtC cmC dsC drC ol pz dvs us bS pFS pLS stS tmS qtS cmS dsS drS bT pFT pLT stT tmT qtT cmT dsT drT) H := hP
    replace hD : va_D A (zI g h0 xt0 xt1 xt2 xd0 xd1 xd2 xd3 xd4 xc0 xc1 xc2 xc3 xc4 xp0 xp1 xs0 xu0 xe0 xe1 xe2 xe3 xe4 xf0 xf1 xf2 xf3 xf4 ad ch nu le ta lt b pF pL st tm qt cm ds dr bC pFC pLC stC tmC qtC cmC dsC drC ol pz dvs us bS pFS pLS stS tmS qtS cmS dsS drS bT pFT pLT stT tmT qtT cmT dsT drT) := hD
    refine lv_iload_n hx hb dX3_pinned_4 rfl (lv_at hl 2 rfl) ?_
    refine lv_if_eq (tgt := 23) hx hb dX3_pinned_5 (by decide) (fun c2 => ?_) (fun c2 => ?_)
    · replace h := zt c2 h
      refine lv_aload_n hx hb dX3_pinned_23 rfl (lv_at hl 0 rfl) ?_
      refine va_get (ci := 3) (v := .ref xd0) (C := RX3) (T := TX3) (N := 6) hx hb hts uX3_pinned_X3 hown hK hP 0 rfl rfl 1 (by decide) (hts _ mX3_pinned_19) (fun _ h9 => h9) rfl dX3_pinned_24 ?_
      refine lv_iload_n hx hb dX3_pinned_27 rfl (lv_at hl 1 rfl) ?_
      obtain ⟨r3, e3, h⟩ := zb h
      refine zV (As := [.int a1]) (rest := []) (zQi_q _) ⟨hx, hb, hml, hown, hts⟩ (kX0_hasPin l g xd0 xd1 xd2 xd3 xd4 b pF pL st tm qt cm ds dr a1 e3) (cwV 1 hts gX3_pinned_X0_hasPin rfl rfl rfl hdV_X0_hasPin ⟨Nat.le_of_ble_eq_true rfl, Nat.le_of_ble_eq_true rfl⟩) hK hP [4, 5, 6, 7, 8] rfl 4 rfl rfl rfl hl.1 rfl (Nat.le_of_ble_eq_true rfl) ⟨Nat.le_of_ble_eq_true rfl, Nat.le_of_ble_eq_true rfl⟩ dX3_pinned_28 ?_
      refine lv_if_ne (tgt := 36) hx hb dX3_pinned_31 (by decide) (fun c4 => ?_) (fun c4 => ?_)
      · replace h := zf c4 h
        refine lv_iload_n hx hb dX3_pinned_36 rfl (lv_at hl 2 rfl) ?_
        refine lv_if_ne (tgt := 51) hx hb dX3_pinned_37 (by decide) (fun c5 => ?_) (fun c5 => ?_)
        · replace h := zf c5 h
          refine lv_aload_n hx hb dX3_pinned_51 rfl (lv_at hl 0 rfl) ?_
          refine va_get (ci := 3) (v := .ref xd0) (C := RX3) (T := TX3) (N := 6) hx hb hts uX3_pinned_X3 hown hK hP 0 rfl rfl 1 (by decide) (hts _ mX3_pinned_19) (fun _ h9 => h9) rfl dX3_pinned_52 ?_
          refine lv_iload_n hx hb dX3_pinned_55 rfl (lv_at hl 1 rfl) ?_
          obtain ⟨r6, e6, h⟩ := zb h
          refine zV (As := [.int a1]) (rest := []) (zQi_q _) ⟨hx, hb, hml, hown, hts⟩ (kX0_lengthPinned l g xd0 xd1 xd2 xd3 xd4 b pF pL st tm qt cm ds dr a1 e6) (cwV 1 hts gX3_pinned_X0_lengthPinned rfl rfl rfl hdV_X0_lengthPinned ⟨Nat.le_of_ble_eq_true rfl, Nat.le_of_ble_eq_true rfl⟩) hK hP [4, 5, 6, 7, 8] rfl 4 rfl rfl rfl hl.1 rfl (Nat.le_of_ble_eq_true rfl) ⟨Nat.le_of_ble_eq_true rfl, Nat.le_of_ble_eq_true rfl⟩ dX3_pinned_56 ?_
          cases h
          exact zx_i hx hb hr hlocks hP hS (by decide) (by decide) dX3_pinned_59
        · replace h := zt c5 h
          refine lv_aload_n hx hb dX3_pinned_40 rfl (lv_at hl 0 rfl) ?_
          refine va_get (ci := 3) (v := .ref xd0) (C := RX3) (T := TX3) (N := 6) hx hb hts uX3_pinned_X3 hown hK hP 0 rfl rfl 1 (by decide) (hts _ mX3_pinned_19) (fun _ h9 => h9) rfl dX3_pinned_41 ?_
          refine lv_iload_n hx hb dX3_pinned_44 rfl (lv_at hl 1 rfl) ?_
          obtain ⟨r7, e7, h⟩ := zb h
          refine zV (As := [.int a1]) (rest := []) (zQi_q _) ⟨hx, hb, hml, hown, hts⟩ (kX0_firstPinned l g xd0 xd1 xd2 xd3 xd4 b pF pL st tm qt cm ds dr a1 e7) (cwV 1 hts gX3_pinned_X0_firstPinned rfl rfl rfl hdV_X0_firstPinned ⟨Nat.le_of_ble_eq_true rfl, Nat.le_of_ble_eq_true rfl⟩) hK hP [4, 5, 6, 7, 8] rfl 4 rfl rfl rfl hl.1 rfl (Nat.le_of_ble_eq_true rfl) ⟨Nat.le_of_ble_eq_true rfl, Nat.le_of_ble_eq_true rfl⟩ dX3_pinned_45 ?_
          refine lv_goto (tgt := 59) hx hb dX3_pinned_48 (by decide) ?_
          cases h
          exact zx_i hx hb hr hlocks hP hS (by decide) (by decide) dX3_pinned_59
      · replace h := zt c4 h
        refine lv_iconst (v := (-1)) hx hb dX3_pinned_34 (by decide) ?_
        cases h
        exact zx_i hx hb hr hlocks hP hS (by decide) (by decide) dX3_pinned_35
    · replace h := zf c2 h
      refine lv_iload_n hx hb dX3_pinned_8 rfl (lv_at hl 2 rfl) ?_
      refine lv_iconst (v := 1) hx hb dX3_pinned_9 (by decide) ?_
      refine lv_icmp_eq (tgt := 23) hx hb dX3_pinned_10 (by decide) (fun c8 => ?_) (fun c8 => ?_)
      · replace h := zt c8 h
        refine lv_aload_n hx hb dX3_pinned_23 rfl (lv_at hl 0 rfl) ?_
        refine va_get (ci := 3) (v := .ref xd0) (C := RX3) (T := TX3) (N := 6) hx hb hts uX3_pinned_X3 hown hK hP 0 rfl rfl 1 (by decide) (hts _ mX3_pinned_19) (fun _ h9 => h9) rfl dX3_pinned_24 ?_
        refine lv_iload_n hx hb dX3_pinned_27 rfl (lv_at hl 1 rfl) ?_
        obtain ⟨r9, e9, h⟩ := zb h
        refine zV (As := [.int a1]) (rest := []) (zQi_q _) ⟨hx, hb, hml, hown, hts⟩ (kX0_hasPin l g xd0 xd1 xd2 xd3 xd4 b pF pL st tm qt cm ds dr a1 e9) (cwV 1 hts gX3_pinned_X0_hasPin rfl rfl rfl hdV_X0_hasPin ⟨Nat.le_of_ble_eq_true rfl, Nat.le_of_ble_eq_true rfl⟩) hK hP [4, 5, 6, 7, 8] rfl 4 rfl rfl rfl hl.1 rfl (Nat.le_of_ble_eq_true rfl) ⟨Nat.le_of_ble_eq_true rfl, Nat.le_of_ble_eq_true rfl⟩ dX3_pinned_28 ?_
        refine lv_if_ne (tgt := 36) hx hb dX3_pinned_31 (by decide) (fun c10 => ?_) (fun c10 => ?_)
        · replace h := zf c10 h
          refine lv_iload_n hx hb dX3_pinned_36 rfl (lv_at hl 2 rfl) ?_
          refine lv_if_ne (tgt := 51) hx hb dX3_pinned_37 (by decide) (fun c11 => ?_) (fun c11 => ?_)
          · replace h := zf c11 h
            refine lv_aload_n hx hb dX3_pinned_51 rfl (lv_at hl 0 rfl) ?_
            refine va_get (ci := 3) (v := .ref xd0) (C := RX3) (T := TX3) (N := 6) hx hb hts uX3_pinned_X3 hown hK hP 0 rfl rfl 1 (by decide) (hts _ mX3_pinned_19) (fun _ h9 => h9) rfl dX3_pinned_52 ?_
            refine lv_iload_n hx hb dX3_pinned_55 rfl (lv_at hl 1 rfl) ?_
            obtain ⟨r12, e12, h⟩ := zb h
            refine zV (As := [.int a1]) (rest := []) (zQi_q _) ⟨hx, hb, hml, hown, hts⟩ (kX0_lengthPinned l g xd0 xd1 xd2 xd3 xd4 b pF pL st tm qt cm ds dr a1 e12) (cwV 1 hts gX3_pinned_X0_lengthPinned rfl rfl rfl hdV_X0_lengthPinned ⟨Nat.le_of_ble_eq_true rfl, Nat.le_of_ble_eq_true rfl⟩) hK hP [4, 5, 6, 7, 8] rfl 4 rfl rfl rfl hl.1 rfl (Nat.le_of_ble_eq_true rfl) ⟨Nat.le_of_ble_eq_true rfl, Nat.le_of_ble_eq_true rfl⟩ dX3_pinned_56 ?_
            cases h
            exact zx_i hx hb hr hlocks hP hS (by decide) (by decide) dX3_pinned_59
          · replace h := zt c11 h
            refine lv_aload_n hx hb dX3_pinned_40 rfl (lv_at hl 0 rfl) ?_
            refine va_get (ci := 3) (v := .ref xd0) (C := RX3) (T := TX3) (N := 6) hx hb hts uX3_pinned_X3 hown hK hP 0 rfl rfl 1 (by decide) (hts _ mX3_pinned_19) (fun _ h9 => h9) rfl dX3_pinned_41 ?_
            refine lv_iload_n hx hb dX3_pinned_44 rfl (lv_at hl 1 rfl) ?_
            obtain ⟨r13, e13, h⟩ := zb h
            refine zV (As := [.int a1]) (rest := []) (zQi_q _) ⟨hx, hb, hml, hown, hts⟩ (kX0_firstPinned l g xd0 xd1 xd2 xd3 xd4 b pF pL st tm qt cm ds dr a1 e13) (cwV 1 hts gX3_pinned_X0_firstPinned rfl rfl rfl hdV_X0_firstPinned ⟨Nat.le_of_ble_eq_true rfl, Nat.le_of_ble_eq_true rfl⟩) hK hP [4, 5, 6, 7, 8] rfl 4 rfl rfl rfl hl.1 rfl (Nat.le_of_ble_eq_true rfl) ⟨Nat.le_of_ble_eq_true rfl, Nat.le_of_ble_eq_true rfl⟩ dX3_pinned_45 ?_
            refine lv_goto (tgt := 59) hx hb dX3_pinned_48 (by decide) ?_
            cases h
            exact zx_i hx hb hr hlocks hP hS (by decide) (by decide) dX3_pinned_59
        · replace h := zt c10 h
          refine lv_iconst (v := (-1)) hx hb dX3_pinned_34 (by decide) ?_
          cases h
          exact zx_i hx hb hr hlocks hP hS (by decide) (by decide) dX3_pinned_35
      · replace h := zf c8 h
        cases h
        exact zx_throw (text := "no such number of a pin") hx hb htr hown hts (by decide) zEx_2 mX3_pinned_k41 mX3_pinned_j41 mX3_pinned_a41 zEb_2 zEg_2_41 zEf_2 zEn (by decide +kernel) hAm hP hS (hl.1.trans hml.symm) dX3_pinned_13 dX3_pinned_16 dX3_pinned_17 dX3_pinned_19 dX3_pinned_22 ht (Nat.le_of_ble_eq_true rfl) (Nat.le_of_ble_eq_true rfl) (Nat.le_of_ble_eq_true rfl) (Nat.le_of_ble_eq_true rfl) hlocks (by decide) (by decide)
theorem hdV_X0_settingAt : yX0_settingAt.cls = RX0 ∧ yX0_settingAt.cls ≠ "java/lang/invoke/MethodHandle" ∧ yX0_settingAt.cls ≠ "java/lang/invoke/VarHandle" ∧ (parseMethodDescriptor yX0_settingAt.desc).map (fun d => d.parameters.length) = some 1 := by decide +kernel
def fX3_setting (st : Nat → Int32) (a1 : Int32) : Option (Int32 × Int32) :=
  ob (fX3_isSetting a1) fun r1 =>
  if r1 = 0 then
    some (2, 0)
  else
    ob (fX0_settingAt st a1) fun r3 =>
    some (0, r3)
theorem mX3_setting_19 : Cond.fieldLink RX3 19 "IdleDiscards" "device" "LIdleDiscards$Device;" ∈ wsX3_setting := by decide +kernel
theorem uX3_setting_X3 : ∀ w ∈ wsX30, w ∈ wsX3_setting := by decide +kernel
theorem mX3_setting_k41 : Cond.classLink RX3 41 (zE 2) ∈ wsX3_setting := by decide +kernel
theorem mX3_setting_j41 : Cond.initialized (zE 2) ∈ wsX3_setting := by decide +kernel
theorem mX3_setting_a41 : ∀ w ∈ (vx_atS RX3 45 (zE 2) ["java/lang/RuntimeException", "java/lang/Exception"]).filter goodWord, w ∈ wsX3_setting := by decide +kernel
set_option maxRecDepth 100000 in
set_option maxHeartbeats 4000000 in
theorem kX3_setting (l : Launch) (g : zG) (h0 xt0 xt1 xt2 xd0 xd1 xd2 xd3 xd4 xc0 xc1 xc2 xc3 xc4 xp0 xp1 xs0 xu0 xe0 xe1 xe2 xe3 xe4 xf0 xf1 xf2 xf3 xf4 : Nat) (ad : Nat → Nat → Nat) (ch : Nat → Int32) (nu : Nat → Int32) (le : Int32) (ta : Int32) (lt : Int32) (b : Nat → Int32) (pF : Nat → Int32) (pL : Nat → Int32) (st : Nat → Int32) (tm : Int32) (qt : Int32) (cm : Int32) (ds : Int32) (dr : Int32) (bC : Nat → Int32) (pFC : Nat → Int32) (pLC : Nat → Int32) (stC : Nat → Int32) (tmC : Int32) (qtC : Int32) (cmC : Int32) (dsC : Int32) (drC : Int32) (ol : Int32) (pz : Int32) (dvs : Nat → zDv) (us : Nat → Int32) (bS : Nat → Int32) (pFS : Nat → Int32) (pLS : Nat → Int32) (stS : Nat → Int32) (tmS : Int32) (qtS : Int32) (cmS : Int32) (dsS : Int32) (drS : Int32) (bT : Nat → Int32) (pFT : Nat → Int32) (pLT : Nat → Int32) (stT : Nat → Int32) (tmT : Int32) (qtT : Int32) (cmT : Int32) (dsT : Int32) (drT : Int32) (a1 : Int32) (htr : l.stackTraces = false) {k : Int32} {r : Int32} (h : fX3_setting st a1 = some (k, r)) : Mx l g yX3_setting wsX3_setting { frames := 6, cells := 1, slots := 6, locals := 82 } [.ref h0, .int a1] (zI g h0 xt0 xt1 xt2 xd0 xd1 xd2 xd3 xd4 xc0 xc1 xc2 xc3 xc4 xp0 xp1 xs0 xu0 xe0 xe1 xe2 xe3 xe4 xf0 xf1 xf2 xf3 xf4 ad ch nu le ta lt b pF pL st tm qt cm ds dr bC pFC pLC stC tmC qtC cmC dsC drC ol pz dvs us bS pFS pLS stS tmS qtS cmS dsS drS bT pFT pLT stT tmT qtT cmT dsT drT) (zXi g (zI g h0 xt0 xt1 xt2 xd0 xd1 xd2 xd3 xd4 xc0 xc1 xc2 xc3 xc4 xp0 xp1 xs0 xu0 xe0 xe1 xe2 xe3 xe4 xf0 xf1 xf2 xf3 xf4 ad ch nu le ta lt b pF pL st tm qt cm ds dr bC pFC pLC stC tmC qtC cmC dsC drC ol pz dvs us bS pFS pLS stS tmS qtS cmS dsS drS bT pFT pLT stT tmT qtT cmT dsT drT) k r) (zXx g (zI g h0 xt0 xt1 xt2 xd0 xd1 xd2 xd3 xd4 xc0 xc1 xc2 xc3 xc4 xp0 xp1 xs0 xu0 xe0 xe1 xe2 xe3 xe4 xf0 xf1 xf2 xf3 xf4 ad ch nu le ta lt b pF pL st tm qt cm ds dr bC pFC pLC stC tmC qtC cmC dsC drC ol pz dvs us bS pFS pLS stS tmS qtS cmS dsS drS bT pFT pLT stT tmT qtT cmT dsT drT) k) 1 6 := by
  refine zx_in (cc := cX3_setting) (maxL := 2) (ret := (some .int)) (by decide) rfl (Nat.le_of_ble_eq_true rfl) ?_
  intro p e s m below meth c hx hb hr hml hts hown hlocks hK ht A hA hP hD hS hAm ls hl
  replace hl : lv_has ls 2 [(0, .ref h0), (1, .int a1)] := hl
  unfold fX3_setting at h
  refine lv_iload_n hx hb dX3_setting_0 rfl (lv_at hl 1 rfl) ?_
  obtain ⟨r1, e1, h⟩ := zb h
  refine zS (As := [.int a1]) (rest := []) (zQi_q _) ⟨hx, hb, hml, hown, hts⟩ (kX3_isSetting l g a1 e1) (va_cwS 1 hts gX3_setting_X3_isSetting rfl rfl rfl hdS_X3_isSetting ⟨Nat.le_of_ble_eq_true rfl, Nat.le_of_ble_eq_true rfl⟩) hK hP [] rfl rfl hl.1 rfl (Nat.le_of_ble_eq_true rfl) ⟨Nat.le_of_ble_eq_true rfl, Nat.le_of_ble_eq_true rfl⟩ dX3_setting_1 ?_
  refine lv_if_ne (tgt := 17) hx hb dX3_setting_4 (by decide) (fun c2 => ?_) (fun c2 => ?_)
  · replace h := zf c2 h
    refine lv_aload_n hx hb dX3_setting_17 rfl (lv_at hl 0 rfl) ?_
    refine va_get (ci := 3) (v := .ref xd0) (C := RX3) (T := TX3) (N := 6) hx hb hts uX3_setting_X3 hown hK hP 0 rfl rfl 1 (by decide) (hts _ mX3_setting_19) (fun _ h9 => h9) rfl dX3_setting_18 ?_
    refine lv_iload_n hx hb dX3_setting_21 rfl (lv_at hl 1 rfl) ?_
    obtain ⟨r3, e3, h⟩ := zb h
    refine zV (As := [.int a1]) (rest := []) (zQi_q _) ⟨hx, hb, hml, hown, hts⟩ (kX0_settingAt l g xd0 xd1 xd2 xd3 xd4 b pF pL st tm qt cm ds dr a1 e3) (cwV 1 hts gX3_setting_X0_settingAt rfl rfl rfl hdV_X0_settingAt ⟨Nat.le_of_ble_eq_true rfl, Nat.le_of_ble_eq_true rfl⟩) hK hP [4, 5, 6, 7, 8] rfl 4 rfl rfl rfl hl.1 rfl (Nat.le_of_ble_eq_true rfl) ⟨Nat.le_of_ble_eq_true rfl, Nat.le_of_ble_eq_true rfl⟩ dX3_setting_22 ?_
    cases h
    exact zx_i hx hb hr hlocks hP hS (by decide) (by decide) dX3_setting_25
  · replace h := zt c2 h
    cases h
    exact zx_throw (text := "no such setting") hx hb htr hown hts (by decide) zEx_2 mX3_setting_k41 mX3_setting_j41 mX3_setting_a41 zEb_2 zEg_2_41 zEf_2 zEn (by decide +kernel) hAm hP hS (hl.1.trans hml.symm) dX3_setting_7 dX3_setting_10 dX3_setting_11 dX3_setting_13 dX3_setting_16 ht (Nat.le_of_ble_eq_true rfl) (Nat.le_of_ble_eq_true rfl) (Nat.le_of_ble_eq_true rfl) (Nat.le_of_ble_eq_true rfl) hlocks (by decide) (by decide)
