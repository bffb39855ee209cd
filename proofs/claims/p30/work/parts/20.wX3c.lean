theorem hdS_X3_checkSpan : yX3_checkSpan.cls ≠ "java/lang/invoke/MethodHandle" ∧ yX3_checkSpan.cls ≠ "java/lang/invoke/VarHandle" ∧ (parseMethodDescriptor yX3_checkSpan.desc).map (fun d => d.parameters.length) = some 2 := by decide +kernel
theorem hdV_X1_remember : yX1_remember.cls = RX1 ∧ yX1_remember.cls ≠ "java/lang/invoke/MethodHandle" ∧ yX1_remember.cls ≠ "java/lang/invoke/VarHandle" ∧ (parseMethodDescriptor yX1_remember.desc).map (fun d => d.parameters.length) = some 1 := by decide +kernel
def fX3_write (b : Nat → Int32) (pF : Nat → Int32) (pL : Nat → Int32) (st : Nat → Int32) (tm : Int32) (qt : Int32) (cm : Int32) (ds : Int32) (dr : Int32) (ol : Int32) (pz : Int32) (dvs : Nat → zDv) (a1 : Int32) (a2 : Int32) : Option (Int32 × Int32 × (Nat → Int32) × (Int32) × (Int32) × (Int32) × (Int32) × (Nat → zDv)) :=
  ob (fX3_checkSpan a1 a2) fun k1 =>
  if k1 = 0 then
    ob3 (fX1_remember ol pz dvs b pF pL st tm qt cm ds dr) fun ol2 pz2 dvs2 =>
    ob4 (fX0_writeSpan b qt dr a1 a2) fun r3 b3 qt3 dr3 =>
    some (0, r3, b3, qt3, dr3, ol2, pz2, dvs2)
  else some (k1, 0, b, qt, dr, ol, pz, dvs)
theorem mX3_write_29 : Cond.fieldLink RX3 29 "IdleDiscards" "past" "LIdleDiscards$Past;" ∈ wsX3_write := by decide +kernel
theorem uX3_write_X3 : ∀ w ∈ wsX30, w ∈ wsX3_write := by decide +kernel
theorem mX3_write_19 : Cond.fieldLink RX3 19 "IdleDiscards" "device" "LIdleDiscards$Device;" ∈ wsX3_write := by decide +kernel
set_option maxRecDepth 100000 in
set_option maxHeartbeats 4000000 in
theorem kX3_write (l : Launch) (g : zG) (h0 xt0 xt1 xt2 xd0 xd1 xd2 xd3 xd4 xc0 xc1 xc2 xc3 xc4 xp0 xp1 xs0 xu0 xe0 xe1 xe2 xe3 xe4 xf0 xf1 xf2 xf3 xf4 : Nat) (ad : Nat → Nat → Nat) (ch : Nat → Int32) (nu : Nat → Int32) (le : Int32) (ta : Int32) (lt : Int32) (b : Nat → Int32) (pF : Nat → Int32) (pL : Nat → Int32) (st : Nat → Int32) (tm : Int32) (qt : Int32) (cm : Int32) (ds : Int32) (dr : Int32) (bC : Nat → Int32) (pFC : Nat → Int32) (pLC : Nat → Int32) (stC : Nat → Int32) (tmC : Int32) (qtC : Int32) (cmC : Int32) (dsC : Int32) (drC : Int32) (ol : Int32) (pz : Int32) (dvs : Nat → zDv) (us : Nat → Int32) (bS : Nat → Int32) (pFS : Nat → Int32) (pLS : Nat → Int32) (stS : Nat → Int32) (tmS : Int32) (qtS : Int32) (cmS : Int32) (dsS : Int32) (drS : Int32) (bT : Nat → Int32) (pFT : Nat → Int32) (pLT : Nat → Int32) (stT : Nat → Int32) (tmT : Int32) (qtT : Int32) (cmT : Int32) (dsT : Int32) (drT : Int32) (a1 : Int32) (a2 : Int32) (htr : l.stackTraces = false) {k : Int32} {r : Int32} {b' : Nat → Int32} {qt' : Int32} {dr' : Int32} {ol' : Int32} {pz' : Int32} {dvs' : Nat → zDv} (h : fX3_write b pF pL st tm qt cm ds dr ol pz dvs a1 a2 = some (k, r, b', qt', dr', ol', pz', dvs')) : Mx l g yX3_write wsX3_write { frames := 8, cells := 2, slots := 12, locals := 123 } [.ref h0, .int a1, .int a2] (zI g h0 xt0 xt1 xt2 xd0 xd1 xd2 xd3 xd4 xc0 xc1 xc2 xc3 xc4 xp0 xp1 xs0 xu0 xe0 xe1 xe2 xe3 xe4 xf0 xf1 xf2 xf3 xf4 ad ch nu le ta lt b pF pL st tm qt cm ds dr bC pFC pLC stC tmC qtC cmC dsC drC ol pz dvs us bS pFS pLS stS tmS qtS cmS dsS drS bT pFT pLT stT tmT qtT cmT dsT drT) (zXi g (zI g h0 xt0 xt1 xt2 xd0 xd1 xd2 xd3 xd4 xc0 xc1 xc2 xc3 xc4 xp0 xp1 xs0 xu0 xe0 xe1 xe2 xe3 xe4 xf0 xf1 xf2 xf3 xf4 ad ch nu le ta lt b' pF pL st tm qt' cm ds dr' bC pFC pLC stC tmC qtC cmC dsC drC ol' pz' dvs' us bS pFS pLS stS tmS qtS cmS dsS drS bT pFT pLT stT tmT qtT cmT dsT drT) k r) (zXx g (zI g h0 xt0 xt1 xt2 xd0 xd1 xd2 xd3 xd4 xc0 xc1 xc2 xc3 xc4 xp0 xp1 xs0 xu0 xe0 xe1 xe2 xe3 xe4 xf0 xf1 xf2 xf3 xf4 ad ch nu le ta lt b' pF pL st tm qt' cm ds dr' bC pFC pLC stC tmC qtC cmC dsC drC ol' pz' dvs' us bS pFS pLS stS tmS qtS cmS dsS drS bT pFT pLT stT tmT qtT cmT dsT drT) k) 2 12 := by
  refine zx_in (cc := cX3_write) (maxL := 3) (ret := (some .int)) (by decide) rfl (Nat.le_of_ble_eq_true rfl) ?_
  intro p e s m below meth c hx hb hr hml hts hown hlocks hK ht A hA hP hD hS hAm ls hl
  replace hl : lv_has ls 3 [(0, .ref h0), (1, .int a1), (2, .int a2)] := hl
  unfold fX3_write at h
  refine lv_iload_n hx hb dX3_write_0 rfl (lv_at hl 1 rfl) ?_
  refine lv_iload_n hx hb dX3_write_1 rfl (lv_at hl 2 rfl) ?_
  obtain ⟨k1, e1, h⟩ := zb h
  refine zSx (As := [.int a1, .int a2]) (rest := []) (zXv_q g _ _) (zXx_q g _ _) ⟨hx, hb, hml, hown, hts⟩ (kX3_checkSpan l g a1 a2 htr e1) (va_cwS 2 hts gX3_write_X3_checkSpan rfl rfl rfl hdS_X3_checkSpan ⟨Nat.le_of_ble_eq_true rfl, Nat.le_of_ble_eq_true rfl⟩) hK hP hD hS hA hAm [] (by decide) rfl rfl rfl hl.1 rfl (Nat.le_of_ble_eq_true rfl) ⟨Nat.le_of_ble_eq_true rfl, Nat.le_of_ble_eq_true rfl⟩ dX3_write_2 (fun c1 H locs q ce hP hD hS hq1 hq2 hq3 => ?_) (fun c1 H locs hP hD hS => ?_)
  · replace h := zf c1 h
    replace hP : zP g (zI g h0 xt0 xt1 xt2 xd0 xd1 xd2 xd3 xd4 xc0 xc1 xc2 xc3 xc4 xp0 xp1 xs0 xu0 xe0 xe1 xe2 xe3 xe4 xf0 xf1 xf2 xf3 xf4 ad ch nu le ta lt b pF pL st tm qt cm ds dr bC pFC pLC stC tmC qtC cmC dsC drC ol pz dvs us bS pFS pLS stS tmS qtS cmS dsS drS bT pFT pLT stT tmT qtT cmT dsT drT) H := hP
    cases h
    exact zx_out ht hlocks c1 hP hS hq1 hq2 hq3 (by decide) (by decide)
  · replace h := zt c1 h
    replace hP : zP g (zI g h0 xt0 xt1 xt2 xd0 xd1 xd2 xd3 xd4 xc0 xc1 xc2 xc3 xc4 xp0 xp1 xs0 xu0 xe0 xe1 xe2 xe3 xe4 xf0 xf1 xf2 xf3 xf4 ad ch nu le ta lt b pF pL st tm qt cm ds dr bC pFC pLC stC tmC qtC cmC dsC drC ol pz dvs us bS pFS pLS stS tmS qtS cmS dsS drS bT pFT pLT stT tmT qtT cmT dsT drT) H := hP
    replace hD : va_D A (zI g h0 xt0 xt1 xt2 xd0 xd1 xd2 xd3 xd4 xc0 xc1 xc2 xc3 xc4 xp0 xp1 xs0 xu0 xe0 xe1 xe2 xe3 xe4 xf0 xf1 xf2 xf3 xf4 ad ch nu le ta lt b pF pL st tm qt cm ds dr bC pFC pLC stC tmC qtC cmC dsC drC ol pz dvs us bS pFS pLS stS tmS qtS cmS dsS drS bT pFT pLT stT tmT qtT cmT dsT drT) := hD
    refine lv_aload_n hx hb dX3_write_5 rfl (lv_at hl 0 rfl) ?_
    refine va_get (ci := 3) (v := .ref xp0) (C := RX3) (T := TX3) (N := 6) hx hb hts uX3_write_X3 hown hK hP 0 rfl rfl 3 (by decide) (hts _ mX3_write_29) (fun _ h9 => h9) rfl dX3_write_6 ?_
    refine lv_aload_n hx hb dX3_write_9 rfl (lv_at hl 0 rfl) ?_
    refine va_get (ci := 3) (v := .ref xd0) (C := RX3) (T := TX3) (N := 6) hx hb hts uX3_write_X3 hown hK hP 0 rfl rfl 1 (by decide) (hts _ mX3_write_19) (fun _ h9 => h9) rfl dX3_write_10 ?_
    obtain ⟨ol2, pz2, dvs2, e2, h⟩ := zb3 h
    refine zVwT (As := [.ref xd0]) (rest := []) (pre := [(h0, .inr (3, [.ref xt0, .ref xd0, .ref xc0, .ref xp0, .ref xs0, .ref xu0])), (xt0, .inr (2, [.ref xt1, .ref xt2, .int le, .int ta, .int lt])), (xt1, .inl (g.2.2.1, 120, .inl ch)), (xt2, .inl (g.2.1, 3, .inl nu)), (xd0, .inr (0, [.ref xd1, .ref xd2, .ref xd3, .ref xd4, .int tm, .int qt, .int cm, .int ds, .int dr])), (xd1, .inl (g.2.1, 256, .inl b)), (xd2, .inl (g.2.1, 3, .inl pF)), (xd3, .inl (g.2.1, 3, .inl pL)), (xd4, .inl (g.2.1, 6, .inl st)), (xc0, .inr (0, [.ref xc1, .ref xc2, .ref xc3, .ref xc4, .int tmC, .int qtC, .int cmC, .int dsC, .int drC])), (xc1, .inl (g.2.1, 256, .inl bC)), (xc2, .inl (g.2.1, 3, .inl pFC)), (xc3, .inl (g.2.1, 3, .inl pLC)), (xc4, .inl (g.2.1, 6, .inl stC)), (xp0, .inr (1, [.ref xp1, .int ol, .int pz])), (xp1, .inl (g.2.2.2.2.1, 14, .inr (.inr (.inr (.inr (fun i => some (ad i 0))))))), (xs0, .inl (g.2.2.2.2.1, 2, .inr (.inr (.inr (.inr (fun i => if i = 0 then some xe0 else some xf0)))))), (xu0, .inl (g.2.2.2.1, 2, .inl us)), (xe0, .inr (0, [.ref xe1, .ref xe2, .ref xe3, .ref xe4, .int tmS, .int qtS, .int cmS, .int dsS, .int drS])), (xe1, .inl (g.2.1, 256, .inl bS)), (xe2, .inl (g.2.1, 3, .inl pFS)), (xe3, .inl (g.2.1, 3, .inl pLS)), (xe4, .inl (g.2.1, 6, .inl stS)), (xf0, .inr (0, [.ref xf1, .ref xf2, .ref xf3, .ref xf4, .int tmT, .int qtT, .int cmT, .int dsT, .int drT])), (xf1, .inl (g.2.1, 256, .inl bT)), (xf2, .inl (g.2.1, 3, .inl pFT)), (xf3, .inl (g.2.1, 3, .inl pLT)), (xf4, .inl (g.2.1, 6, .inl stT))]) (tl := (zpool g ad dvs 14)) (tlq := (zpool g ad dvs2 14)) (zWv_q g _) ⟨hx, hb, hml, hown, hts⟩ (kX1_remember l g xp0 xp1 xd0 xd1 xd2 xd3 xd4 ad ol pz dvs b pF pL st tm qt cm ds dr e2) (cwV 1 hts gX3_write_X1_remember rfl rfl rfl hdV_X1_remember ⟨Nat.le_of_ble_eq_true rfl, Nat.le_of_ble_eq_true rfl⟩) hK hP hD hS hA [14, 15, 4, 5, 6, 7, 8] (by decide) rfl rfl (zpool_fst g ad _ _ 14) 14 rfl rfl rfl hl.1 rfl (Nat.le_of_ble_eq_true rfl) ⟨Nat.le_of_ble_eq_true rfl, Nat.le_of_ble_eq_true rfl⟩ dX3_write_13 (fun H locs hP hD hS => ?_)
    replace hP : zP g (zI g h0 xt0 xt1 xt2 xd0 xd1 xd2 xd3 xd4 xc0 xc1 xc2 xc3 xc4 xp0 xp1 xs0 xu0 xe0 xe1 xe2 xe3 xe4 xf0 xf1 xf2 xf3 xf4 ad ch nu le ta lt b pF pL st tm qt cm ds dr bC pFC pLC stC tmC qtC cmC dsC drC ol2 pz2 dvs2 us bS pFS pLS stS tmS qtS cmS dsS drS bT pFT pLT stT tmT qtT cmT dsT drT) H := hP
    replace hD : va_D A (zI g h0 xt0 xt1 xt2 xd0 xd1 xd2 xd3 xd4 xc0 xc1 xc2 xc3 xc4 xp0 xp1 xs0 xu0 xe0 xe1 xe2 xe3 xe4 xf0 xf1 xf2 xf3 xf4 ad ch nu le ta lt b pF pL st tm qt cm ds dr bC pFC pLC stC tmC qtC cmC dsC drC ol2 pz2 dvs2 us bS pFS pLS stS tmS qtS cmS dsS drS bT pFT pLT stT tmT qtT cmT dsT drT) := hD
    refine lv_aload_n hx hb dX3_write_16 rfl (lv_at hl 0 rfl) ?_
    refine va_get (ci := 3) (v := .ref xd0) (C := RX3) (T := TX3) (N := 6) hx hb hts uX3_write_X3 hown hK hP 0 rfl rfl 1 (by decide) (hts _ mX3_write_19) (fun _ h9 => h9) rfl dX3_write_17 ?_
    refine lv_iload_n hx hb dX3_write_20 rfl (lv_at hl 1 rfl) ?_
    refine lv_iload_n hx hb dX3_write_21 rfl (lv_at hl 2 rfl) ?_
    obtain ⟨r3, b3, qt3, dr3, e3, h⟩ := zb4 h
    refine zVw (As := [.int a1, .int a2]) (rest := []) (zWi_q g _ _) ⟨hx, hb, hml, hown, hts⟩ (kX0_writeSpan l g xd0 xd1 xd2 xd3 xd4 b pF pL st tm qt cm ds dr a1 a2 e3) (cwV 2 hts gX3_write_X0_writeSpan rfl rfl rfl hdV_X0_writeSpan ⟨Nat.le_of_ble_eq_true rfl, Nat.le_of_ble_eq_true rfl⟩) hK hP hD hS hA [4, 5, 6, 7, 8] (by decide) rfl rfl 4 rfl rfl rfl hl.1 rfl (Nat.le_of_ble_eq_true rfl) ⟨Nat.le_of_ble_eq_true rfl, Nat.le_of_ble_eq_true rfl⟩ dX3_write_22 (fun H locs hP hD hS => ?_)
    replace hP : zP g (zI g h0 xt0 xt1 xt2 xd0 xd1 xd2 xd3 xd4 xc0 xc1 xc2 xc3 xc4 xp0 xp1 xs0 xu0 xe0 xe1 xe2 xe3 xe4 xf0 xf1 xf2 xf3 xf4 ad ch nu le ta lt b3 pF pL st tm qt3 cm ds dr3 bC pFC pLC stC tmC qtC cmC dsC drC ol2 pz2 dvs2 us bS pFS pLS stS tmS qtS cmS dsS drS bT pFT pLT stT tmT qtT cmT dsT drT) H := hP
    replace hD : va_D A (zI g h0 xt0 xt1 xt2 xd0 xd1 xd2 xd3 xd4 xc0 xc1 xc2 xc3 xc4 xp0 xp1 xs0 xu0 xe0 xe1 xe2 xe3 xe4 xf0 xf1 xf2 xf3 xf4 ad ch nu le ta lt b3 pF pL st tm qt3 cm ds dr3 bC pFC pLC stC tmC qtC cmC dsC drC ol2 pz2 dvs2 us bS pFS pLS stS tmS qtS cmS dsS drS bT pFT pLT stT tmT qtT cmT dsT drT) := hD
    cases h
    exact zx_i hx hb hr hlocks hP hS (by decide) (by decide) dX3_write_25
def fX3_free (b : Nat → Int32) (pF : Nat → Int32) (pL : Nat → Int32) (st : Nat → Int32) (tm : Int32) (qt : Int32) (cm : Int32) (ds : Int32) (dr : Int32) (ol : Int32) (pz : Int32) (dvs : Nat → zDv) (a1 : Int32) (a2 : Int32) : Option (Int32 × Int32 × (Nat → Int32) × (Int32) × (Int32) × (Int32) × (Int32) × (Nat → zDv)) :=
  ob (fX3_checkSpan a1 a2) fun k1 =>
  if k1 = 0 then
    ob3 (fX1_remember ol pz dvs b pF pL st tm qt cm ds dr) fun ol2 pz2 dvs2 =>
    ob4 (fX0_freeSpan b tm qt dr a1 a2) fun r3 b3 qt3 dr3 =>
    some (0, r3, b3, qt3, dr3, ol2, pz2, dvs2)
  else some (k1, 0, b, qt, dr, ol, pz, dvs)
theorem mX3_free_29 : Cond.fieldLink RX3 29 "IdleDiscards" "past" "LIdleDiscards$Past;" ∈ wsX3_free := by decide +kernel
theorem uX3_free_X3 : ∀ w ∈ wsX30, w ∈ wsX3_free := by decide +kernel
theorem mX3_free_19 : Cond.fieldLink RX3 19 "IdleDiscards" "device" "LIdleDiscards$Device;" ∈ wsX3_free := by decide +kernel
set_option maxRecDepth 100000 in
set_option maxHeartbeats 4000000 in
theorem kX3_free (l : Launch) (g : zG) (h0 xt0 xt1 xt2 xd0 xd1 xd2 xd3 xd4 xc0 xc1 xc2 xc3 xc4 xp0 xp1 xs0 xu0 xe0 xe1 xe2 xe3 xe4 xf0 xf1 xf2 xf3 xf4 : Nat) (ad : Nat → Nat → Nat) (ch : Nat → Int32) (nu : Nat → Int32) (le : Int32) (ta : Int32) (lt : Int32) (b : Nat → Int32) (pF : Nat → Int32) (pL : Nat → Int32) (st : Nat → Int32) (tm : Int32) (qt : Int32) (cm : Int32) (ds : Int32) (dr : Int32) (bC : Nat → Int32) (pFC : Nat → Int32) (pLC : Nat → Int32) (stC : Nat → Int32) (tmC : Int32) (qtC : Int32) (cmC : Int32) (dsC : Int32) (drC : Int32) (ol : Int32) (pz : Int32) (dvs : Nat → zDv) (us : Nat → Int32) (bS : Nat → Int32) (pFS : Nat → Int32) (pLS : Nat → Int32) (stS : Nat → Int32) (tmS : Int32) (qtS : Int32) (cmS : Int32) (dsS : Int32) (drS : Int32) (bT : Nat → Int32) (pFT : Nat → Int32) (pLT : Nat → Int32) (stT : Nat → Int32) (tmT : Int32) (qtT : Int32) (cmT : Int32) (dsT : Int32) (drT : Int32) (a1 : Int32) (a2 : Int32) (htr : l.stackTraces = false) {k : Int32} {r : Int32} {b' : Nat → Int32} {qt' : Int32} {dr' : Int32} {ol' : Int32} {pz' : Int32} {dvs' : Nat → zDv} (h : fX3_free b pF pL st tm qt cm ds dr ol pz dvs a1 a2 = some (k, r, b', qt', dr', ol', pz', dvs')) : Mx l g yX3_free wsX3_free { frames := 8, cells := 2, slots := 12, locals := 123 } [.ref h0, .int a1, .int a2] (zI g h0 xt0 xt1 xt2 xd0 xd1 xd2 xd3 xd4 xc0 xc1 xc2 xc3 xc4 xp0 xp1 xs0 xu0 xe0 xe1 xe2 xe3 xe4 xf0 xf1 xf2 xf3 xf4 ad ch nu le ta lt b pF pL st tm qt cm ds dr bC pFC pLC stC tmC qtC cmC dsC drC ol pz dvs us bS pFS pLS stS tmS qtS cmS dsS drS bT pFT pLT stT tmT qtT cmT dsT drT) (zXi g (zI g h0 xt0 xt1 xt2 xd0 xd1 xd2 xd3 xd4 xc0 xc1 xc2 xc3 xc4 xp0 xp1 xs0 xu0 xe0 xe1 xe2 xe3 xe4 xf0 xf1 xf2 xf3 xf4 ad ch nu le ta lt b' pF pL st tm qt' cm ds dr' bC pFC pLC stC tmC qtC cmC dsC drC ol' pz' dvs' us bS pFS pLS stS tmS qtS cmS dsS drS bT pFT pLT stT tmT qtT cmT dsT drT) k r) (zXx g (zI g h0 xt0 xt1 xt2 xd0 xd1 xd2 xd3 xd4 xc0 xc1 xc2 xc3 xc4 xp0 xp1 xs0 xu0 xe0 xe1 xe2 xe3 xe4 xf0 xf1 xf2 xf3 xf4 ad ch nu le ta lt b' pF pL st tm qt' cm ds dr' bC pFC pLC stC tmC qtC cmC dsC drC ol' pz' dvs' us bS pFS pLS stS tmS qtS cmS dsS drS bT pFT pLT stT tmT qtT cmT dsT drT) k) 2 12 := by
  refine zx_in (cc := cX3_free) (maxL := 3) (ret := (some .int)) (by decide) rfl (Nat.le_of_ble_eq_true rfl) ?_
  intro p e s m below meth c hx hb hr hml hts hown hlocks hK ht A hA hP hD hS hAm ls hl
  replace hl : lv_has ls 3 [(0, .ref h0), (1, .int a1), (2, .int a2)] := hl
  unfold fX3_free at h
  refine lv_iload_n hx hb dX3_free_0 rfl (lv_at hl 1 rfl) ?_
  refine lv_iload_n hx hb dX3_free_1 rfl (lv_at hl 2 rfl) ?_
  obtain ⟨k1, e1, h⟩ := zb h
  refine zSx (As := [.int a1, .int a2]) (rest := []) (zXv_q g _ _) (zXx_q g _ _) ⟨hx, hb, hml, hown, hts⟩ (kX3_checkSpan l g a1 a2 htr e1) (va_cwS 2 hts gX3_free_X3_checkSpan rfl rfl rfl hdS_X3_checkSpan ⟨Nat.le_of_ble_eq_true rfl, Nat.le_of_ble_eq_true rfl⟩) hK hP hD hS hA hAm [] (by decide) rfl rfl rfl hl.1 rfl (Nat.le_of_ble_eq_true rfl) ⟨Nat.le_of_ble_eq_true rfl, Nat.le_of_ble_eq_true rfl⟩ dX3_free_2 (fun c1 H locs q ce hP hD hS hq1 hq2 hq3 => ?_) (fun c1 H locs hP hD hS => ?_)
  · replace h := zf c1 h
    replace hP : zP g (zI g h0 xt0 xt1 xt2 xd0 xd1 xd2 xd3 xd4 xc0 xc1 xc2 xc3 xc4 xp0 xp1 xs0 xu0 xe0 xe1 xe2 xe3 xe4 xf0 xf1 xf2 xf3 xf4 ad ch nu le ta lt b pF pL st tm qt cm ds dr bC pFC pLC stC tmC qtC cmC dsC drC ol pz dvs us bS pFS pLS stS tmS qtS cmS dsS drS bT pFT pLT stT tmT qtT cmT dsT drT) H := hP
    cases h
    exact zx_out ht hlocks c1 hP hS hq1 hq2 hq3 (by decide) (by decide)
  · replace h := zt c1 h
    replace hP : zP g (zI g h0 xt0 xt1 xt2 xd0 xd1 xd2 xd3 xd4 xc0 xc1 xc2 xc3 xc4 xp0 xp1 xs0 xu0 xe0 xe1 xe2 xe3 xe4 xf0 xf1 xf2 xf3 xf4 ad ch nu le ta lt b pF pL st tm qt cm ds dr bC pFC pLC stC tmC qtC cmC dsC drC ol pz dvs us bS pFS pLS stS tmS qtS cmS dsS drS bT pFT pLT stT tmT qtT cmT dsT drT) H := hP
    replace hD : va_D A (zI g h0 xt0 xt1 xt2 xd0 xd1 xd2 xd3 xd4 xc0 xc1 xc2 xc3 xc4 xp0 xp1 xs0 xu0 xe0 xe1 xe2 xe3 xe4 xf0 xf1 xf2 xf3 xf4 ad ch nu le ta lt b pF pL st tm qt cm ds dr bC pFC pLC stC tmC qtC cmC dsC drC ol pz dvs us bS pFS pLS stS tmS qtS cmS dsS drS bT pFT pLT stT tmT qtT cmT dsT drT) := hD
    refine lv_aload_n hx hb dX3_free_5 rfl (lv_at hl 0 rfl) ?_
    refine va_get (ci := 3) (v := .ref xp0) (C := RX3) (T := TX3) (N := 6) hx hb hts uX3_free_X3 hown hK hP 0 rfl rfl 3 (by decide) (hts _ mX3_free_29) (fun _ h9 => h9) rfl dX3_free_6 ?_
    refine lv_aload_n hx hb dX3_free_9 rfl (lv_at hl 0 rfl) ?_
    refine va_get (ci := 3) (v := .ref xd0) (C := RX3) (T := TX3) (N := 6) hx hb hts uX3_free_X3 hown hK hP 0 rfl rfl 1 (by decide) (hts _ mX3_free_19) (fun _ h9 => h9) rfl dX3_free_10 ?_
    obtain ⟨ol2, pz2, dvs2, e2, h⟩ := zb3 h
    refine zVwT (As := [.ref xd0]) (rest := []) (pre := [(h0, .inr (3, [.ref xt0, .ref xd0, .ref xc0, .ref xp0, .ref xs0, .ref xu0])), (xt0, .inr (2, [.ref xt1, .ref xt2, .int le, .int ta, .int lt])), (xt1, .inl (g.2.2.1, 120, .inl ch)), (xt2, .inl (g.2.1, 3, .inl nu)), (xd0, .inr (0, [.ref xd1, .ref xd2, .ref xd3, .ref xd4, .int tm, .int qt, .int cm, .int ds, .int dr])), (xd1, .inl (g.2.1, 256, .inl b)), (xd2, .inl (g.2.1, 3, .inl pF)), (xd3, .inl (g.2.1, 3, .inl pL)), (xd4, .inl (g.2.1, 6, .inl st)), (xc0, .inr (0, [.ref xc1, .ref xc2, .ref xc3, .ref xc4, .int tmC, .int qtC, .int cmC, .int dsC, .int drC])), (xc1, .inl (g.2.1, 256, .inl bC)), (xc2, .inl (g.2.1, 3, .inl pFC)), (xc3, .inl (g.2.1, 3, .inl pLC)), (xc4, .inl (g.2.1, 6, .inl stC)), (xp0, .inr (1, [.ref xp1, .int ol, .int pz])), (xp1, .inl (g.2.2.2.2.1, 14, .inr (.inr (.inr (.inr (fun i => some (ad i 0))))))), (xs0, .inl (g.2.2.2.2.1, 2, .inr (.inr (.inr (.inr (fun i => if i = 0 then some xe0 else some xf0)))))), (xu0, .inl (g.2.2.2.1, 2, .inl us)), (xe0, .inr (0, [.ref xe1, .ref xe2, .ref xe3, .ref xe4, .int tmS, .int qtS, .int cmS, .int dsS, .int drS])), (xe1, .inl (g.2.1, 256, .inl bS)), (xe2, .inl (g.2.1, 3, .inl pFS)), (xe3, .inl (g.2.1, 3, .inl pLS)), (xe4, .inl (g.2.1, 6, .inl stS)), (xf0, .inr (0, [.ref xf1, .ref xf2, .ref xf3, .ref xf4, .int tmT, .int qtT, .int cmT, .int dsT, .int drT])), (xf1, .inl (g.2.1, 256, .inl bT)), (xf2, .inl (g.2.1, 3, .inl pFT)), (xf3, .inl (g.2.1, 3, .inl pLT)), (xf4, .inl (g.2.1, 6, .inl stT))]) (tl := (zpool g ad dvs 14)) (tlq := (zpool g ad dvs2 14)) (zWv_q g _) ⟨hx, hb, hml, hown, hts⟩ (kX1_remember l g xp0 xp1 xd0 xd1 xd2 xd3 xd4 ad ol pz dvs b pF pL st tm qt cm ds dr e2) (cwV 1 hts gX3_free_X1_remember rfl rfl rfl hdV_X1_remember ⟨Nat.le_of_ble_eq_true rfl, Nat.le_of_ble_eq_true rfl⟩) hK hP hD hS hA [14, 15, 4, 5, 6, 7, 8] (by decide) rfl rfl (zpool_fst g ad _ _ 14) 14 rfl rfl rfl hl.1 rfl (Nat.le_of_ble_eq_true rfl) ⟨Nat.le_of_ble_eq_true rfl, Nat.le_of_ble_eq_true rfl⟩ dX3_free_13 (fun H locs hP hD hS => ?_)
    replace hP : zP g (zI g h0 xt0 xt1 xt2 xd0 xd1 xd2 xd3 xd4 xc0 xc1 xc2 xc3 xc4 xp0 xp1 xs0 xu0 xe0 xe1 xe2 xe3 xe4 xf0 xf1 xf2 xf3 xf4 ad ch nu le ta lt b pF pL st tm qt cm ds dr bC pFC pLC stC tmC qtC cmC dsC drC ol2 pz2 dvs2 us bS pFS pLS stS tmS qtS cmS dsS drS bT pFT pLT stT tmT qtT cmT dsT drT) H := hP
    replace hD : va_D A (zI g h0 xt0 xt1 xt2 xd0 xd1 xd2 xd3 xd4 xc0 xc1 xc2 xc3 xc4 xp0 xp1 xs0 xu0 xe0 xe1 xe2 xe3 xe4 xf0 xf1 xf2 xf3 xf4 ad ch nu le ta lt b pF pL st tm qt cm ds dr bC pFC pLC stC tmC qtC cmC dsC drC ol2 pz2 dvs2 us bS pFS pLS stS tmS qtS cmS dsS drS bT pFT pLT stT tmT qtT cmT dsT drT) := hD
    refine lv_aload_n hx hb dX3_free_16 rfl (lv_at hl 0 rfl) ?_
    refine va_get (ci := 3) (v := .ref xd0) (C := RX3) (T := TX3) (N := 6) hx hb hts uX3_free_X3 hown hK hP 0 rfl rfl 1 (by decide) (hts _ mX3_free_19) (fun _ h9 => h9) rfl dX3_free_17 ?_
    refine lv_iload_n hx hb dX3_free_20 rfl (lv_at hl 1 rfl) ?_
    refine lv_iload_n hx hb dX3_free_21 rfl (lv_at hl 2 rfl) ?_
    obtain ⟨r3, b3, qt3, dr3, e3, h⟩ := zb4 h
    refine zVw (As := [.int a1, .int a2]) (rest := []) (zWi_q g _ _) ⟨hx, hb, hml, hown, hts⟩ (kX0_freeSpan l g xd0 xd1 xd2 xd3 xd4 b pF pL st tm qt cm ds dr a1 a2 e3) (cwV 2 hts gX3_free_X0_freeSpan rfl rfl rfl hdV_X0_freeSpan ⟨Nat.le_of_ble_eq_true rfl, Nat.le_of_ble_eq_true rfl⟩) hK hP hD hS hA [4, 5, 6, 7, 8] (by decide) rfl rfl 4 rfl rfl rfl hl.1 rfl (Nat.le_of_ble_eq_true rfl) ⟨Nat.le_of_ble_eq_true rfl, Nat.le_of_ble_eq_true rfl⟩ dX3_free_22 (fun H locs hP hD hS => ?_)
    replace hP : zP g (zI g h0 xt0 xt1 xt2 xd0 xd1 xd2 xd3 xd4 xc0 xc1 xc2 xc3 xc4 xp0 xp1 xs0 xu0 xe0 xe1 xe2 xe3 xe4 xf0 xf1 xf2 xf3 xf4 ad ch nu le ta lt b3 pF pL st tm qt3 cm ds dr3 bC pFC pLC stC tmC qtC cmC dsC drC ol2 pz2 dvs2 us bS pFS pLS stS tmS qtS cmS dsS drS bT pFT pLT stT tmT qtT cmT dsT drT) H := hP
    replace hD : va_D A (zI g h0 xt0 xt1 xt2 xd0 xd1 xd2 xd3 xd4 xc0 xc1 xc2 xc3 xc4 xp0 xp1 xs0 xu0 xe0 xe1 xe2 xe3 xe4 xf0 xf1 xf2 xf3 xf4 ad ch nu le ta lt b3 pF pL st tm qt3 cm ds dr3 bC pFC pLC stC tmC qtC cmC dsC drC ol2 pz2 dvs2 us bS pFS pLS stS tmS qtS cmS dsS drS bT pFT pLT stT tmT qtT cmT dsT drT) := hD
    cases h
    exact zx_i hx hb hr hlocks hP hS (by decide) (by decide) dX3_free_25
def fX3_pin (b : Nat → Int32) (pF : Nat → Int32) (pL : Nat → Int32) (st : Nat → Int32) (tm : Int32) (qt : Int32) (cm : Int32) (ds : Int32) (dr : Int32) (ol : Int32) (pz : Int32) (dvs : Nat → zDv) (a1 : Int32) (a2 : Int32) (a3 : Int32) : Option (Int32 × Int32 × (Nat → Int32) × (Nat → Int32) × (Int32) × (Int32) × (Nat → zDv)) :=
  ob (fX3_checkPin a1) fun k1 =>
  if k1 = 0 then
    ob (fX3_checkSpan a2 a3) fun k2 =>
    if k2 = 0 then
      ob3 (fX1_remember ol pz dvs b pF pL st tm qt cm ds dr) fun ol3 pz3 dvs3 =>
      ob2 (fX0_pinSpan pF pL a1 a2 a3) fun pF4 pL4 =>
      ob (fX0_countPinned pF4 pL4) fun r5 =>
      some (0, r5, pF4, pL4, ol3, pz3, dvs3)
    else some (k2, 0, pF, pL, ol, pz, dvs)
  else some (k1, 0, pF, pL, ol, pz, dvs)
theorem mX3_pin_29 : Cond.fieldLink RX3 29 "IdleDiscards" "past" "LIdleDiscards$Past;" ∈ wsX3_pin := by decide +kernel
theorem uX3_pin_X3 : ∀ w ∈ wsX30, w ∈ wsX3_pin := by decide +kernel
theorem mX3_pin_19 : Cond.fieldLink RX3 19 "IdleDiscards" "device" "LIdleDiscards$Device;" ∈ wsX3_pin := by decide +kernel
set_option maxRecDepth 100000 in
set_option maxHeartbeats 4000000 in
theorem kX3_pin (l : Launch) (g : zG) (h0 xt0 xt1 xt2 xd0 xd1 xd2 xd3 xd4 xc0 xc1 xc2 xc3 xc4 xp0 xp1 xs0 xu0 xe0 xe1 xe2 xe3 xe4 xf0 xf1 xf2 xf3 xf4 : Nat) (ad : Nat → Nat → Nat) (ch : Nat → Int32) (nu : Nat → Int32) (le : Int32) (ta : Int32) (lt : Int32) (b : Nat → Int32) (pF : Nat → Int32) (pL : Nat → Int32) (st : Nat → Int32) (tm : Int32) (qt : Int32) (cm : Int32) (ds : Int32) (dr : Int32) (bC : Nat → Int32) (pFC : Nat → Int32) (pLC : Nat → Int32) (stC : Nat → Int32) (tmC : Int32) (qtC : Int32) (cmC : Int32) (dsC : Int32) (drC : Int32) (ol : Int32) (pz : Int32) (dvs : Nat → zDv) (us : Nat → Int32) (bS : Nat → Int32) (pFS : Nat → Int32) (pLS : Nat → Int32) (stS : Nat → Int32) (tmS : Int32) (qtS : Int32) (cmS : Int32) (dsS : Int32) (drS : Int32) (bT : Nat → Int32) (pFT : Nat → Int32) (pLT : Nat → Int32) (stT : Nat → Int32) (tmT : Int32) (qtT : Int32) (cmT : Int32) (dsT : Int32) (drT : Int32) (a1 : Int32) (a2 : Int32) (a3 : Int32) (htr : l.stackTraces = false) {k : Int32} {r : Int32} {pF' : Nat → Int32} {pL' : Nat → Int32} {ol' : Int32} {pz' : Int32} {dvs' : Nat → zDv} (h : fX3_pin b pF pL st tm qt cm ds dr ol pz dvs a1 a2 a3 = some (k, r, pF', pL', ol', pz', dvs')) : Mx l g yX3_pin wsX3_pin { frames := 8, cells := 3, slots := 18, locals := 123 } [.ref h0, .int a1, .int a2, .int a3] (zI g h0 xt0 xt1 xt2 xd0 xd1 xd2 xd3 xd4 xc0 xc1 xc2 xc3 xc4 xp0 xp1 xs0 xu0 xe0 xe1 xe2 xe3 xe4 xf0 xf1 xf2 xf3 xf4 ad ch nu le ta lt b pF pL st tm qt cm ds dr bC pFC pLC stC tmC qtC cmC dsC drC ol pz dvs us bS pFS pLS stS tmS qtS cmS dsS drS bT pFT pLT stT tmT qtT cmT dsT drT) (zXi g (zI g h0 xt0 xt1 xt2 xd0 xd1 xd2 xd3 xd4 xc0 xc1 xc2 xc3 xc4 xp0 xp1 xs0 xu0 xe0 xe1 xe2 xe3 xe4 xf0 xf1 xf2 xf3 xf4 ad ch nu le ta lt b pF' pL' st tm qt cm ds dr bC pFC pLC stC tmC qtC cmC dsC drC ol' pz' dvs' us bS pFS pLS stS tmS qtS cmS dsS drS bT pFT pLT stT tmT qtT cmT dsT drT) k r) (zXx g (zI g h0 xt0 xt1 xt2 xd0 xd1 xd2 xd3 xd4 xc0 xc1 xc2 xc3 xc4 xp0 xp1 xs0 xu0 xe0 xe1 xe2 xe3 xe4 xf0 xf1 xf2 xf3 xf4 ad ch nu le ta lt b pF' pL' st tm qt cm ds dr bC pFC pLC stC tmC qtC cmC dsC drC ol' pz' dvs' us bS pFS pLS stS tmS qtS cmS dsS drS bT pFT pLT stT tmT qtT cmT dsT drT) k) 3 18 := by
  refine zx_in (cc := cX3_pin) (maxL := 4) (ret := (some .int)) (by decide) rfl (Nat.le_of_ble_eq_true rfl) ?_
  intro p e s m below meth c hx hb hr hml hts hown hlocks hK ht A hA hP hD hS hAm ls hl
  replace hl : lv_has ls 4 [(0, .ref h0), (1, .int a1), (2, .int a2), (3, .int a3)] := hl
  unfold fX3_pin at h
  refine lv_iload_n hx hb dX3_pin_0 rfl (lv_at hl 1 rfl) ?_
  obtain ⟨k1, e1, h⟩ := zb h
  refine zSx (As := [.int a1]) (rest := []) (zXv_q g _ _) (zXx_q g _ _) ⟨hx, hb, hml, hown, hts⟩ (kX3_checkPin l g a1 htr e1) (va_cwS 1 hts gX3_pin_X3_checkPin rfl rfl rfl hdS_X3_checkPin ⟨Nat.le_of_ble_eq_true rfl, Nat.le_of_ble_eq_true rfl⟩) hK hP hD hS hA hAm [] (by decide) rfl rfl rfl hl.1 rfl (Nat.le_of_ble_eq_true rfl) ⟨Nat.le_of_ble_eq_true rfl, Nat.le_of_ble_eq_true rfl⟩ dX3_pin_1 (fun c1 H locs q ce hP hD hS hq1 hq2 hq3 => ?_) (fun c1 H locs hP hD hS => ?_)
  · replace h := zf c1 h
    replace hP : zP g (zI g h0 xt0 xt1 xt2 xd0 xd1 xd2 xd3 xd4 xc0 xc1 xc2 xc3 xc4 xp0 xp1 xs0 xu0 xe0 xe1 xe2 xe3 xe4 xf0 xf1 xf2 xf3 xf4 ad ch nu le ta lt b pF pL st tm qt cm ds dr bC pFC pLC stC tmC qtC cmC dsC drC ol pz dvs us bS pFS pLS stS tmS qtS cmS dsS drS bT pFT pLT stT tmT qtT cmT dsT drT) H := hP
    cases h
    exact zx_out ht hlocks c1 hP hS hq1 hq2 hq3 (by decide) (by decide)
  · replace h := zt c1 h
    replace hP : zP g (zI g h0 xt0 xt1 xt2 xd0 xd1 xd2 xd3 xd4 xc0 xc1 xc2 xc3 xc4 xp0 xp1 xs0 xu0 xe0 xe1 xe2 xe3 xe4 xf0 xf1 xf2 xf3 xf4 ad ch nu le ta lt b pF pL st tm qt cm ds dr bC pFC pLC stC tmC qtC cmC dsC drC ol pz dvs us bS pFS pLS stS tmS qtS cmS dsS drS bT pFT pLT stT tmT qtT cmT dsT drT) H := hP
    replace hD : va_D A (zI g h0 xt0 xt1 xt2 xd0 xd1 xd2 xd3 xd4 xc0 xc1 xc2 xc3 xc4 xp0 xp1 xs0 xu0 xe0 xe1 xe2 xe3 xe4 xf0 xf1 xf2 xf3 xf4 ad ch nu le ta lt b pF pL st tm qt cm ds dr bC pFC pLC stC tmC qtC cmC dsC drC ol pz dvs us bS pFS pLS stS tmS qtS cmS dsS drS bT pFT pLT stT tmT qtT cmT dsT drT) := hD
    refine lv_iload_n hx hb dX3_pin_4 rfl (lv_at hl 2 rfl) ?_
    refine lv_iload_n hx hb dX3_pin_5 rfl (lv_at hl 3 rfl) ?_
    obtain ⟨k2, e2, h⟩ := zb h
    refine zSx (As := [.int a2, .int a3]) (rest := []) (zXv_q g _ _) (zXx_q g _ _) ⟨hx, hb, hml, hown, hts⟩ (kX3_checkSpan l g a2 a3 htr e2) (va_cwS 2 hts gX3_pin_X3_checkSpan rfl rfl rfl hdS_X3_checkSpan ⟨Nat.le_of_ble_eq_true rfl, Nat.le_of_ble_eq_true rfl⟩) hK hP hD hS hA hAm [] (by decide) rfl rfl rfl hl.1 rfl (Nat.le_of_ble_eq_true rfl) ⟨Nat.le_of_ble_eq_true rfl, Nat.le_of_ble_eq_true rfl⟩ dX3_pin_6 (fun c2 H locs q ce hP hD hS hq1 hq2 hq3 => ?_) (fun c2 H locs hP hD hS => ?_)
    · replace h := zf c2 h
      replace hP : zP g (zI g h0 xt0 xt1 xt2 xd0 xd1 xd2 xd3 xd4 xc0 xc1 xc2 xc3 xc4 xp0 xp1 xs0 xu0 xe0 xe1 xe2 xe3 xe4 xf0 xf1 xf2 xf3 xf4 ad ch nu le ta lt b pF pL st tm qt cm ds dr bC pFC pLC stC tmC qtC cmC dsC drC ol pz dvs us bS pFS pLS stS tmS qtS cmS dsS drS bT pFT pLT stT tmT qtT cmT dsT drT) H := hP
      cases h
      exact zx_out ht hlocks c2 hP hS hq1 hq2 hq3 (by decide) (by decide)
    · replace h := zt c2 h
      replace hP : zP g (zI g h0 xt0 xt1 xt2 xd0 xd1 xd2 xd3 xd4 xc0 xc1 xc2 xc3 xc4 xp0 xp1 xs0 xu0 xe0 xe1 xe2 xe3 xe4 xf0 xf1 xf2 xf3 xf4 ad ch nu le ta lt b pF pL st tm qt cm ds dr bC pFC pLC stC tmC qtC cmC dsC drC ol pz dvs us bS pFS pLS stS tmS qtS cmS dsS drS bT pFT pLT stT tmT qtT cmT dsT drT) H := hP
      replace hD : va_D A (zI g h0 xt0 xt1 xt2 xd0 xd1 xd2 xd3 xd4 xc0 xc1 xc2 xc3 xc4 xp0 xp1 xs0 xu0 xe0 xe1 xe2 xe3 xe4 xf0 xf1 xf2 xf3 xf4 ad ch nu le ta lt b pF pL st tm qt cm ds dr bC pFC pLC stC tmC qtC cmC dsC drC ol pz dvs us bS pFS pLS stS tmS qtS cmS dsS drS bT pFT pLT stT tmT qtT cmT dsT drT) := hD
      refine lv_aload_n hx hb dX3_pin_9 rfl (lv_at hl 0 rfl) ?_
      refine va_get (ci := 3) (v := .ref xp0) (C := RX3) (T := TX3) (N := 6) hx hb hts uX3_pin_X3 hown hK hP 0 rfl rfl 3 (by decide) (hts _ mX3_pin_29) (fun _ h9 => h9) rfl dX3_pin_10 ?_
      refine lv_aload_n hx hb dX3_pin_13 rfl (lv_at hl 0 rfl) ?_
      refine va_get (ci := 3) (v := .ref xd0) (C := RX3) (T := TX3) (N := 6) hx hb hts uX3_pin_X3 hown hK hP 0 rfl rfl 1 (by decide) (hts _ mX3_pin_19) (fun _ h9 => h9) rfl dX3_pin_14 ?_
      obtain ⟨ol3, pz3, dvs3, e3, h⟩ := zb3 h
      refine zVwT (As := [.ref xd0]) (rest := []) (pre := [(h0, .inr (3, [.ref xt0, .ref xd0, .ref xc0, .ref xp0, .ref xs0, .ref xu0])), (xt0, .inr (2, [.ref xt1, .ref xt2, .int le, .int ta, .int lt])), (xt1, .inl (g.2.2.1, 120, .inl ch)), (xt2, .inl (g.2.1, 3, .inl nu)), (xd0, .inr (0, [.ref xd1, .ref xd2, .ref xd3, .ref xd4, .int tm, .int qt, .int cm, .int ds, .int dr])), (xd1, .inl (g.2.1, 256, .inl b)), (xd2, .inl (g.2.1, 3, .inl pF)), (xd3, .inl (g.2.1, 3, .inl pL)), (xd4, .inl (g.2.1, 6, .inl st)), (xc0, .inr (0, [.ref xc1, .ref xc2, .ref xc3, .ref xc4, .int tmC, .int qtC, .int cmC, .int dsC, .int drC])), (xc1, .inl (g.2.1, 256, .inl bC)), (xc2, .inl (g.2.1, 3, .inl pFC)), (xc3, .inl (g.2.1, 3, .inl pLC)), (xc4, .inl (g.2.1, 6, .inl stC)), (xp0, .inr (1, [.ref xp1, .int ol, .int pz])), (xp1, .inl (g.2.2.2.2.1, 14, .inr (.inr (.inr (.inr (fun i => some (ad i 0))))))), (xs0, .inl (g.2.2.2.2.1, 2, .inr (.inr (.inr (.inr (fun i => if i = 0 then some xe0 else some xf0)))))), (xu0, .inl (g.2.2.2.1, 2, .inl us)), (xe0, .inr (0, [.ref xe1, .ref xe2, .ref xe3, .ref xe4, .int tmS, .int qtS, .int cmS, .int dsS, .int drS])), (xe1, .inl (g.2.1, 256, .inl bS)), (xe2, .inl (g.2.1, 3, .inl pFS)), (xe3, .inl (g.2.1, 3, .inl pLS)), (xe4, .inl (g.2.1, 6, .inl stS)), (xf0, .inr (0, [.ref xf1, .ref xf2, .ref xf3, .ref xf4, .int tmT, .int qtT, .int cmT, .int dsT, .int drT])), (xf1, .inl (g.2.1, 256, .inl bT)), (xf2, .inl (g.2.1, 3, .inl pFT)), (xf3, .inl (g.2.1, 3, .inl pLT)), (xf4, .inl (g.2.1, 6, .inl stT))]) (tl := (zpool g ad dvs 14)) (tlq := (zpool g ad dvs3 14)) (zWv_q g _) ⟨hx, hb, hml, hown, hts⟩ (kX1_remember l g xp0 xp1 xd0 xd1 xd2 xd3 xd4 ad ol pz dvs b pF pL st tm qt cm ds dr e3) (cwV 1 hts gX3_pin_X1_remember rfl rfl rfl hdV_X1_remember ⟨Nat.le_of_ble_eq_true rfl, Nat.le_of_ble_eq_true rfl⟩) hK hP hD hS hA [14, 15, 4, 5, 6, 7, 8] (by decide) rfl rfl (zpool_fst g ad _ _ 14) 14 rfl rfl rfl hl.1 rfl (Nat.le_of_ble_eq_true rfl) ⟨Nat.le_of_ble_eq_true rfl, Nat.le_of_ble_eq_true rfl⟩ dX3_pin_17 (fun H locs hP hD hS => ?_)
      replace hP : zP g (zI g h0 xt0 xt1 xt2 xd0 xd1 xd2 xd3 xd4 xc0 xc1 xc2 xc3 xc4 xp0 xp1 xs0 xu0 xe0 xe1 xe2 xe3 xe4 xf0 xf1 xf2 xf3 xf4 ad ch nu le ta lt b pF pL st tm qt cm ds dr bC pFC pLC stC tmC qtC cmC dsC drC ol3 pz3 dvs3 us bS pFS pLS stS tmS qtS cmS dsS drS bT pFT pLT stT tmT qtT cmT dsT drT) H := hP
      replace hD : va_D A (zI g h0 xt0 xt1 xt2 xd0 xd1 xd2 xd3 xd4 xc0 xc1 xc2 xc3 xc4 xp0 xp1 xs0 xu0 xe0 xe1 xe2 xe3 xe4 xf0 xf1 xf2 xf3 xf4 ad ch nu le ta lt b pF pL st tm qt cm ds dr bC pFC pLC stC tmC qtC cmC dsC drC ol3 pz3 dvs3 us bS pFS pLS stS tmS qtS cmS dsS drS bT pFT pLT stT tmT qtT cmT dsT drT) := hD
      refine lv_aload_n hx hb dX3_pin_20 rfl (lv_at hl 0 rfl) ?_
      refine va_get (ci := 3) (v := .ref xd0) (C := RX3) (T := TX3) (N := 6) hx hb hts uX3_pin_X3 hown hK hP 0 rfl rfl 1 (by decide) (hts _ mX3_pin_19) (fun _ h9 => h9) rfl dX3_pin_21 ?_
      refine lv_iload_n hx hb dX3_pin_24 rfl (lv_at hl 1 rfl) ?_
      refine lv_iload_n hx hb dX3_pin_25 rfl (lv_at hl 2 rfl) ?_
      refine lv_iload_n hx hb dX3_pin_26 rfl (lv_at hl 3 rfl) ?_
      obtain ⟨pF4, pL4, e4, h⟩ := zb2 h
      refine zVw (As := [.int a1, .int a2, .int a3]) (rest := []) (zWv_q g _) ⟨hx, hb, hml, hown, hts⟩ (kX0_pinSpan l g xd0 xd1 xd2 xd3 xd4 b pF pL st tm qt cm ds dr a1 a2 a3 e4) (cwV 3 hts gX3_pin_X0_pinSpan rfl rfl rfl hdV_X0_pinSpan ⟨Nat.le_of_ble_eq_true rfl, Nat.le_of_ble_eq_true rfl⟩) hK hP hD hS hA [4, 5, 6, 7, 8] (by decide) rfl rfl 4 rfl rfl rfl hl.1 rfl (Nat.le_of_ble_eq_true rfl) ⟨Nat.le_of_ble_eq_true rfl, Nat.le_of_ble_eq_true rfl⟩ dX3_pin_27 (fun H locs hP hD hS => ?_)
      replace hP : zP g (zI g h0 xt0 xt1 xt2 xd0 xd1 xd2 xd3 xd4 xc0 xc1 xc2 xc3 xc4 xp0 xp1 xs0 xu0 xe0 xe1 xe2 xe3 xe4 xf0 xf1 xf2 xf3 xf4 ad ch nu le ta lt b pF4 pL4 st tm qt cm ds dr bC pFC pLC stC tmC qtC cmC dsC drC ol3 pz3 dvs3 us bS pFS pLS stS tmS qtS cmS dsS drS bT pFT pLT stT tmT qtT cmT dsT drT) H := hP
      replace hD : va_D A (zI g h0 xt0 xt1 xt2 xd0 xd1 xd2 xd3 xd4 xc0 xc1 xc2 xc3 xc4 xp0 xp1 xs0 xu0 xe0 xe1 xe2 xe3 xe4 xf0 xf1 xf2 xf3 xf4 ad ch nu le ta lt b pF4 pL4 st tm qt cm ds dr bC pFC pLC stC tmC qtC cmC dsC drC ol3 pz3 dvs3 us bS pFS pLS stS tmS qtS cmS dsS drS bT pFT pLT stT tmT qtT cmT dsT drT) := hD
      refine lv_aload_n hx hb dX3_pin_30 rfl (lv_at hl 0 rfl) ?_
      refine va_get (ci := 3) (v := .ref xd0) (C := RX3) (T := TX3) (N := 6) hx hb hts uX3_pin_X3 hown hK hP 0 rfl rfl 1 (by decide) (hts _ mX3_pin_19) (fun _ h9 => h9) rfl dX3_pin_31 ?_
      obtain ⟨r5, e5, h⟩ := zb h
      refine zV (As := []) (rest := []) (zQi_q _) ⟨hx, hb, hml, hown, hts⟩ (kX0_countPinned l g xd0 xd1 xd2 xd3 xd4 b pF4 pL4 st tm qt cm ds dr e5) (cwV 0 hts gX3_pin_X0_countPinned rfl rfl rfl hdV_X0_countPinned ⟨Nat.le_of_ble_eq_true rfl, Nat.le_of_ble_eq_true rfl⟩) hK hP [4, 5, 6, 7, 8] rfl 4 rfl rfl rfl hl.1 rfl (Nat.le_of_ble_eq_true rfl) ⟨Nat.le_of_ble_eq_true rfl, Nat.le_of_ble_eq_true rfl⟩ dX3_pin_34 ?_
      cases h
      exact zx_i hx hb hr hlocks hP hS (by decide) (by decide) dX3_pin_37
def fX3_unpin (b : Nat → Int32) (pF : Nat → Int32) (pL : Nat → Int32) (st : Nat → Int32) (tm : Int32) (qt : Int32) (cm : Int32) (ds : Int32) (dr : Int32) (ol : Int32) (pz : Int32) (dvs : Nat → zDv) (a1 : Int32) : Option (Int32 × Int32 × (Nat → Int32) × (Nat → Int32) × (Int32) × (Int32) × (Nat → zDv)) :=
  ob (fX3_checkPin a1) fun k1 =>
  if k1 = 0 then
    ob (fX0_hasPin pL a1) fun r2 =>
    if r2 = 0 then
      some (3, 0, pF, pL, ol, pz, dvs)
    else
      ob3 (fX1_remember ol pz dvs b pF pL st tm qt cm ds dr) fun ol4 pz4 dvs4 =>
      ob2 (fX0_pinSpan pF pL a1 0 0) fun pF5 pL5 =>
      ob (fX0_countPinned pF5 pL5) fun r6 =>
      some (0, r6, pF5, pL5, ol4, pz4, dvs4)
  else some (k1, 0, pF, pL, ol, pz, dvs)
theorem mX3_unpin_19 : Cond.fieldLink RX3 19 "IdleDiscards" "device" "LIdleDiscards$Device;" ∈ wsX3_unpin := by decide +kernel
theorem uX3_unpin_X3 : ∀ w ∈ wsX30, w ∈ wsX3_unpin := by decide +kernel
theorem mX3_unpin_29 : Cond.fieldLink RX3 29 "IdleDiscards" "past" "LIdleDiscards$Past;" ∈ wsX3_unpin := by decide +kernel
theorem mX3_unpin_k52 : Cond.classLink RX3 52 (zE 3) ∈ wsX3_unpin := by decide +kernel
theorem mX3_unpin_j52 : Cond.initialized (zE 3) ∈ wsX3_unpin := by decide +kernel
theorem mX3_unpin_a52 : ∀ w ∈ (vx_atS RX3 56 (zE 3) ["java/lang/RuntimeException", "java/lang/Exception"]).filter goodWord, w ∈ wsX3_unpin := by decide +kernel
set_option maxRecDepth 100000 in
set_option maxHeartbeats 4000000 in
theorem kX3_unpin (l : Launch) (g : zG) (h0 xt0 xt1 xt2 xd0 xd1 xd2 xd3 xd4 xc0 xc1 xc2 xc3 xc4 xp0 xp1 xs0 xu0 xe0 xe1 xe2 xe3 xe4 xf0 xf1 xf2 xf3 xf4 : Nat) (ad : Nat → Nat → Nat) (ch : Nat → Int32) (nu : Nat → Int32) (le : Int32) (ta : Int32) (lt : Int32) (b : Nat → Int32) (pF : Nat → Int32) (pL : Nat → Int32) (st : Nat → Int32) (tm : Int32) (qt : Int32) (cm : Int32) (ds : Int32) (dr : Int32) (bC : Nat → Int32) (pFC : Nat → Int32) (pLC : Nat → Int32) (stC : Nat → Int32) (tmC : Int32) (qtC : Int32) (cmC : Int32) (dsC : Int32) (drC : Int32) (ol : Int32) (pz : Int32) (dvs : Nat → zDv) (us : Nat → Int32) (bS : Nat → Int32) (pFS : Nat → Int32) (pLS : Nat → Int32) (stS : Nat → Int32) (tmS : Int32) (qtS : Int32) (cmS : Int32) (dsS : Int32) (drS : Int32) (bT : Nat → Int32) (pFT : Nat → Int32) (pLT : Nat → Int32) (stT : Nat → Int32) (tmT : Int32) (qtT : Int32) (cmT : Int32) (dsT : Int32) (drT : Int32) (a1 : Int32) (htr : l.stackTraces = false) {k : Int32} {r : Int32} {pF' : Nat → Int32} {pL' : Nat → Int32} {ol' : Int32} {pz' : Int32} {dvs' : Nat → zDv} (h : fX3_unpin b pF pL st tm qt cm ds dr ol pz dvs a1 = some (k, r, pF', pL', ol', pz', dvs')) : Mx l g yX3_unpin wsX3_unpin { frames := 7, cells := 2, slots := 12, locals := 102 } [.ref h0, .int a1] (zI g h0 xt0 xt1 xt2 xd0 xd1 xd2 xd3 xd4 xc0 xc1 xc2 xc3 xc4 xp0 xp1 xs0 xu0 xe0 xe1 xe2 xe3 xe4 xf0 xf1 xf2 xf3 xf4 ad ch nu le ta lt b pF pL st tm qt cm ds dr bC pFC pLC stC tmC qtC cmC dsC drC ol pz dvs us bS pFS pLS stS tmS qtS cmS dsS drS bT pFT pLT stT tmT qtT cmT dsT drT) (zXi g (zI g h0 xt0 xt1 xt2 xd0 xd1 xd2 xd3 xd4 xc0 xc1 xc2 xc3 xc4 xp0 xp1 xs0 xu0 xe0 xe1 xe2 xe3 xe4 xf0 xf1 xf2 xf3 xf4 ad ch nu le ta lt b pF' pL' st tm qt cm ds dr bC pFC pLC stC tmC qtC cmC dsC drC ol' pz' dvs' us bS pFS pLS stS tmS qtS cmS dsS drS bT pFT pLT stT tmT qtT cmT dsT drT) k r) (zXx g (zI g h0 xt0 xt1 xt2 xd0 xd1 xd2 xd3 xd4 xc0 xc1 xc2 xc3 xc4 xp0 xp1 xs0 xu0 xe0 xe1 xe2 xe3 xe4 xf0 xf1 xf2 xf3 xf4 ad ch nu le ta lt b pF' pL' st tm qt cm ds dr bC pFC pLC stC tmC qtC cmC dsC drC ol' pz' dvs' us bS pFS pLS stS tmS qtS cmS dsS drS bT pFT pLT stT tmT qtT cmT dsT drT) k) 2 12 := by
  refine zx_in (cc := cX3_unpin) (maxL := 2) (ret := (some .int)) (by decide) rfl (Nat.le_of_ble_eq_true rfl) ?_
  intro p e s m below meth c hx hb hr hml hts hown hlocks hK ht A hA hP hD hS hAm ls hl
  replace hl : lv_has ls 2 [(0, .ref h0), (1, .int a1)] := hl
  unfold fX3_unpin at h
  refine lv_iload_n hx hb dX3_unpin_0 rfl (lv_at hl 1 rfl) ?_
  obtain ⟨k1, e1, h⟩ := zb h
  refine zSx (As := [.int a1]) (rest := []) (zXv_q g _ _) (zXx_q g _ _) ⟨hx, hb, hml, hown, hts⟩ (kX3_checkPin l g a1 htr e1) (va_cwS 1 hts gX3_unpin_X3_checkPin rfl rfl rfl hdS_X3_checkPin ⟨Nat.le_of_ble_eq_true rfl, Nat.le_of_ble_eq_true rfl⟩) hK hP hD hS hA hAm [] (by decide) rfl rfl rfl hl.1 rfl (Nat.le_of_ble_eq_true rfl) ⟨Nat.le_of_ble_eq_true rfl, Nat.le_of_ble_eq_true rfl⟩ dX3_unpin_1 (fun c1 H locs q ce hP hD hS hq1 hq2 hq3 => ?_) (fun c1 H locs hP hD hS => ?_)
  · replace h := zf c1 h
    replace hP : zP g (zI g h0 xt0 xt1 xt2 xd0 xd1 xd2 xd3 xd4 xc0 xc1 xc2 xc3 xc4 xp0 xp1 xs0 xu0 xe0 xe1 xe2 xe3 xe4 xf0 xf1 xf2 xf3 xf4 ad ch nu le ta lt b pF pL st tm qt cm ds dr bC pFC pLC stC tmC qtC cmC dsC drC ol pz dvs us bS pFS pLS stS tmS qtS cmS dsS drS bT pFT pLT stT tmT qtT cmT dsT drT) H := hP
    cases h
    exact zx_out ht hlocks c1 hP hS hq1 hq2 hq3 (by decide) (by decide)
  · replace h := zt c1 h
    replace hP : zP g (zI g h0 xt0 xt1 xt2 xd0 xd1 xd2 xd3 xd4 xc0 xc1 xc2 xc3 xc4 xp0 xp1 xs0 xu0 xe0 xe1 xe2 xe3 xe4 xf0 xf1 xf2 xf3 xf4 ad ch nu le ta lt b pF pL st tm qt cm ds dr bC pFC pLC stC tmC qtC cmC dsC drC ol pz dvs us bS pFS pLS stS tmS qtS cmS dsS drS bT pFT pLT stT tmT qtT cmT dsT drT) H := hP
    replace hD : va_D A (zI g h0 xt0 xt1 xt2 xd0 xd1 xd2 xd3 xd4 xc0 xc1 xc2 xc3 xc4 xp0 xp1 xs0 xu0 xe0 xe1 xe2 xe3 xe4 xf0 xf1 xf2 xf3 xf4 ad ch nu le ta lt b pF pL st tm qt cm ds dr bC pFC pLC stC tmC qtC cmC dsC drC ol pz dvs us bS pFS pLS stS tmS qtS cmS dsS drS bT pFT pLT stT tmT qtT cmT dsT drT) := hD
    refine lv_aload_n hx hb dX3_unpin_4 rfl (lv_at hl 0 rfl) ?_
    refine va_get (ci := 3) (v := .ref xd0) (C := RX3) (T := TX3) (N := 6) hx hb hts uX3_unpin_X3 hown hK hP 0 rfl rfl 1 (by decide) (hts _ mX3_unpin_19) (fun _ h9 => h9) rfl dX3_unpin_5 ?_
    refine lv_iload_n hx hb dX3_unpin_8 rfl (lv_at hl 1 rfl) ?_
    obtain ⟨r2, e2, h⟩ := zb h
    refine zV (As := [.int a1]) (rest := []) (zQi_q _) ⟨hx, hb, hml, hown, hts⟩ (kX0_hasPin l g xd0 xd1 xd2 xd3 xd4 b pF pL st tm qt cm ds dr a1 e2) (cwV 1 hts gX3_unpin_X0_hasPin rfl rfl rfl hdV_X0_hasPin ⟨Nat.le_of_ble_eq_true rfl, Nat.le_of_ble_eq_true rfl⟩) hK hP [4, 5, 6, 7, 8] rfl 4 rfl rfl rfl hl.1 rfl (Nat.le_of_ble_eq_true rfl) ⟨Nat.le_of_ble_eq_true rfl, Nat.le_of_ble_eq_true rfl⟩ dX3_unpin_9 ?_
    refine lv_if_ne (tgt := 25) hx hb dX3_unpin_12 (by decide) (fun c3 => ?_) (fun c3 => ?_)
    · replace h := zf c3 h
      refine lv_aload_n hx hb dX3_unpin_25 rfl (lv_at hl 0 rfl) ?_
      refine va_get (ci := 3) (v := .ref xp0) (C := RX3) (T := TX3) (N := 6) hx hb hts uX3_unpin_X3 hown hK hP 0 rfl rfl 3 (by decide) (hts _ mX3_unpin_29) (fun _ h9 => h9) rfl dX3_unpin_26 ?_
      refine lv_aload_n hx hb dX3_unpin_29 rfl (lv_at hl 0 rfl) ?_
      refine va_get (ci := 3) (v := .ref xd0) (C := RX3) (T := TX3) (N := 6) hx hb hts uX3_unpin_X3 hown hK hP 0 rfl rfl 1 (by decide) (hts _ mX3_unpin_19) (fun _ h9 => h9) rfl dX3_unpin_30 ?_
      obtain ⟨ol4, pz4, dvs4, e4, h⟩ := zb3 h
      refine zVwT (As := [.ref xd0]) (rest := []) (pre := [(h0, .inr (3, [.ref xt0, .ref xd0, .ref xc0, .ref xp0, .ref xs0, .ref xu0])), (xt0, .inr (2, [.ref xt1, .ref xt2, .int le, .int ta, .int lt])), (xt1, .inl (g.2.2.1, 120, .inl ch)), (xt2, .inl (g.2.1, 3, .inl nu)), (xd0, .inr (0, [.ref xd1, .ref xd2, .ref xd3, .ref xd4, .int tm, .int qt, .int cm, .int ds, .int dr])), (xd1, .inl (g.2.1, 256, .inl b)), (xd2, .inl (g.2.1, 3, .inl pF)), (xd3, .inl (g.2.1, 3, .inl pL)), (xd4, .inl (g.2.1, 6, .inl st)), (xc0, .inr (0, [.ref xc1, .ref xc2, .ref xc3, .ref xc4, .int tmC, .int qtC, .int cmC, .int dsC, .int drC])), (xc1, .inl (g.2.1, 256, .inl bC)), (xc2, .inl (g.2.1, 3, .inl pFC)), (xc3, .inl (g.2.1, 3, .inl pLC)), (xc4, .inl (g.2.1, 6, .inl stC)), (xp0, .inr (1, [.ref xp1, .int ol, .int pz])), (xp1, .inl (g.2.2.2.2.1, 14, .inr (.inr (.inr (.inr (fun i => some (ad i 0))))))), (xs0, .inl (g.2.2.2.2.1, 2, .inr (.inr (.inr (.inr (fun i => if i = 0 then some xe0 else some xf0)))))), (xu0, .inl (g.2.2.2.1, 2, .inl us)), (xe0, .inr (0, [.ref xe1, .ref xe2, .ref xe3, .ref xe4, .int tmS, .int qtS, .int cmS, .int dsS, .int drS])), (xe1, .inl (g.2.1, 256, .inl bS)), (xe2, .inl (g.2.1, 3, .inl pFS)), (xe3, .inl (g.2.1, 3, .inl pLS)), (xe4, .inl (g.2.1, 6, .inl stS)), (xf0, .inr (0, [.ref xf1, .ref xf2, .ref xf3, .ref xf4, .int tmT, .int qtT, .int cmT, .int dsT, .int drT])), (xf1, .inl (g.2.1, 256, .inl bT)), (xf2, .inl (g.2.1, 3, .inl pFT)), (xf3, .inl (g.2.1, 3, .inl pLT)), (xf4, .inl (g.2.1, 6, .inl stT))]) (tl := (zpool g ad dvs 14)) (tlq := (zpool g ad dvs4 14)) (zWv_q g _) ⟨hx, hb, hml, hown, hts⟩ (kX1_remember l g xp0 xp1 xd0 xd1 xd2 xd3 xd4 ad ol pz dvs b pF pL st tm qt cm ds dr e4) (cwV 1 hts gX3_unpin_X1_remember rfl rfl rfl hdV_X1_remember ⟨Nat.le_of_ble_eq_true rfl, Nat.le_of_ble_eq_true rfl⟩) hK hP hD hS hA [14, 15, 4, 5, 6, 7, 8] (by decide) rfl rfl (zpool_fst g ad _ _ 14) 14 rfl rfl rfl hl.1 rfl (Nat.le_of_ble_eq_true rfl) ⟨Nat.le_of_ble_eq_true rfl, Nat.le_of_ble_eq_true rfl⟩ dX3_unpin_33 (fun H locs hP hD hS => ?_)
      replace hP : zP g (zI g h0 xt0 xt1 xt2 xd0 xd1 xd2 xd3 xd4 xc0 xc1 xc2 xc3 xc4 xp0 xp1 xs0 xu0 xe0 xe1 xe2 xe3 xe4 xf0 xf1 xf2 xf3 xf4 ad ch nu le ta lt b pF pL st tm qt cm ds dr bC pFC pLC stC tmC qtC cmC dsC drC ol4 pz4 dvs4 us bS pFS pLS stS tmS qtS cmS dsS drS bT pFT pLT stT tmT qtT cmT dsT drT) H := hP
      replace hD : va_D A (zI g h0 xt0 xt1 xt2 xd0 xd1 xd2 xd3 xd4 xc0 xc1 xc2 xc3 xc4 xp0 xp1 xs0 xu0 xe0 xe1 xe2 xe3 xe4 xf0 xf1 xf2 xf3 xf4 ad ch nu le ta lt b pF pL st tm qt cm ds dr bC pFC pLC stC tmC qtC cmC dsC drC ol4 pz4 dvs4 us bS pFS pLS stS tmS qtS cmS dsS drS bT pFT pLT stT tmT qtT cmT dsT drT) := hD
      refine lv_aload_n hx hb dX3_unpin_36 rfl (lv_at hl 0 rfl) ?_
      refine va_get (ci := 3) (v := .ref xd0) (C := RX3) (T := TX3) (N := 6) hx hb hts uX3_unpin_X3 hown hK hP 0 rfl rfl 1 (by decide) (hts _ mX3_unpin_19) (fun _ h9 => h9) rfl dX3_unpin_37 ?_
      refine lv_iload_n hx hb dX3_unpin_40 rfl (lv_at hl 1 rfl) ?_
      refine lv_iconst (v := 0) hx hb dX3_unpin_41 (by decide) ?_
      refine lv_iconst (v := 0) hx hb dX3_unpin_42 (by decide) ?_
      obtain ⟨pF5, pL5, e5, h⟩ := zb2 h
      refine zVw (As := [.int a1, .int 0, .int 0]) (rest := []) (zWv_q g _) ⟨hx, hb, hml, hown, hts⟩ (kX0_pinSpan l g xd0 xd1 xd2 xd3 xd4 b pF pL st tm qt cm ds dr a1 0 0 e5) (cwV 3 hts gX3_unpin_X0_pinSpan rfl rfl rfl hdV_X0_pinSpan ⟨Nat.le_of_ble_eq_true rfl, Nat.le_of_ble_eq_true rfl⟩) hK hP hD hS hA [4, 5, 6, 7, 8] (by decide) rfl rfl 4 rfl rfl rfl hl.1 rfl (Nat.le_of_ble_eq_true rfl) ⟨Nat.le_of_ble_eq_true rfl, Nat.le_of_ble_eq_true rfl⟩ dX3_unpin_43 (fun H locs hP hD hS => ?_)
      replace hP : zP g (zI g h0 xt0 xt1 xt2 xd0 xd1 xd2 xd3 xd4 xc0 xc1 xc2 xc3 xc4 xp0 xp1 xs0 xu0 xe0 xe1 xe2 xe3 xe4 xf0 xf1 xf2 xf3 xf4 ad ch nu le ta lt b pF5 pL5 st tm qt cm ds dr bC pFC pLC stC tmC qtC cmC dsC drC ol4 pz4 dvs4 us bS pFS pLS stS tmS qtS cmS dsS drS bT pFT pLT stT tmT qtT cmT dsT drT) H := hP
      replace hD : va_D A (zI g h0 xt0 xt1 xt2 xd0 xd1 xd2 xd3 xd4 xc0 xc1 xc2 xc3 xc4 xp0 xp1 xs0 xu0 xe0 xe1 xe2 xe3 xe4 xf0 xf1 xf2 xf3 xf4 ad ch nu le ta lt b pF5 pL5 st tm qt cm ds dr bC pFC pLC stC tmC qtC cmC dsC drC ol4 pz4 dvs4 us bS pFS pLS stS tmS qtS cmS dsS drS bT pFT pLT stT tmT qtT cmT dsT drT) := hD
      refine lv_aload_n hx hb dX3_unpin_46 rfl (lv_at hl 0 rfl) ?_
      refine va_get (ci := 3) (v := .ref xd0) (C := RX3) (T := TX3) (N := 6) hx hb hts uX3_unpin_X3 hown hK hP 0 rfl rfl 1 (by decide) (hts _ mX3_unpin_19) (fun _ h9 => h9) rfl dX3_unpin_47 ?_
      obtain ⟨r6, e6, h⟩ := zb h
      refine zV (As := []) (rest := []) (zQi_q _) ⟨hx, hb, hml, hown, hts⟩ (kX0_countPinned l g xd0 xd1 xd2 xd3 xd4 b pF5 pL5 st tm qt cm ds dr e6) (cwV 0 hts gX3_unpin_X0_countPinned rfl rfl rfl hdV_X0_countPinned ⟨Nat.le_of_ble_eq_true rfl, Nat.le_of_ble_eq_true rfl⟩) hK hP [4, 5, 6, 7, 8] rfl 4 rfl rfl rfl hl.1 rfl (Nat.le_of_ble_eq_true rfl) ⟨Nat.le_of_ble_eq_true rfl, Nat.le_of_ble_eq_true rfl⟩ dX3_unpin_50 ?_
      cases h
      exact zx_i hx hb hr hlocks hP hS (by decide) (by decide) dX3_unpin_53
    · replace h := zt c3 h
      cases h
      exact zx_throw (text := "the pin has no span") hx hb htr hown hts (by decide) zEx_3 mX3_unpin_k52 mX3_unpin_j52 mX3_unpin_a52 zEb_3 zEg_3_52 zEf_3 zEn (by decide +kernel) hAm hP hS (hl.1.trans hml.symm) dX3_unpin_15 dX3_unpin_18 dX3_unpin_19 dX3_unpin_21 dX3_unpin_24 ht (Nat.le_of_ble_eq_true rfl) (Nat.le_of_ble_eq_true rfl) (Nat.le_of_ble_eq_true rfl) (Nat.le_of_ble_eq_true rfl) hlocks (by decide) (by decide)
theorem hdS_X3_checkTicks : yX3_checkTicks.cls ≠ "java/lang/invoke/MethodHandle" ∧ yX3_checkTicks.cls ≠ "java/lang/invoke/VarHandle" ∧ (parseMethodDescriptor yX3_checkTicks.desc).map (fun d => d.parameters.length) = some 2 := by decide +kernel
def fX3_run (b : Nat → Int32) (pF : Nat → Int32) (pL : Nat → Int32) (st : Nat → Int32) (tm : Int32) (qt : Int32) (cm : Int32) (ds : Int32) (dr : Int32) (ol : Int32) (pz : Int32) (dvs : Nat → zDv) (a1 : Int32) : Option (Int32 × Int32 × (Nat → Int32) × (Int32) × (Int32) × (Int32) × (Int32) × (Int32) × (Int32) × (Int32) × (Nat → zDv)) :=
  ob (fX3_checkTicks a1 60) fun k1 =>
  if k1 = 0 then
    ob3 (fX1_remember ol pz dvs b pF pL st tm qt cm ds dr) fun ol2 pz2 dvs2 =>
    ob7 (fX0_passTicks b pF pL st tm qt cm ds dr a1) fun r3 b3 tm3 qt3 cm3 ds3 dr3 =>
    some (0, r3, b3, tm3, qt3, cm3, ds3, dr3, ol2, pz2, dvs2)
  else some (k1, 0, b, tm, qt, cm, ds, dr, ol, pz, dvs)
theorem mX3_run_29 : Cond.fieldLink RX3 29 "IdleDiscards" "past" "LIdleDiscards$Past;" ∈ wsX3_run := by decide +kernel
theorem uX3_run_X3 : ∀ w ∈ wsX30, w ∈ wsX3_run := by decide +kernel
theorem mX3_run_19 : Cond.fieldLink RX3 19 "IdleDiscards" "device" "LIdleDiscards$Device;" ∈ wsX3_run := by decide +kernel
set_option maxRecDepth 100000 in
set_option maxHeartbeats 4000000 in
theorem kX3_run (l : Launch) (g : zG) (h0 xt0 xt1 xt2 xd0 xd1 xd2 xd3 xd4 xc0 xc1 xc2 xc3 xc4 xp0 xp1 xs0 xu0 xe0 xe1 xe2 xe3 xe4 xf0 xf1 xf2 xf3 xf4 : Nat) (ad : Nat → Nat → Nat) (ch : Nat → Int32) (nu : Nat → Int32) (le : Int32) (ta : Int32) (lt : Int32) (b : Nat → Int32) (pF : Nat → Int32) (pL : Nat → Int32) (st : Nat → Int32) (tm : Int32) (qt : Int32) (cm : Int32) (ds : Int32) (dr : Int32) (bC : Nat → Int32) (pFC : Nat → Int32) (pLC : Nat → Int32) (stC : Nat → Int32) (tmC : Int32) (qtC : Int32) (cmC : Int32) (dsC : Int32) (drC : Int32) (ol : Int32) (pz : Int32) (dvs : Nat → zDv) (us : Nat → Int32) (bS : Nat → Int32) (pFS : Nat → Int32) (pLS : Nat → Int32) (stS : Nat → Int32) (tmS : Int32) (qtS : Int32) (cmS : Int32) (dsS : Int32) (drS : Int32) (bT : Nat → Int32) (pFT : Nat → Int32) (pLT : Nat → Int32) (stT : Nat → Int32) (tmT : Int32) (qtT : Int32) (cmT : Int32) (dsT : Int32) (drT : Int32) (a1 : Int32) (htr : l.stackTraces = false) {k : Int32} {r : Int32} {b' : Nat → Int32} {tm' : Int32} {qt' : Int32} {cm' : Int32} {ds' : Int32} {dr' : Int32} {ol' : Int32} {pz' : Int32} {dvs' : Nat → zDv} (h : fX3_run b pF pL st tm qt cm ds dr ol pz dvs a1 = some (k, r, b', tm', qt', cm', ds', dr', ol', pz', dvs')) : Mx l g yX3_run wsX3_run { frames := 7, cells := 1, slots := 6, locals := 123 } [.ref h0, .int a1] (zI g h0 xt0 xt1 xt2 xd0 xd1 xd2 xd3 xd4 xc0 xc1 xc2 xc3 xc4 xp0 xp1 xs0 xu0 xe0 xe1 xe2 xe3 xe4 xf0 xf1 xf2 xf3 xf4 ad ch nu le ta lt b pF pL st tm qt cm ds dr bC pFC pLC stC tmC qtC cmC dsC drC ol pz dvs us bS pFS pLS stS tmS qtS cmS dsS drS bT pFT pLT stT tmT qtT cmT dsT drT) (zXi g (zI g h0 xt0 xt1 xt2 xd0 xd1 xd2 xd3 xd4 xc0 xc1 xc2 xc3 xc4 xp0 xp1 xs0 xu0 xe0 xe1 xe2 xe3 xe4 xf0 xf1 xf2 xf3 xf4 ad ch nu le ta lt b' pF pL st tm' qt' cm' ds' dr' bC pFC pLC stC tmC qtC cmC dsC drC ol' pz' dvs' us bS pFS pLS stS tmS qtS cmS dsS drS bT pFT pLT stT tmT qtT cmT dsT drT) k r) (zXx g (zI g h0 xt0 xt1 xt2 xd0 xd1 xd2 xd3 xd4 xc0 xc1 xc2 xc3 xc4 xp0 xp1 xs0 xu0 xe0 xe1 xe2 xe3 xe4 xf0 xf1 xf2 xf3 xf4 ad ch nu le ta lt b' pF pL st tm' qt' cm' ds' dr' bC pFC pLC stC tmC qtC cmC dsC drC ol' pz' dvs' us bS pFS pLS stS tmS qtS cmS dsS drS bT pFT pLT stT tmT qtT cmT dsT drT) k) 1 6 := by
  refine zx_in (cc := cX3_run) (maxL := 2) (ret := (some .int)) (by decide) rfl (Nat.le_of_ble_eq_true rfl) ?_
  intro p e s m below meth c hx hb hr hml hts hown hlocks hK ht A hA hP hD hS hAm ls hl
  replace hl : lv_has ls 2 [(0, .ref h0), (1, .int a1)] := hl
  unfold fX3_run at h
  refine lv_iload_n hx hb dX3_run_0 rfl (lv_at hl 1 rfl) ?_
  refine lv_bipush (v := 60) hx hb dX3_run_1 (by decide) ?_
  obtain ⟨k1, e1, h⟩ := zb h
  refine zSx (As := [.int a1, .int 60]) (rest := []) (zXv_q g _ _) (zXx_q g _ _) ⟨hx, hb, hml, hown, hts⟩ (kX3_checkTicks l g a1 60 htr e1) (va_cwS 2 hts gX3_run_X3_checkTicks rfl rfl rfl hdS_X3_checkTicks ⟨Nat.le_of_ble_eq_true rfl, Nat.le_of_ble_eq_true rfl⟩) hK hP hD hS hA hAm [] (by decide) rfl rfl rfl hl.1 rfl (Nat.le_of_ble_eq_true rfl) ⟨Nat.le_of_ble_eq_true rfl, Nat.le_of_ble_eq_true rfl⟩ dX3_run_3 (fun c1 H locs q ce hP hD hS hq1 hq2 hq3 => ?_) (fun c1 H locs hP hD hS => ?_)
  · replace h := zf c1 h
    replace hP : zP g (zI g h0 xt0 xt1 xt2 xd0 xd1 xd2 xd3 xd4 xc0 xc1 xc2 xc3 xc4 xp0 xp1 xs0 xu0 xe0 xe1 xe2 xe3 xe4 xf0 xf1 xf2 xf3 xf4 ad ch nu le ta lt b pF pL st tm qt cm ds dr bC pFC pLC stC tmC qtC cmC dsC drC ol pz dvs us bS pFS pLS stS tmS qtS cmS dsS drS bT pFT pLT stT tmT qtT cmT dsT drT) H := hP
    cases h
    exact zx_out ht hlocks c1 hP hS hq1 hq2 hq3 (by decide) (by decide)
  · replace h := zt c1 h
    replace hP : zP g (zI g h0 xt0 xt1 xt2 xd0 xd1 xd2 xd3 xd4 xc0 xc1 xc2 xc3 xc4 xp0 xp1 xs0 xu0 xe0 xe1 xe2 xe3 xe4 xf0 xf1 xf2 xf3 xf4 ad ch nu le ta lt b pF pL st tm qt cm ds dr bC pFC pLC stC tmC qtC cmC dsC drC ol pz dvs us bS pFS pLS stS tmS qtS cmS dsS drS bT pFT pLT stT tmT qtT cmT dsT drT) H := hP
    replace hD : va_D A (zI g h0 xt0 xt1 xt2 xd0 xd1 xd2 xd3 xd4 xc0 xc1 xc2 xc3 xc4 xp0 xp1 xs0 xu0 xe0 xe1 xe2 xe3 xe4 xf0 xf1 xf2 xf3 xf4 ad ch nu le ta lt b pF pL st tm qt cm ds dr bC pFC pLC stC tmC qtC cmC dsC drC ol pz dvs us bS pFS pLS stS tmS qtS cmS dsS drS bT pFT pLT stT tmT qtT cmT dsT drT) := hD
    refine lv_aload_n hx hb dX3_run_6 rfl (lv_at hl 0 rfl) ?_
    refine va_get (ci := 3) (v := .ref xp0) (C := RX3) (T := TX3) (N := 6) hx hb hts uX3_run_X3 hown hK hP 0 rfl rfl 3 (by decide) (hts _ mX3_run_29) (fun _ h9 => h9) rfl dX3_run_7 ?_
    refine lv_aload_n hx hb dX3_run_10 rfl (lv_at hl 0 rfl) ?_
    refine va_get (ci := 3) (v := .ref xd0) (C := RX3) (T := TX3) (N := 6) hx hb hts uX3_run_X3 hown hK hP 0 rfl rfl 1 (by decide) (hts _ mX3_run_19) (fun _ h9 => h9) rfl dX3_run_11 ?_
    obtain ⟨ol2, pz2, dvs2, e2, h⟩ := zb3 h
    refine zVwT (As := [.ref xd0]) (rest := []) (pre := [(h0, .inr (3, [.ref xt0, .ref xd0, .ref xc0, .ref xp0, .ref xs0, .ref xu0])), (xt0, .inr (2, [.ref xt1, .ref xt2, .int le, .int ta, .int lt])), (xt1, .inl (g.2.2.1, 120, .inl ch)), (xt2, .inl (g.2.1, 3, .inl nu)), (xd0, .inr (0, [.ref xd1, .ref xd2, .ref xd3, .ref xd4, .int tm, .int qt, .int cm, .int ds, .int dr])), (xd1, .inl (g.2.1, 256, .inl b)), (xd2, .inl (g.2.1, 3, .inl pF)), (xd3, .inl (g.2.1, 3, .inl pL)), (xd4, .inl (g.2.1, 6, .inl st)), (xc0, .inr (0, [.ref xc1, .ref xc2, .ref xc3, .ref xc4, .int tmC, .int qtC, .int cmC, .int dsC, .int drC])), (xc1, .inl (g.2.1, 256, .inl bC)), (xc2, .inl (g.2.1, 3, .inl pFC)), (xc3, .inl (g.2.1, 3, .inl pLC)), (xc4, .inl (g.2.1, 6, .inl stC)), (xp0, .inr (1, [.ref xp1, .int ol, .int pz])), (xp1, .inl (g.2.2.2.2.1, 14, .inr (.inr (.inr (.inr (fun i => some (ad i 0))))))), (xs0, .inl (g.2.2.2.2.1, 2, .inr (.inr (.inr (.inr (fun i => if i = 0 then some xe0 else some xf0)))))), (xu0, .inl (g.2.2.2.1, 2, .inl us)), (xe0, .inr (0, [.ref xe1, .ref xe2, .ref xe3, .ref xe4, .int tmS, .int qtS, .int cmS, .int dsS, .int drS])), (xe1, .inl (g.2.1, 256, .inl bS)), (xe2, .inl (g.2.1, 3, .inl pFS)), (xe3, .inl (g.2.1, 3, .inl pLS)), (xe4, .inl (g.2.1, 6, .inl stS)), (xf0, .inr (0, [.ref xf1, .ref xf2, .ref xf3, .ref xf4, .int tmT, .int qtT, .int cmT, .int dsT, .int drT])), (xf1, .inl (g.2.1, 256, .inl bT)), (xf2, .inl (g.2.1, 3, .inl pFT)), (xf3, .inl (g.2.1, 3, .inl pLT)), (xf4, .inl (g.2.1, 6, .inl stT))]) (tl := (zpool g ad dvs 14)) (tlq := (zpool g ad dvs2 14)) (zWv_q g _) ⟨hx, hb, hml, hown, hts⟩ (kX1_remember l g xp0 xp1 xd0 xd1 xd2 xd3 xd4 ad ol pz dvs b pF pL st tm qt cm ds dr e2) (cwV 1 hts gX3_run_X1_remember rfl rfl rfl hdV_X1_remember ⟨Nat.le_of_ble_eq_true rfl, Nat.le_of_ble_eq_true rfl⟩) hK hP hD hS hA [14, 15, 4, 5, 6, 7, 8] (by decide) rfl rfl (zpool_fst g ad _ _ 14) 14 rfl rfl rfl hl.1 rfl (Nat.le_of_ble_eq_true rfl) ⟨Nat.le_of_ble_eq_true rfl, Nat.le_of_ble_eq_true rfl⟩ dX3_run_14 (fun H locs hP hD hS => ?_)
    replace hP : zP g (zI g h0 xt0 xt1 xt2 xd0 xd1 xd2 xd3 xd4 xc0 xc1 xc2 xc3 xc4 xp0 xp1 xs0 xu0 xe0 xe1 xe2 xe3 xe4 xf0 xf1 xf2 xf3 xf4 ad ch nu le ta lt b pF pL st tm qt cm ds dr bC pFC pLC stC tmC qtC cmC dsC drC ol2 pz2 dvs2 us bS pFS pLS stS tmS qtS cmS dsS drS bT pFT pLT stT tmT qtT cmT dsT drT) H := hP
    replace hD : va_D A (zI g h0 xt0 xt1 xt2 xd0 xd1 xd2 xd3 xd4 xc0 xc1 xc2 xc3 xc4 xp0 xp1 xs0 xu0 xe0 xe1 xe2 xe3 xe4 xf0 xf1 xf2 xf3 xf4 ad ch nu le ta lt b pF pL st tm qt cm ds dr bC pFC pLC stC tmC qtC cmC dsC drC ol2 pz2 dvs2 us bS pFS pLS stS tmS qtS cmS dsS drS bT pFT pLT stT tmT qtT cmT dsT drT) := hD
    refine lv_aload_n hx hb dX3_run_17 rfl (lv_at hl 0 rfl) ?_
    refine va_get (ci := 3) (v := .ref xd0) (C := RX3) (T := TX3) (N := 6) hx hb hts uX3_run_X3 hown hK hP 0 rfl rfl 1 (by decide) (hts _ mX3_run_19) (fun _ h9 => h9) rfl dX3_run_18 ?_
    refine lv_iload_n hx hb dX3_run_21 rfl (lv_at hl 1 rfl) ?_
    obtain ⟨r3, b3, tm3, qt3, cm3, ds3, dr3, e3, h⟩ := zb7 h
    refine zVw (As := [.int a1]) (rest := []) (zWi_q g _ _) ⟨hx, hb, hml, hown, hts⟩ (kX0_passTicks l g xd0 xd1 xd2 xd3 xd4 b pF pL st tm qt cm ds dr a1 e3) (cwV 1 hts gX3_run_X0_passTicks rfl rfl rfl hdV_X0_passTicks ⟨Nat.le_of_ble_eq_true rfl, Nat.le_of_ble_eq_true rfl⟩) hK hP hD hS hA [4, 5, 6, 7, 8] (by decide) rfl rfl 4 rfl rfl rfl hl.1 rfl (Nat.le_of_ble_eq_true rfl) ⟨Nat.le_of_ble_eq_true rfl, Nat.le_of_ble_eq_true rfl⟩ dX3_run_22 (fun H locs hP hD hS => ?_)
    replace hP : zP g (zI g h0 xt0 xt1 xt2 xd0 xd1 xd2 xd3 xd4 xc0 xc1 xc2 xc3 xc4 xp0 xp1 xs0 xu0 xe0 xe1 xe2 xe3 xe4 xf0 xf1 xf2 xf3 xf4 ad ch nu le ta lt b3 pF pL st tm3 qt3 cm3 ds3 dr3 bC pFC pLC stC tmC qtC cmC dsC drC ol2 pz2 dvs2 us bS pFS pLS stS tmS qtS cmS dsS drS bT pFT pLT stT tmT qtT cmT dsT drT) H := hP
    replace hD : va_D A (zI g h0 xt0 xt1 xt2 xd0 xd1 xd2 xd3 xd4 xc0 xc1 xc2 xc3 xc4 xp0 xp1 xs0 xu0 xe0 xe1 xe2 xe3 xe4 xf0 xf1 xf2 xf3 xf4 ad ch nu le ta lt b3 pF pL st tm3 qt3 cm3 ds3 dr3 bC pFC pLC stC tmC qtC cmC dsC drC ol2 pz2 dvs2 us bS pFS pLS stS tmS qtS cmS dsS drS bT pFT pLT stT tmT qtT cmT dsT drT) := hD
    cases h
    exact zx_i hx hb hr hlocks hP hS (by decide) (by decide) dX3_run_25
theorem hdV_X0_sendAll : yX0_sendAll.cls = RX0 ∧ yX0_sendAll.cls ≠ "java/lang/invoke/MethodHandle" ∧ yX0_sendAll.cls ≠ "java/lang/invoke/VarHandle" ∧ (parseMethodDescriptor yX0_sendAll.desc).map (fun d => d.parameters.length) = some 0 := by decide +kernel
def fX3_flush (b : Nat → Int32) (pF : Nat → Int32) (pL : Nat → Int32) (st : Nat → Int32) (tm : Int32) (qt : Int32) (cm : Int32) (ds : Int32) (dr : Int32) (ol : Int32) (pz : Int32) (dvs : Nat → zDv) : Option (Int32 × (Nat → Int32) × (Int32) × (Int32) × (Int32) × (Int32) × (Int32) × (Nat → zDv)) :=
  ob3 (fX1_remember ol pz dvs b pF pL st tm qt cm ds dr) fun ol1 pz1 dvs1 =>
  ob5 (fX0_sendAll b pF pL st tm cm ds dr) fun r2 b2 cm2 ds2 dr2 =>
  some (r2, b2, cm2, ds2, dr2, ol1, pz1, dvs1)
theorem mX3_flush_29 : Cond.fieldLink RX3 29 "IdleDiscards" "past" "LIdleDiscards$Past;" ∈ wsX3_flush := by decide +kernel
theorem uX3_flush_X3 : ∀ w ∈ wsX30, w ∈ wsX3_flush := by decide +kernel
theorem mX3_flush_19 : Cond.fieldLink RX3 19 "IdleDiscards" "device" "LIdleDiscards$Device;" ∈ wsX3_flush := by decide +kernel
set_option maxRecDepth 100000 in
set_option maxHeartbeats 4000000 in
theorem kX3_flush (l : Launch) (g : zG) (h0 xt0 xt1 xt2 xd0 xd1 xd2 xd3 xd4 xc0 xc1 xc2 xc3 xc4 xp0 xp1 xs0 xu0 xe0 xe1 xe2 xe3 xe4 xf0 xf1 xf2 xf3 xf4 : Nat) (ad : Nat → Nat → Nat) (ch : Nat → Int32) (nu : Nat → Int32) (le : Int32) (ta : Int32) (lt : Int32) (b : Nat → Int32) (pF : Nat → Int32) (pL : Nat → Int32) (st : Nat → Int32) (tm : Int32) (qt : Int32) (cm : Int32) (ds : Int32) (dr : Int32) (bC : Nat → Int32) (pFC : Nat → Int32) (pLC : Nat → Int32) (stC : Nat → Int32) (tmC : Int32) (qtC : Int32) (cmC : Int32) (dsC : Int32) (drC : Int32) (ol : Int32) (pz : Int32) (dvs : Nat → zDv) (us : Nat → Int32) (bS : Nat → Int32) (pFS : Nat → Int32) (pLS : Nat → Int32) (stS : Nat → Int32) (tmS : Int32) (qtS : Int32) (cmS : Int32) (dsS : Int32) (drS : Int32) (bT : Nat → Int32) (pFT : Nat → Int32) (pLT : Nat → Int32) (stT : Nat → Int32) (tmT : Int32) (qtT : Int32) (cmT : Int32) (dsT : Int32) (drT : Int32) {r : Int32} {b' : Nat → Int32} {cm' : Int32} {ds' : Int32} {dr' : Int32} {ol' : Int32} {pz' : Int32} {dvs' : Nat → zDv} (h : fX3_flush b pF pL st tm qt cm ds dr ol pz dvs = some (r, b', cm', ds', dr', ol', pz', dvs')) : Mw l g yX3_flush wsX3_flush { frames := 4, cells := 0, slots := 0, locals := 99 } [.ref h0] (zI g h0 xt0 xt1 xt2 xd0 xd1 xd2 xd3 xd4 xc0 xc1 xc2 xc3 xc4 xp0 xp1 xs0 xu0 xe0 xe1 xe2 xe3 xe4 xf0 xf1 xf2 xf3 xf4 ad ch nu le ta lt b pF pL st tm qt cm ds dr bC pFC pLC stC tmC qtC cmC dsC drC ol pz dvs us bS pFS pLS stS tmS qtS cmS dsS drS bT pFT pLT stT tmT qtT cmT dsT drT) (zWi g (zI g h0 xt0 xt1 xt2 xd0 xd1 xd2 xd3 xd4 xc0 xc1 xc2 xc3 xc4 xp0 xp1 xs0 xu0 xe0 xe1 xe2 xe3 xe4 xf0 xf1 xf2 xf3 xf4 ad ch nu le ta lt b' pF pL st tm qt cm' ds' dr' bC pFC pLC stC tmC qtC cmC dsC drC ol' pz' dvs' us bS pFS pLS stS tmS qtS cmS dsS drS bT pFT pLT stT tmT qtT cmT dsT drT) r) := by
  refine zw_in (cc := cX3_flush) (maxL := 1) (ret := (some .int)) (by decide) rfl (Nat.le_of_ble_eq_true rfl) ?_
  intro p e s m below meth c hx hb hr hml hts hown hlocks hK A hA hP hD hS ls hl
  replace hl : lv_has ls 1 [(0, .ref h0)] := hl
  unfold fX3_flush at h
  refine lv_aload_n hx hb dX3_flush_0 rfl (lv_at hl 0 rfl) ?_
  refine va_get (ci := 3) (v := .ref xp0) (C := RX3) (T := TX3) (N := 6) hx hb hts uX3_flush_X3 hown hK hP 0 rfl rfl 3 (by decide) (hts _ mX3_flush_29) (fun _ h9 => h9) rfl dX3_flush_1 ?_
  refine lv_aload_n hx hb dX3_flush_4 rfl (lv_at hl 0 rfl) ?_
  refine va_get (ci := 3) (v := .ref xd0) (C := RX3) (T := TX3) (N := 6) hx hb hts uX3_flush_X3 hown hK hP 0 rfl rfl 1 (by decide) (hts _ mX3_flush_19) (fun _ h9 => h9) rfl dX3_flush_5 ?_
  obtain ⟨ol1, pz1, dvs1, e1, h⟩ := zb3 h
  refine zVwT (As := [.ref xd0]) (rest := []) (pre := [(h0, .inr (3, [.ref xt0, .ref xd0, .ref xc0, .ref xp0, .ref xs0, .ref xu0])), (xt0, .inr (2, [.ref xt1, .ref xt2, .int le, .int ta, .int lt])), (xt1, .inl (g.2.2.1, 120, .inl ch)), (xt2, .inl (g.2.1, 3, .inl nu)), (xd0, .inr (0, [.ref xd1, .ref xd2, .ref xd3, .ref xd4, .int tm, .int qt, .int cm, .int ds, .int dr])), (xd1, .inl (g.2.1, 256, .inl b)), (xd2, .inl (g.2.1, 3, .inl pF)), (xd3, .inl (g.2.1, 3, .inl pL)), (xd4, .inl (g.2.1, 6, .inl st)), (xc0, .inr (0, [.ref xc1, .ref xc2, .ref xc3, .ref xc4, .int tmC, .int qtC, .int cmC, .int dsC, .int drC])), (xc1, .inl (g.2.1, 256, .inl bC)), (xc2, .inl (g.2.1, 3, .inl pFC)), (xc3, .inl (g.2.1, 3, .inl pLC)), (xc4, .inl (g.2.1, 6, .inl stC)), (xp0, .inr (1, [.ref xp1, .int ol, .int pz])), (xp1, .inl (g.2.2.2.2.1, 14, .inr (.inr (.inr (.inr (fun i => some (ad i 0))))))), (xs0, .inl (g.2.2.2.2.1, 2, .inr (.inr (.inr (.inr (fun i => if i = 0 then some xe0 else some xf0)))))), (xu0, .inl (g.2.2.2.1, 2, .inl us)), (xe0, .inr (0, [.ref xe1, .ref xe2, .ref xe3, .ref xe4, .int tmS, .int qtS, .int cmS, .int dsS, .int drS])), (xe1, .inl (g.2.1, 256, .inl bS)), (xe2, .inl (g.2.1, 3, .inl pFS)), (xe3, .inl (g.2.1, 3, .inl pLS)), (xe4, .inl (g.2.1, 6, .inl stS)), (xf0, .inr (0, [.ref xf1, .ref xf2, .ref xf3, .ref xf4, .int tmT, .int qtT, .int cmT, .int dsT, .int drT])), (xf1, .inl (g.2.1, 256, .inl bT)), (xf2, .inl (g.2.1, 3, .inl pFT)), (xf3, .inl (g.2.1, 3, .inl pLT)), (xf4, .inl (g.2.1, 6, .inl stT))]) (tl := (zpool g ad dvs 14)) (tlq := (zpool g ad dvs1 14)) (zWv_q g _) ⟨hx, hb, hml, hown, hts⟩ (kX1_remember l g xp0 xp1 xd0 xd1 xd2 xd3 xd4 ad ol pz dvs b pF pL st tm qt cm ds dr e1) (cwV 1 hts gX3_flush_X1_remember rfl rfl rfl hdV_X1_remember ⟨Nat.le_of_ble_eq_true rfl, Nat.le_of_ble_eq_true rfl⟩) hK hP hD hS hA [14, 15, 4, 5, 6, 7, 8] (by decide) rfl rfl (zpool_fst g ad _ _ 14) 14 rfl rfl rfl hl.1 rfl (Nat.le_of_ble_eq_true rfl) ⟨Nat.zero_le _, Nat.zero_le _⟩ dX3_flush_8 (fun H locs hP hD hS => ?_)
  replace hP : zP g (zI g h0 xt0 xt1 xt2 xd0 xd1 xd2 xd3 xd4 xc0 xc1 xc2 xc3 xc4 xp0 xp1 xs0 xu0 xe0 xe1 xe2 xe3 xe4 xf0 xf1 xf2 xf3 xf4 ad ch nu le ta lt b pF pL st tm qt cm ds dr bC pFC pLC stC tmC qtC cmC dsC drC ol1 pz1 dvs1 us bS pFS pLS stS tmS qtS cmS dsS drS bT pFT pLT stT tmT qtT cmT dsT drT) H := hP
  replace hD : va_D A (zI g h0 xt0 xt1 xt2 xd0 xd1 xd2 xd3 xd4 xc0 xc1 xc2 xc3 xc4 xp0 xp1 xs0 xu0 xe0 xe1 xe2 xe3 xe4 xf0 xf1 xf2 xf3 xf4 ad ch nu le ta lt b pF pL st tm qt cm ds dr bC pFC pLC stC tmC qtC cmC dsC drC ol1 pz1 dvs1 us bS pFS pLS stS tmS qtS cmS dsS drS bT pFT pLT stT tmT qtT cmT dsT drT) := hD
  refine lv_aload_n hx hb dX3_flush_11 rfl (lv_at hl 0 rfl) ?_
  refine va_get (ci := 3) (v := .ref xd0) (C := RX3) (T := TX3) (N := 6) hx hb hts uX3_flush_X3 hown hK hP 0 rfl rfl 1 (by decide) (hts _ mX3_flush_19) (fun _ h9 => h9) rfl dX3_flush_12 ?_
  obtain ⟨r2, b2, cm2, ds2, dr2, e2, h⟩ := zb5 h
  refine zVw (As := []) (rest := []) (zWi_q g _ _) ⟨hx, hb, hml, hown, hts⟩ (kX0_sendAll l g xd0 xd1 xd2 xd3 xd4 b pF pL st tm qt cm ds dr e2) (cwV 0 hts gX3_flush_X0_sendAll rfl rfl rfl hdV_X0_sendAll ⟨Nat.le_of_ble_eq_true rfl, Nat.le_of_ble_eq_true rfl⟩) hK hP hD hS hA [4, 5, 6, 7, 8] (by decide) rfl rfl 4 rfl rfl rfl hl.1 rfl (Nat.le_of_ble_eq_true rfl) ⟨Nat.zero_le _, Nat.zero_le _⟩ dX3_flush_15 (fun H locs hP hD hS => ?_)
  replace hP : zP g (zI g h0 xt0 xt1 xt2 xd0 xd1 xd2 xd3 xd4 xc0 xc1 xc2 xc3 xc4 xp0 xp1 xs0 xu0 xe0 xe1 xe2 xe3 xe4 xf0 xf1 xf2 xf3 xf4 ad ch nu le ta lt b2 pF pL st tm qt cm2 ds2 dr2 bC pFC pLC stC tmC qtC cmC dsC drC ol1 pz1 dvs1 us bS pFS pLS stS tmS qtS cmS dsS drS bT pFT pLT stT tmT qtT cmT dsT drT) H := hP
  replace hD : va_D A (zI g h0 xt0 xt1 xt2 xd0 xd1 xd2 xd3 xd4 xc0 xc1 xc2 xc3 xc4 xp0 xp1 xs0 xu0 xe0 xe1 xe2 xe3 xe4 xf0 xf1 xf2 xf3 xf4 ad ch nu le ta lt b2 pF pL st tm qt cm2 ds2 dr2 bC pFC pLC stC tmC qtC cmC dsC drC ol1 pz1 dvs1 us bS pFS pLS stS tmS qtS cmS dsS drS bT pFT pLT stT tmT qtT cmT dsT drT) := hD
  cases h
  exact zw_i hx hb hr hlocks hP hS dX3_flush_18
def fX3_set (b : Nat → Int32) (pF : Nat → Int32) (pL : Nat → Int32) (st : Nat → Int32) (tm : Int32) (qt : Int32) (cm : Int32) (ds : Int32) (dr : Int32) (ol : Int32) (pz : Int32) (dvs : Nat → zDv) (a1 : Int32) (a2 : Int32) : Option (Int32 × Int32 × (Nat → Int32) × (Int32) × (Int32) × (Nat → zDv)) :=
  ob (fX3_isValue a1 a2) fun r1 =>
  if r1 = 0 then
    some (2, 0, st, ol, pz, dvs)
  else
    ob3 (fX1_remember ol pz dvs b pF pL st tm qt cm ds dr) fun ol3 pz3 dvs3 =>
    ob (fX0_settingAt st a1) fun r4 =>
    ob (fX0_changeSetting st a1 a2) fun st5 =>
    some (0, r4, st5, ol3, pz3, dvs3)
theorem mX3_set_29 : Cond.fieldLink RX3 29 "IdleDiscards" "past" "LIdleDiscards$Past;" ∈ wsX3_set := by decide +kernel
theorem uX3_set_X3 : ∀ w ∈ wsX30, w ∈ wsX3_set := by decide +kernel
theorem mX3_set_19 : Cond.fieldLink RX3 19 "IdleDiscards" "device" "LIdleDiscards$Device;" ∈ wsX3_set := by decide +kernel
theorem mX3_set_k41 : Cond.classLink RX3 41 (zE 2) ∈ wsX3_set := by decide +kernel
theorem mX3_set_j41 : Cond.initialized (zE 2) ∈ wsX3_set := by decide +kernel
theorem mX3_set_a41 : ∀ w ∈ (vx_atS RX3 45 (zE 2) ["java/lang/RuntimeException", "java/lang/Exception"]).filter goodWord, w ∈ wsX3_set := by decide +kernel
set_option maxRecDepth 100000 in
set_option maxHeartbeats 4000000 in
theorem kX3_set (l : Launch) (g : zG) (h0 xt0 xt1 xt2 xd0 xd1 xd2 xd3 xd4 xc0 xc1 xc2 xc3 xc4 xp0 xp1 xs0 xu0 xe0 xe1 xe2 xe3 xe4 xf0 xf1 xf2 xf3 xf4 : Nat) (ad : Nat → Nat → Nat) (ch : Nat → Int32) (nu : Nat → Int32) (le : Int32) (ta : Int32) (lt : Int32) (b : Nat → Int32) (pF : Nat → Int32) (pL : Nat → Int32) (st : Nat → Int32) (tm : Int32) (qt : Int32) (cm : Int32) (ds : Int32) (dr : Int32) (bC : Nat → Int32) (pFC : Nat → Int32) (pLC : Nat → Int32) (stC : Nat → Int32) (tmC : Int32) (qtC : Int32) (cmC : Int32) (dsC : Int32) (drC : Int32) (ol : Int32) (pz : Int32) (dvs : Nat → zDv) (us : Nat → Int32) (bS : Nat → Int32) (pFS : Nat → Int32) (pLS : Nat → Int32) (stS : Nat → Int32) (tmS : Int32) (qtS : Int32) (cmS : Int32) (dsS : Int32) (drS : Int32) (bT : Nat → Int32) (pFT : Nat → Int32) (pLT : Nat → Int32) (stT : Nat → Int32) (tmT : Int32) (qtT : Int32) (cmT : Int32) (dsT : Int32) (drT : Int32) (a1 : Int32) (a2 : Int32) (htr : l.stackTraces = false) {k : Int32} {r : Int32} {st' : Nat → Int32} {ol' : Int32} {pz' : Int32} {dvs' : Nat → zDv} (h : fX3_set b pF pL st tm qt cm ds dr ol pz dvs a1 a2 = some (k, r, st', ol', pz', dvs')) : Mx l g yX3_set wsX3_set { frames := 6, cells := 1, slots := 6, locals := 82 } [.ref h0, .int a1, .int a2] (zI g h0 xt0 xt1 xt2 xd0 xd1 xd2 xd3 xd4 xc0 xc1 xc2 xc3 xc4 xp0 xp1 xs0 xu0 xe0 xe1 xe2 xe3 xe4 xf0 xf1 xf2 xf3 xf4 ad ch nu le ta lt b pF pL st tm qt cm ds dr bC pFC pLC stC tmC qtC cmC dsC drC ol pz dvs us bS pFS pLS stS tmS qtS cmS dsS drS bT pFT pLT stT tmT qtT cmT dsT drT) (zXi g (zI g h0 xt0 xt1 xt2 xd0 xd1 xd2 xd3 xd4 xc0 xc1 xc2 xc3 xc4 xp0 xp1 xs0 xu0 xe0 xe1 xe2 xe3 xe4 xf0 xf1 xf2 xf3 xf4 ad ch nu le ta lt b pF pL st' tm qt cm ds dr bC pFC pLC stC tmC qtC cmC dsC drC ol' pz' dvs' us bS pFS pLS stS tmS qtS cmS dsS drS bT pFT pLT stT tmT qtT cmT dsT drT) k r) (zXx g (zI g h0 xt0 xt1 xt2 xd0 xd1 xd2 xd3 xd4 xc0 xc1 xc2 xc3 xc4 xp0 xp1 xs0 xu0 xe0 xe1 xe2 xe3 xe4 xf0 xf1 xf2 xf3 xf4 ad ch nu le ta lt b pF pL st' tm qt cm ds dr bC pFC pLC stC tmC qtC cmC dsC drC ol' pz' dvs' us bS pFS pLS stS tmS qtS cmS dsS drS bT pFT pLT stT tmT qtT cmT dsT drT) k) 1 6 := by
  refine zx_in (cc := cX3_set) (maxL := 4) (ret := (some .int)) (by decide) rfl (Nat.le_of_ble_eq_true rfl) ?_
  intro p e s m below meth c hx hb hr hml hts hown hlocks hK ht A hA hP hD hS hAm ls hl
  replace hl : lv_has ls 4 [(0, .ref h0), (1, .int a1), (2, .int a2)] := hl
  unfold fX3_set at h
  refine lv_iload_n hx hb dX3_set_0 rfl (lv_at hl 1 rfl) ?_
  refine lv_iload_n hx hb dX3_set_1 rfl (lv_at hl 2 rfl) ?_
  obtain ⟨r1, e1, h⟩ := zb h
  refine zSa (As := [.int a1, .int a2]) (rest := []) (zWi_q g _ _) ⟨hx, hb, hml, hown, hts⟩ (kX3_isValue l g a1 a2 e1) (va_cwS 2 hts gX3_set_X3_isValue rfl rfl rfl hdS_X3_isValue ⟨Nat.le_of_ble_eq_true rfl, Nat.le_of_ble_eq_true rfl⟩) hK hP hD hS hA hAm [] (by decide) rfl rfl rfl hl.1 rfl (Nat.le_of_ble_eq_true rfl) ⟨Nat.le_of_ble_eq_true rfl, Nat.le_of_ble_eq_true rfl⟩ dX3_set_2 (fun H locs hP hD hS => ?_)
  replace hP : zP g (zI g h0 xt0 xt1 xt2 xd0 xd1 xd2 xd3 xd4 xc0 xc1 xc2 xc3 xc4 xp0 xp1 xs0 xu0 xe0 xe1 xe2 xe3 xe4 xf0 xf1 xf2 xf3 xf4 ad ch nu le ta lt b pF pL st tm qt cm ds dr bC pFC pLC stC tmC qtC cmC dsC drC ol pz dvs us bS pFS pLS stS tmS qtS cmS dsS drS bT pFT pLT stT tmT qtT cmT dsT drT) H := hP
  replace hD : va_D A (zI g h0 xt0 xt1 xt2 xd0 xd1 xd2 xd3 xd4 xc0 xc1 xc2 xc3 xc4 xp0 xp1 xs0 xu0 xe0 xe1 xe2 xe3 xe4 xf0 xf1 xf2 xf3 xf4 ad ch nu le ta lt b pF pL st tm qt cm ds dr bC pFC pLC stC tmC qtC cmC dsC drC ol pz dvs us bS pFS pLS stS tmS qtS cmS dsS drS bT pFT pLT stT tmT qtT cmT dsT drT) := hD
  refine lv_if_ne (tgt := 18) hx hb dX3_set_5 (by decide) (fun c2 => ?_) (fun c2 => ?_)
  · replace h := zf c2 h
    refine lv_aload_n hx hb dX3_set_18 rfl (lv_at hl 0 rfl) ?_
    refine va_get (ci := 3) (v := .ref xp0) (C := RX3) (T := TX3) (N := 6) hx hb hts uX3_set_X3 hown hK hP 0 rfl rfl 3 (by decide) (hts _ mX3_set_29) (fun _ h9 => h9) rfl dX3_set_19 ?_
    refine lv_aload_n hx hb dX3_set_22 rfl (lv_at hl 0 rfl) ?_
    refine va_get (ci := 3) (v := .ref xd0) (C := RX3) (T := TX3) (N := 6) hx hb hts uX3_set_X3 hown hK hP 0 rfl rfl 1 (by decide) (hts _ mX3_set_19) (fun _ h9 => h9) rfl dX3_set_23 ?_
    obtain ⟨ol3, pz3, dvs3, e3, h⟩ := zb3 h
    refine zVwT (As := [.ref xd0]) (rest := []) (pre := [(h0, .inr (3, [.ref xt0, .ref xd0, .ref xc0, .ref xp0, .ref xs0, .ref xu0])), (xt0, .inr (2, [.ref xt1, .ref xt2, .int le, .int ta, .int lt])), (xt1, .inl (g.2.2.1, 120, .inl ch)), (xt2, .inl (g.2.1, 3, .inl nu)), (xd0, .inr (0, [.ref xd1, .ref xd2, .ref xd3, .ref xd4, .int tm, .int qt, .int cm, .int ds, .int dr])), (xd1, .inl (g.2.1, 256, .inl b)), (xd2, .inl (g.2.1, 3, .inl pF)), (xd3, .inl (g.2.1, 3, .inl pL)), (xd4, .inl (g.2.1, 6, .inl st)), (xc0, .inr (0, [.ref xc1, .ref xc2, .ref xc3, .ref xc4, .int tmC, .int qtC, .int cmC, .int dsC, .int drC])), (xc1, .inl (g.2.1, 256, .inl bC)), (xc2, .inl (g.2.1, 3, .inl pFC)), (xc3, .inl (g.2.1, 3, .inl pLC)), (xc4, .inl (g.2.1, 6, .inl stC)), (xp0, .inr (1, [.ref xp1, .int ol, .int pz])), (xp1, .inl (g.2.2.2.2.1, 14, .inr (.inr (.inr (.inr (fun i => some (ad i 0))))))), (xs0, .inl (g.2.2.2.2.1, 2, .inr (.inr (.inr (.inr (fun i => if i = 0 then some xe0 else some xf0)))))), (xu0, .inl (g.2.2.2.1, 2, .inl us)), (xe0, .inr (0, [.ref xe1, .ref xe2, .ref xe3, .ref xe4, .int tmS, .int qtS, .int cmS, .int dsS, .int drS])), (xe1, .inl (g.2.1, 256, .inl bS)), (xe2, .inl (g.2.1, 3, .inl pFS)), (xe3, .inl (g.2.1, 3, .inl pLS)), (xe4, .inl (g.2.1, 6, .inl stS)), (xf0, .inr (0, [.ref xf1, .ref xf2, .ref xf3, .ref xf4, .int tmT, .int qtT, .int cmT, .int dsT, .int drT])), (xf1, .inl (g.2.1, 256, .inl bT)), (xf2, .inl (g.2.1, 3, .inl pFT)), (xf3, .inl (g.2.1, 3, .inl pLT)), (xf4, .inl (g.2.1, 6, .inl stT))]) (tl := (zpool g ad dvs 14)) (tlq := (zpool g ad dvs3 14)) (zWv_q g _) ⟨hx, hb, hml, hown, hts⟩ (kX1_remember l g xp0 xp1 xd0 xd1 xd2 xd3 xd4 ad ol pz dvs b pF pL st tm qt cm ds dr e3) (cwV 1 hts gX3_set_X1_remember rfl rfl rfl hdV_X1_remember ⟨Nat.le_of_ble_eq_true rfl, Nat.le_of_ble_eq_true rfl⟩) hK hP hD hS hA [14, 15, 4, 5, 6, 7, 8] (by decide) rfl rfl (zpool_fst g ad _ _ 14) 14 rfl rfl rfl hl.1 rfl (Nat.le_of_ble_eq_true rfl) ⟨Nat.le_of_ble_eq_true rfl, Nat.le_of_ble_eq_true rfl⟩ dX3_set_26 (fun H locs hP hD hS => ?_)
    replace hP : zP g (zI g h0 xt0 xt1 xt2 xd0 xd1 xd2 xd3 xd4 xc0 xc1 xc2 xc3 xc4 xp0 xp1 xs0 xu0 xe0 xe1 xe2 xe3 xe4 xf0 xf1 xf2 xf3 xf4 ad ch nu le ta lt b pF pL st tm qt cm ds dr bC pFC pLC stC tmC qtC cmC dsC drC ol3 pz3 dvs3 us bS pFS pLS stS tmS qtS cmS dsS drS bT pFT pLT stT tmT qtT cmT dsT drT) H := hP
    replace hD : va_D A (zI g h0 xt0 xt1 xt2 xd0 xd1 xd2 xd3 xd4 xc0 xc1 xc2 xc3 xc4 xp0 xp1 xs0 xu0 xe0 xe1 xe2 xe3 xe4 xf0 xf1 xf2 xf3 xf4 ad ch nu le ta lt b pF pL st tm qt cm ds dr bC pFC pLC stC tmC qtC cmC dsC drC ol3 pz3 dvs3 us bS pFS pLS stS tmS qtS cmS dsS drS bT pFT pLT stT tmT qtT cmT dsT drT) := hD
    refine lv_aload_n hx hb dX3_set_29 rfl (lv_at hl 0 rfl) ?_
    refine va_get (ci := 3) (v := .ref xd0) (C := RX3) (T := TX3) (N := 6) hx hb hts uX3_set_X3 hown hK hP 0 rfl rfl 1 (by decide) (hts _ mX3_set_19) (fun _ h9 => h9) rfl dX3_set_30 ?_
    refine lv_iload_n hx hb dX3_set_33 rfl (lv_at hl 1 rfl) ?_
    obtain ⟨r4, e4, h⟩ := zb h
    refine zV (As := [.int a1]) (rest := []) (zQi_q _) ⟨hx, hb, hml, hown, hts⟩ (kX0_settingAt l g xd0 xd1 xd2 xd3 xd4 b pF pL st tm qt cm ds dr a1 e4) (cwV 1 hts gX3_set_X0_settingAt rfl rfl rfl hdV_X0_settingAt ⟨Nat.le_of_ble_eq_true rfl, Nat.le_of_ble_eq_true rfl⟩) hK hP [4, 5, 6, 7, 8] rfl 4 rfl rfl rfl hl.1 rfl (Nat.le_of_ble_eq_true rfl) ⟨Nat.le_of_ble_eq_true rfl, Nat.le_of_ble_eq_true rfl⟩ dX3_set_34 ?_
    refine lv_istore_n (lv' := [(3, .int r4), (0, .ref h0), (1, .int a1), (2, .int a2)]) hx hb dX3_set_37 rfl hl (by decide) rfl (fun ls hl => ?_)
    refine lv_aload_n hx hb dX3_set_38 rfl (lv_at hl 1 rfl) ?_
    refine va_get (ci := 3) (v := .ref xd0) (C := RX3) (T := TX3) (N := 6) hx hb hts uX3_set_X3 hown hK hP 0 rfl rfl 1 (by decide) (hts _ mX3_set_19) (fun _ h9 => h9) rfl dX3_set_39 ?_
    refine lv_iload_n hx hb dX3_set_42 rfl (lv_at hl 2 rfl) ?_
    refine lv_iload_n hx hb dX3_set_43 rfl (lv_at hl 3 rfl) ?_
    obtain ⟨st5, e5, h⟩ := zb h
    refine zVw (As := [.int a1, .int a2]) (rest := []) (zWv_q g _) ⟨hx, hb, hml, hown, hts⟩ (kX0_changeSetting l g xd0 xd1 xd2 xd3 xd4 b pF pL st tm qt cm ds dr a1 a2 e5) (cwV 2 hts gX3_set_X0_changeSetting rfl rfl rfl hdV_X0_changeSetting ⟨Nat.le_of_ble_eq_true rfl, Nat.le_of_ble_eq_true rfl⟩) hK hP hD hS hA [4, 5, 6, 7, 8] (by decide) rfl rfl 4 rfl rfl rfl hl.1 rfl (Nat.le_of_ble_eq_true rfl) ⟨Nat.le_of_ble_eq_true rfl, Nat.le_of_ble_eq_true rfl⟩ dX3_set_44 (fun H locs hP hD hS => ?_)
    replace hP : zP g (zI g h0 xt0 xt1 xt2 xd0 xd1 xd2 xd3 xd4 xc0 xc1 xc2 xc3 xc4 xp0 xp1 xs0 xu0 xe0 xe1 xe2 xe3 xe4 xf0 xf1 xf2 xf3 xf4 ad ch nu le ta lt b pF pL st5 tm qt cm ds dr bC pFC pLC stC tmC qtC cmC dsC drC ol3 pz3 dvs3 us bS pFS pLS stS tmS qtS cmS dsS drS bT pFT pLT stT tmT qtT cmT dsT drT) H := hP
    replace hD : va_D A (zI g h0 xt0 xt1 xt2 xd0 xd1 xd2 xd3 xd4 xc0 xc1 xc2 xc3 xc4 xp0 xp1 xs0 xu0 xe0 xe1 xe2 xe3 xe4 xf0 xf1 xf2 xf3 xf4 ad ch nu le ta lt b pF pL st5 tm qt cm ds dr bC pFC pLC stC tmC qtC cmC dsC drC ol3 pz3 dvs3 us bS pFS pLS stS tmS qtS cmS dsS drS bT pFT pLT stT tmT qtT cmT dsT drT) := hD
    refine lv_iload_n hx hb dX3_set_47 rfl (lv_at hl 0 rfl) ?_
    cases h
    exact zx_i hx hb hr hlocks hP hS (by decide) (by decide) dX3_set_48
  · replace h := zt c2 h
    cases h
    exact zx_throw (text := "no such setting or value") hx hb htr hown hts (by decide) zEx_2 mX3_set_k41 mX3_set_j41 mX3_set_a41 zEb_2 zEg_2_41 zEf_2 zEn (by decide +kernel) hAm hP hS (hl.1.trans hml.symm) dX3_set_8 dX3_set_11 dX3_set_12 dX3_set_14 dX3_set_17 ht (Nat.le_of_ble_eq_true rfl) (Nat.le_of_ble_eq_true rfl) (Nat.le_of_ble_eq_true rfl) (Nat.le_of_ble_eq_true rfl) hlocks (by decide) (by decide)
theorem hdV_X1_size : yX1_size.cls = RX1 ∧ yX1_size.cls ≠ "java/lang/invoke/MethodHandle" ∧ yX1_size.cls ≠ "java/lang/invoke/VarHandle" ∧ (parseMethodDescriptor yX1_size.desc).map (fun d => d.parameters.length) = some 0 := by decide +kernel
theorem hdV_X1_takeBack : yX1_takeBack.cls = RX1 ∧ yX1_takeBack.cls ≠ "java/lang/invoke/MethodHandle" ∧ yX1_takeBack.cls ≠ "java/lang/invoke/VarHandle" ∧ (parseMethodDescriptor yX1_takeBack.desc).map (fun d => d.parameters.length) = some 1 := by decide +kernel
def fX3_undo (b : Nat → Int32) (pF : Nat → Int32) (pL : Nat → Int32) (st : Nat → Int32) (tm : Int32) (qt : Int32) (cm : Int32) (ds : Int32) (dr : Int32) (ol : Int32) (pz : Int32) (dvs : Nat → zDv) : Option (Int32 × Int32 × (Nat → Int32) × (Nat → Int32) × (Nat → Int32) × (Nat → Int32) × (Int32) × (Int32) × (Int32) × (Int32) × (Int32) × (Int32)) :=
  ob (fX1_size pz) fun r1 =>
  if r1 = 0 then
    some (3, 0, b, pF, pL, st, tm, qt, cm, ds, dr, pz)
  else
    ob10 (fX1_takeBack ol pz dvs b pF pL st) fun pz3 b3 pF3 pL3 st3 tm3 qt3 cm3 ds3 dr3 =>
    ob (fX1_size pz3) fun r4 =>
    some (0, r4, b3, pF3, pL3, st3, tm3, qt3, cm3, ds3, dr3, pz3)
theorem mX3_undo_29 : Cond.fieldLink RX3 29 "IdleDiscards" "past" "LIdleDiscards$Past;" ∈ wsX3_undo := by decide +kernel
theorem uX3_undo_X3 : ∀ w ∈ wsX30, w ∈ wsX3_undo := by decide +kernel
theorem mX3_undo_19 : Cond.fieldLink RX3 19 "IdleDiscards" "device" "LIdleDiscards$Device;" ∈ wsX3_undo := by decide +kernel
theorem mX3_undo_k52 : Cond.classLink RX3 52 (zE 3) ∈ wsX3_undo := by decide +kernel
theorem mX3_undo_j52 : Cond.initialized (zE 3) ∈ wsX3_undo := by decide +kernel
theorem mX3_undo_a52 : ∀ w ∈ (vx_atS RX3 56 (zE 3) ["java/lang/RuntimeException", "java/lang/Exception"]).filter goodWord, w ∈ wsX3_undo := by decide +kernel
set_option maxRecDepth 100000 in
set_option maxHeartbeats 4000000 in
theorem kX3_undo (l : Launch) (g : zG) (h0 xt0 xt1 xt2 xd0 xd1 xd2 xd3 xd4 xc0 xc1 xc2 xc3 xc4 xp0 xp1 xs0 xu0 xe0 xe1 xe2 xe3 xe4 xf0 xf1 xf2 xf3 xf4 : Nat) (ad : Nat → Nat → Nat) (ch : Nat → Int32) (nu : Nat → Int32) (le : Int32) (ta : Int32) (lt : Int32) (b : Nat → Int32) (pF : Nat → Int32) (pL : Nat → Int32) (st : Nat → Int32) (tm : Int32) (qt : Int32) (cm : Int32) (ds : Int32) (dr : Int32) (bC : Nat → Int32) (pFC : Nat → Int32) (pLC : Nat → Int32) (stC : Nat → Int32) (tmC : Int32) (qtC : Int32) (cmC : Int32) (dsC : Int32) (drC : Int32) (ol : Int32) (pz : Int32) (dvs : Nat → zDv) (us : Nat → Int32) (bS : Nat → Int32) (pFS : Nat → Int32) (pLS : Nat → Int32) (stS : Nat → Int32) (tmS : Int32) (qtS : Int32) (cmS : Int32) (dsS : Int32) (drS : Int32) (bT : Nat → Int32) (pFT : Nat → Int32) (pLT : Nat → Int32) (stT : Nat → Int32) (tmT : Int32) (qtT : Int32) (cmT : Int32) (dsT : Int32) (drT : Int32) (htr : l.stackTraces = false) {k : Int32} {r : Int32} {b' : Nat → Int32} {pF' : Nat → Int32} {pL' : Nat → Int32} {st' : Nat → Int32} {tm' : Int32} {qt' : Int32} {cm' : Int32} {ds' : Int32} {dr' : Int32} {pz' : Int32} (h : fX3_undo b pF pL st tm qt cm ds dr ol pz dvs = some (k, r, b', pF', pL', st', tm', qt', cm', ds', dr', pz')) : Mx l g yX3_undo wsX3_undo { frames := 6, cells := 1, slots := 6, locals := 82 } [.ref h0] (zI g h0 xt0 xt1 xt2 xd0 xd1 xd2 xd3 xd4 xc0 xc1 xc2 xc3 xc4 xp0 xp1 xs0 xu0 xe0 xe1 xe2 xe3 xe4 xf0 xf1 xf2 xf3 xf4 ad ch nu le ta lt b pF pL st tm qt cm ds dr bC pFC pLC stC tmC qtC cmC dsC drC ol pz dvs us bS pFS pLS stS tmS qtS cmS dsS drS bT pFT pLT stT tmT qtT cmT dsT drT) (zXi g (zI g h0 xt0 xt1 xt2 xd0 xd1 xd2 xd3 xd4 xc0 xc1 xc2 xc3 xc4 xp0 xp1 xs0 xu0 xe0 xe1 xe2 xe3 xe4 xf0 xf1 xf2 xf3 xf4 ad ch nu le ta lt b' pF' pL' st' tm' qt' cm' ds' dr' bC pFC pLC stC tmC qtC cmC dsC drC ol pz' dvs us bS pFS pLS stS tmS qtS cmS dsS drS bT pFT pLT stT tmT qtT cmT dsT drT) k r) (zXx g (zI g h0 xt0 xt1 xt2 xd0 xd1 xd2 xd3 xd4 xc0 xc1 xc2 xc3 xc4 xp0 xp1 xs0 xu0 xe0 xe1 xe2 xe3 xe4 xf0 xf1 xf2 xf3 xf4 ad ch nu le ta lt b' pF' pL' st' tm' qt' cm' ds' dr' bC pFC pLC stC tmC qtC cmC dsC drC ol pz' dvs us bS pFS pLS stS tmS qtS cmS dsS drS bT pFT pLT stT tmT qtT cmT dsT drT) k) 1 6 := by
  refine zx_in (cc := cX3_undo) (maxL := 1) (ret := (some .int)) (by decide) rfl (Nat.le_of_ble_eq_true rfl) ?_
  intro p e s m below meth c hx hb hr hml hts hown hlocks hK ht A hA hP hD hS hAm ls hl
  replace hl : lv_has ls 1 [(0, .ref h0)] := hl
  unfold fX3_undo at h
  refine lv_aload_n hx hb dX3_undo_0 rfl (lv_at hl 0 rfl) ?_
  refine va_get (ci := 3) (v := .ref xp0) (C := RX3) (T := TX3) (N := 6) hx hb hts uX3_undo_X3 hown hK hP 0 rfl rfl 3 (by decide) (hts _ mX3_undo_29) (fun _ h9 => h9) rfl dX3_undo_1 ?_
  obtain ⟨r1, e1, h⟩ := zb h
  refine zV (As := []) (rest := []) (zQi_q _) ⟨hx, hb, hml, hown, hts⟩ (kX1_size l g xp0 (.ref xp1) ol pz e1) (cwV 0 hts gX3_undo_X1_size rfl rfl rfl hdV_X1_size ⟨Nat.le_of_ble_eq_true rfl, Nat.le_of_ble_eq_true rfl⟩) hK hP [14] rfl 14 rfl rfl rfl hl.1 rfl (Nat.le_of_ble_eq_true rfl) ⟨Nat.le_of_ble_eq_true rfl, Nat.le_of_ble_eq_true rfl⟩ dX3_undo_4 ?_
  refine lv_if_ne (tgt := 20) hx hb dX3_undo_7 (by decide) (fun c2 => ?_) (fun c2 => ?_)
  · replace h := zf c2 h
    refine lv_aload_n hx hb dX3_undo_20 rfl (lv_at hl 0 rfl) ?_
    refine va_get (ci := 3) (v := .ref xp0) (C := RX3) (T := TX3) (N := 6) hx hb hts uX3_undo_X3 hown hK hP 0 rfl rfl 3 (by decide) (hts _ mX3_undo_29) (fun _ h9 => h9) rfl dX3_undo_21 ?_
    refine lv_aload_n hx hb dX3_undo_24 rfl (lv_at hl 0 rfl) ?_
    refine va_get (ci := 3) (v := .ref xd0) (C := RX3) (T := TX3) (N := 6) hx hb hts uX3_undo_X3 hown hK hP 0 rfl rfl 1 (by decide) (hts _ mX3_undo_19) (fun _ h9 => h9) rfl dX3_undo_25 ?_
    obtain ⟨pz3, b3, pF3, pL3, st3, tm3, qt3, cm3, ds3, dr3, e3, h⟩ := zb10 h
    refine zVwT (As := [.ref xd0]) (rest := []) (pre := [(h0, .inr (3, [.ref xt0, .ref xd0, .ref xc0, .ref xp0, .ref xs0, .ref xu0])), (xt0, .inr (2, [.ref xt1, .ref xt2, .int le, .int ta, .int lt])), (xt1, .inl (g.2.2.1, 120, .inl ch)), (xt2, .inl (g.2.1, 3, .inl nu)), (xd0, .inr (0, [.ref xd1, .ref xd2, .ref xd3, .ref xd4, .int tm, .int qt, .int cm, .int ds, .int dr])), (xd1, .inl (g.2.1, 256, .inl b)), (xd2, .inl (g.2.1, 3, .inl pF)), (xd3, .inl (g.2.1, 3, .inl pL)), (xd4, .inl (g.2.1, 6, .inl st)), (xc0, .inr (0, [.ref xc1, .ref xc2, .ref xc3, .ref xc4, .int tmC, .int qtC, .int cmC, .int dsC, .int drC])), (xc1, .inl (g.2.1, 256, .inl bC)), (xc2, .inl (g.2.1, 3, .inl pFC)), (xc3, .inl (g.2.1, 3, .inl pLC)), (xc4, .inl (g.2.1, 6, .inl stC)), (xp0, .inr (1, [.ref xp1, .int ol, .int pz])), (xp1, .inl (g.2.2.2.2.1, 14, .inr (.inr (.inr (.inr (fun i => some (ad i 0))))))), (xs0, .inl (g.2.2.2.2.1, 2, .inr (.inr (.inr (.inr (fun i => if i = 0 then some xe0 else some xf0)))))), (xu0, .inl (g.2.2.2.1, 2, .inl us)), (xe0, .inr (0, [.ref xe1, .ref xe2, .ref xe3, .ref xe4, .int tmS, .int qtS, .int cmS, .int dsS, .int drS])), (xe1, .inl (g.2.1, 256, .inl bS)), (xe2, .inl (g.2.1, 3, .inl pFS)), (xe3, .inl (g.2.1, 3, .inl pLS)), (xe4, .inl (g.2.1, 6, .inl stS)), (xf0, .inr (0, [.ref xf1, .ref xf2, .ref xf3, .ref xf4, .int tmT, .int qtT, .int cmT, .int dsT, .int drT])), (xf1, .inl (g.2.1, 256, .inl bT)), (xf2, .inl (g.2.1, 3, .inl pFT)), (xf3, .inl (g.2.1, 3, .inl pLT)), (xf4, .inl (g.2.1, 6, .inl stT))]) (tl := (zpool g ad dvs 14)) (tlq := (zpool g ad dvs 14)) (zWv_q g _) ⟨hx, hb, hml, hown, hts⟩ (kX1_takeBack l g xp0 xp1 xd0 xd1 xd2 xd3 xd4 ad ol pz dvs b pF pL st tm qt cm ds dr e3) (cwV 1 hts gX3_undo_X1_takeBack rfl rfl rfl hdV_X1_takeBack ⟨Nat.le_of_ble_eq_true rfl, Nat.le_of_ble_eq_true rfl⟩) hK hP hD hS hA [14, 15, 4, 5, 6, 7, 8] (by decide) rfl rfl (zpool_fst g ad _ _ 14) 14 rfl rfl rfl hl.1 rfl (Nat.le_of_ble_eq_true rfl) ⟨Nat.le_of_ble_eq_true rfl, Nat.le_of_ble_eq_true rfl⟩ dX3_undo_28 (fun H locs hP hD hS => ?_)
    replace hP : zP g (zI g h0 xt0 xt1 xt2 xd0 xd1 xd2 xd3 xd4 xc0 xc1 xc2 xc3 xc4 xp0 xp1 xs0 xu0 xe0 xe1 xe2 xe3 xe4 xf0 xf1 xf2 xf3 xf4 ad ch nu le ta lt b3 pF3 pL3 st3 tm3 qt3 cm3 ds3 dr3 bC pFC pLC stC tmC qtC cmC dsC drC ol pz3 dvs us bS pFS pLS stS tmS qtS cmS dsS drS bT pFT pLT stT tmT qtT cmT dsT drT) H := hP
    replace hD : va_D A (zI g h0 xt0 xt1 xt2 xd0 xd1 xd2 xd3 xd4 xc0 xc1 xc2 xc3 xc4 xp0 xp1 xs0 xu0 xe0 xe1 xe2 xe3 xe4 xf0 xf1 xf2 xf3 xf4 ad ch nu le ta lt b3 pF3 pL3 st3 tm3 qt3 cm3 ds3 dr3 bC pFC pLC stC tmC qtC cmC dsC drC ol pz3 dvs us bS pFS pLS stS tmS qtS cmS dsS drS bT pFT pLT stT tmT qtT cmT dsT drT) := hD
    refine lv_aload_n hx hb dX3_undo_31 rfl (lv_at hl 0 rfl) ?_
    refine va_get (ci := 3) (v := .ref xp0) (C := RX3) (T := TX3) (N := 6) hx hb hts uX3_undo_X3 hown hK hP 0 rfl rfl 3 (by decide) (hts _ mX3_undo_29) (fun _ h9 => h9) rfl dX3_undo_32 ?_
    obtain ⟨r4, e4, h⟩ := zb h
    refine zV (As := []) (rest := []) (zQi_q _) ⟨hx, hb, hml, hown, hts⟩ (kX1_size l g xp0 (.ref xp1) ol pz3 e4) (cwV 0 hts gX3_undo_X1_size rfl rfl rfl hdV_X1_size ⟨Nat.le_of_ble_eq_true rfl, Nat.le_of_ble_eq_true rfl⟩) hK hP [14] rfl 14 rfl rfl rfl hl.1 rfl (Nat.le_of_ble_eq_true rfl) ⟨Nat.le_of_ble_eq_true rfl, Nat.le_of_ble_eq_true rfl⟩ dX3_undo_35 ?_
    cases h
    exact zx_i hx hb hr hlocks hP hS (by decide) (by decide) dX3_undo_38
  · replace h := zt c2 h
    cases h
    exact zx_throw (text := "no state is remembered") hx hb htr hown hts (by decide) zEx_3 mX3_undo_k52 mX3_undo_j52 mX3_undo_a52 zEb_3 zEg_3_52 zEf_3 zEn (by decide +kernel) hAm hP hS (hl.1.trans hml.symm) dX3_undo_10 dX3_undo_13 dX3_undo_14 dX3_undo_16 dX3_undo_19 ht (Nat.le_of_ble_eq_true rfl) (Nat.le_of_ble_eq_true rfl) (Nat.le_of_ble_eq_true rfl) (Nat.le_of_ble_eq_true rfl) hlocks (by decide) (by decide)
theorem hdV_X0_granulesOfTick : yX0_granulesOfTick.cls = RX0 ∧ yX0_granulesOfTick.cls ≠ "java/lang/invoke/MethodHandle" ∧ yX0_granulesOfTick.cls ≠ "java/lang/invoke/VarHandle" ∧ (parseMethodDescriptor yX0_granulesOfTick.desc).map (fun d => d.parameters.length) = some 1 := by decide +kernel
def fX3_ofCommand (bC : Nat → Int32) (pFC : Nat → Int32) (pLC : Nat → Int32) (stC : Nat → Int32) (tmC : Int32) (qtC : Int32) (a1 : Int32) (a2 : Int32) : Option (Int32) :=
  if a2 = 0 then
    ob (fX0_granuleSize stC) fun r2 =>
    some (a1 * r2)
  else if a2 = 1 then
    ob (fX0_granulesOfTick bC pFC pLC stC qtC a1) fun r4 =>
    ob (fX0_granuleSize stC) fun r5 =>
    some (r4 * r5)
  else ob (fX0_time tmC) fun r6 =>
  some r6
theorem mX3_ofCommand_23 : Cond.fieldLink RX3 23 "IdleDiscards" "copy" "LIdleDiscards$Device;" ∈ wsX3_ofCommand := by decide +kernel
theorem uX3_ofCommand_X3 : ∀ w ∈ wsX30, w ∈ wsX3_ofCommand := by decide +kernel
set_option maxRecDepth 100000 in
set_option maxHeartbeats 4000000 in
theorem kX3_ofCommand (l : Launch) (g : zG) (h0 xt0 xt1 xt2 xd0 xd1 xd2 xd3 xd4 xc0 xc1 xc2 xc3 xc4 xp0 xp1 xs0 xu0 xe0 xe1 xe2 xe3 xe4 xf0 xf1 xf2 xf3 xf4 : Nat) (ad : Nat → Nat → Nat) (ch : Nat → Int32) (nu : Nat → Int32) (le : Int32) (ta : Int32) (lt : Int32) (b : Nat → Int32) (pF : Nat → Int32) (pL : Nat → Int32) (st : Nat → Int32) (tm : Int32) (qt : Int32) (cm : Int32) (ds : Int32) (dr : Int32) (bC : Nat → Int32) (pFC : Nat → Int32) (pLC : Nat → Int32) (stC : Nat → Int32) (tmC : Int32) (qtC : Int32) (cmC : Int32) (dsC : Int32) (drC : Int32) (ol : Int32) (pz : Int32) (dvs : Nat → zDv) (us : Nat → Int32) (bS : Nat → Int32) (pFS : Nat → Int32) (pLS : Nat → Int32) (stS : Nat → Int32) (tmS : Int32) (qtS : Int32) (cmS : Int32) (dsS : Int32) (drS : Int32) (bT : Nat → Int32) (pFT : Nat → Int32) (pLT : Nat → Int32) (stT : Nat → Int32) (tmT : Int32) (qtT : Int32) (cmT : Int32) (dsT : Int32) (drT : Int32) (a1 : Int32) (a2 : Int32) {r : Int32} (h : fX3_ofCommand bC pFC pLC stC tmC qtC a1 a2 = some r) : Mr l g yX3_ofCommand wsX3_ofCommand { frames := 4, cells := 0, slots := 0, locals := 91 } [.ref h0, .int a1, .int a2] (zI g h0 xt0 xt1 xt2 xd0 xd1 xd2 xd3 xd4 xc0 xc1 xc2 xc3 xc4 xp0 xp1 xs0 xu0 xe0 xe1 xe2 xe3 xe4 xf0 xf1 xf2 xf3 xf4 ad ch nu le ta lt b pF pL st tm qt cm ds dr bC pFC pLC stC tmC qtC cmC dsC drC ol pz dvs us bS pFS pLS stS tmS qtS cmS dsS drS bT pFT pLT stT tmT qtT cmT dsT drT) (zQi r) := by
  refine zr_in (cc := cX3_ofCommand) (maxL := 3) (ret := (some .int)) (by decide) rfl (Nat.le_of_ble_eq_true rfl) ?_
  intro p e s m below meth c hx hb hr hml hts hown hlocks hP hK ls hl
  replace hl : lv_has ls 3 [(0, .ref h0), (1, .int a1), (2, .int a2)] := hl
  unfold fX3_ofCommand at h
  refine lv_iload_n hx hb dX3_ofCommand_0 rfl (lv_at hl 2 rfl) ?_
  by_cases c1 : a2 = 0
  · replace h := zt c1 h
    refine lv_lookup (tgt := 28) (off := 27) hx hb dX3_ofCommand_1 (by decide) (by rw [c1]; decide) (by decide) ?_
    refine lv_iload_n hx hb dX3_ofCommand_28 rfl (lv_at hl 1 rfl) ?_
    refine lv_aload_n hx hb dX3_ofCommand_29 rfl (lv_at hl 0 rfl) ?_
    refine va_get (ci := 3) (v := .ref xc0) (C := RX3) (T := TX3) (N := 6) hx hb hts uX3_ofCommand_X3 hown hK hP 0 rfl rfl 2 (by decide) (hts _ mX3_ofCommand_23) (fun _ h9 => h9) rfl dX3_ofCommand_30 ?_
    obtain ⟨r2, e2, h⟩ := zb h
    refine zV (As := []) (rest := [.int a1]) (zQi_q _) ⟨hx, hb, hml, hown, hts⟩ (kX0_granuleSize l g xc0 xc1 xc2 xc3 xc4 bC pFC pLC stC tmC qtC cmC dsC drC e2) (cwV 0 hts gX3_ofCommand_X0_granuleSize rfl rfl rfl hdV_X0_granuleSize ⟨Nat.le_of_ble_eq_true rfl, Nat.le_of_ble_eq_true rfl⟩) hK hP [9, 10, 11, 12, 13] rfl 9 rfl rfl rfl hl.1 rfl (Nat.le_of_ble_eq_true rfl) ⟨Nat.zero_le _, Nat.zero_le _⟩ dX3_ofCommand_33 ?_
    refine lv_imul hx hb dX3_ofCommand_36 ?_
    cases h
    exact zr_i hx hb hr hlocks dX3_ofCommand_37
  replace h := zf c1 h
  by_cases c3 : a2 = 1
  · replace h := zt c3 h
    refine lv_lookup (tgt := 38) (off := 37) hx hb dX3_ofCommand_1 (by decide) (by rw [c3]; decide) (by decide) ?_
    refine lv_aload_n hx hb dX3_ofCommand_38 rfl (lv_at hl 0 rfl) ?_
    refine va_get (ci := 3) (v := .ref xc0) (C := RX3) (T := TX3) (N := 6) hx hb hts uX3_ofCommand_X3 hown hK hP 0 rfl rfl 2 (by decide) (hts _ mX3_ofCommand_23) (fun _ h9 => h9) rfl dX3_ofCommand_39 ?_
    refine lv_iload_n hx hb dX3_ofCommand_42 rfl (lv_at hl 1 rfl) ?_
    obtain ⟨r4, e4, h⟩ := zb h
    refine zV (As := [.int a1]) (rest := []) (zQi_q _) ⟨hx, hb, hml, hown, hts⟩ (kX0_granulesOfTick l g xc0 xc1 xc2 xc3 xc4 bC pFC pLC stC tmC qtC cmC dsC drC a1 e4) (cwV 1 hts gX3_ofCommand_X0_granulesOfTick rfl rfl rfl hdV_X0_granulesOfTick ⟨Nat.le_of_ble_eq_true rfl, Nat.le_of_ble_eq_true rfl⟩) hK hP [9, 10, 11, 12, 13] rfl 9 rfl rfl rfl hl.1 rfl (Nat.le_of_ble_eq_true rfl) ⟨Nat.zero_le _, Nat.zero_le _⟩ dX3_ofCommand_43 ?_
    refine lv_aload_n hx hb dX3_ofCommand_46 rfl (lv_at hl 0 rfl) ?_
    refine va_get (ci := 3) (v := .ref xc0) (C := RX3) (T := TX3) (N := 6) hx hb hts uX3_ofCommand_X3 hown hK hP 0 rfl rfl 2 (by decide) (hts _ mX3_ofCommand_23) (fun _ h9 => h9) rfl dX3_ofCommand_47 ?_
    obtain ⟨r5, e5, h⟩ := zb h
    refine zV (As := []) (rest := [.int r4]) (zQi_q _) ⟨hx, hb, hml, hown, hts⟩ (kX0_granuleSize l g xc0 xc1 xc2 xc3 xc4 bC pFC pLC stC tmC qtC cmC dsC drC e5) (cwV 0 hts gX3_ofCommand_X0_granuleSize rfl rfl rfl hdV_X0_granuleSize ⟨Nat.le_of_ble_eq_true rfl, Nat.le_of_ble_eq_true rfl⟩) hK hP [9, 10, 11, 12, 13] rfl 9 rfl rfl rfl hl.1 rfl (Nat.le_of_ble_eq_true rfl) ⟨Nat.zero_le _, Nat.zero_le _⟩ dX3_ofCommand_50 ?_
    refine lv_imul hx hb dX3_ofCommand_53 ?_
    cases h
    exact zr_i hx hb hr hlocks dX3_ofCommand_54
  replace h := zf c3 h
  refine lv_lookup (tgt := 55) (off := 54) hx hb dX3_ofCommand_1 (by decide) (by show Op.lookupswitch.offset [(0, 27), (1, 37)] 54 _ = _; rw [lv_osw c1 (a := 0) (by decide), lv_osw c3 (a := 1) (by decide)]; rfl) (by decide) ?_
  refine lv_aload_n hx hb dX3_ofCommand_55 rfl (lv_at hl 0 rfl) ?_
  refine va_get (ci := 3) (v := .ref xc0) (C := RX3) (T := TX3) (N := 6) hx hb hts uX3_ofCommand_X3 hown hK hP 0 rfl rfl 2 (by decide) (hts _ mX3_ofCommand_23) (fun _ h9 => h9) rfl dX3_ofCommand_56 ?_
  obtain ⟨r6, e6, h⟩ := zb h
  refine zV (As := []) (rest := []) (zQi_q _) ⟨hx, hb, hml, hown, hts⟩ (kX0_time l g xc0 xc1 xc2 xc3 xc4 bC pFC pLC stC tmC qtC cmC dsC drC e6) (cwV 0 hts gX3_ofCommand_X0_time rfl rfl rfl hdV_X0_time ⟨Nat.le_of_ble_eq_true rfl, Nat.le_of_ble_eq_true rfl⟩) hK hP [9, 10, 11, 12, 13] rfl 9 rfl rfl rfl hl.1 rfl (Nat.le_of_ble_eq_true rfl) ⟨Nat.zero_le _, Nat.zero_le _⟩ dX3_ofCommand_59 ?_
  cases h
  exact zr_i hx hb hr hlocks dX3_ofCommand_62
theorem hdV_X0_pieceOfTick : yX0_pieceOfTick.cls = RX0 ∧ yX0_pieceOfTick.cls ≠ "java/lang/invoke/MethodHandle" ∧ yX0_pieceOfTick.cls ≠ "java/lang/invoke/VarHandle" ∧ (parseMethodDescriptor yX0_pieceOfTick.desc).map (fun d => d.parameters.length) = some 0 := by decide +kernel
theorem hdV_X3_ofCommand : yX3_ofCommand.cls = RX3 ∧ yX3_ofCommand.cls ≠ "java/lang/invoke/MethodHandle" ∧ yX3_ofCommand.cls ≠ "java/lang/invoke/VarHandle" ∧ (parseMethodDescriptor yX3_ofCommand.desc).map (fun d => d.parameters.length) = some 2 := by decide +kernel
def fX3_next_32  : Nat → Int32 → Int32 → (Nat → Int32) → (Nat → Int32) → (Nat → Int32) → (Nat → Int32) → (Int32) → (Int32) → (Int32) → (Int32) → (Int32) → Option (Int32 × Int32 × (Nat → Int32) × (Nat → Int32) × (Nat → Int32) × (Nat → Int32) × (Int32) × (Int32) × (Int32) × (Int32) × (Int32))
  | 0, _, _, _, _, _, _, _, _, _, _, _ => none
  | n + 1, v1, v2, bC, pFC, pLC, stC, tmC, qtC, cmC, dsC, drC =>
    if 100 ≤ v2 then
        some (0, (-1), bC, pFC, pLC, stC, tmC, qtC, cmC, dsC, drC)
      else
        ob (fX0_pieceOfTick bC pFC pLC stC tmC qtC) fun r2 =>
        if r2 = (-1) then
          ob6 (fX0_tick bC pFC pLC stC tmC qtC cmC dsC drC) fun bC4 tmC4 qtC4 cmC4 dsC4 drC4 =>
          fX3_next_32 n v1 (v2 + 1) bC4 pFC pLC stC tmC4 qtC4 cmC4 dsC4 drC4
        else
          ob (fX3_ofCommand bC pFC pLC stC tmC qtC r2 v1) fun r5 =>
          some (0, r5, bC, pFC, pLC, stC, tmC, qtC, cmC, dsC, drC)
def fX3_next (b : Nat → Int32) (pF : Nat → Int32) (pL : Nat → Int32) (st : Nat → Int32) (tm : Int32) (qt : Int32) (cm : Int32) (ds : Int32) (dr : Int32) (bC : Nat → Int32) (pFC : Nat → Int32) (pLC : Nat → Int32) (stC : Nat → Int32) (tmC : Int32) (qtC : Int32) (cmC : Int32) (dsC : Int32) (drC : Int32) (a1 : Int32) : Option (Int32 × Int32 × (Nat → Int32) × (Nat → Int32) × (Nat → Int32) × (Nat → Int32) × (Int32) × (Int32) × (Int32) × (Int32) × (Int32)) :=
  if a1 < 0 then
    some (2, 0, bC, pFC, pLC, stC, tmC, qtC, cmC, dsC, drC)
  else
    if a1 ≤ 2 then
      ob9 (fX0_copyFrom bC pFC pLC stC b pF pL st tm qt cm ds dr) fun bC8 pFC8 pLC8 stC8 tmC8 qtC8 cmC8 dsC8 drC8 =>
      fX3_next_32 1000 a1 0 bC8 pFC8 pLC8 stC8 tmC8 qtC8 cmC8 dsC8 drC8
    else
      some (2, 0, bC, pFC, pLC, stC, tmC, qtC, cmC, dsC, drC)
theorem mX3_next_23 : Cond.fieldLink RX3 23 "IdleDiscards" "copy" "LIdleDiscards$Device;" ∈ wsX3_next := by decide +kernel
theorem uX3_next_X3 : ∀ w ∈ wsX30, w ∈ wsX3_next := by decide +kernel
theorem mX3_next_k41 : Cond.classLink RX3 41 (zE 2) ∈ wsX3_next := by decide +kernel
theorem mX3_next_j41 : Cond.initialized (zE 2) ∈ wsX3_next := by decide +kernel
theorem mX3_next_a41 : ∀ w ∈ (vx_atS RX3 45 (zE 2) ["java/lang/RuntimeException", "java/lang/Exception"]).filter goodWord, w ∈ wsX3_next := by decide +kernel
theorem mX3_next_19 : Cond.fieldLink RX3 19 "IdleDiscards" "device" "LIdleDiscards$Device;" ∈ wsX3_next := by decide +kernel
set_option maxRecDepth 100000 in
set_option maxHeartbeats 4000000 in
theorem kX3_next (l : Launch) (g : zG) (h0 xt0 xt1 xt2 xd0 xd1 xd2 xd3 xd4 xc0 xc1 xc2 xc3 xc4 xp0 xp1 xs0 xu0 xe0 xe1 xe2 xe3 xe4 xf0 xf1 xf2 xf3 xf4 : Nat) (ad : Nat → Nat → Nat) (ch : Nat → Int32) (nu : Nat → Int32) (le : Int32) (ta : Int32) (lt : Int32) (b : Nat → Int32) (pF : Nat → Int32) (pL : Nat → Int32) (st : Nat → Int32) (tm : Int32) (qt : Int32) (cm : Int32) (ds : Int32) (dr : Int32) (bC : Nat → Int32) (pFC : Nat → Int32) (pLC : Nat → Int32) (stC : Nat → Int32) (tmC : Int32) (qtC : Int32) (cmC : Int32) (dsC : Int32) (drC : Int32) (ol : Int32) (pz : Int32) (dvs : Nat → zDv) (us : Nat → Int32) (bS : Nat → Int32) (pFS : Nat → Int32) (pLS : Nat → Int32) (stS : Nat → Int32) (tmS : Int32) (qtS : Int32) (cmS : Int32) (dsS : Int32) (drS : Int32) (bT : Nat → Int32) (pFT : Nat → Int32) (pLT : Nat → Int32) (stT : Nat → Int32) (tmT : Int32) (qtT : Int32) (cmT : Int32) (dsT : Int32) (drT : Int32) (a1 : Int32) (htr : l.stackTraces = false) {k : Int32} {r : Int32} {bC' : Nat → Int32} {pFC' : Nat → Int32} {pLC' : Nat → Int32} {stC' : Nat → Int32} {tmC' : Int32} {qtC' : Int32} {cmC' : Int32} {dsC' : Int32} {drC' : Int32} (h : fX3_next b pF pL st tm qt cm ds dr bC pFC pLC stC tmC qtC cmC dsC drC a1 = some (k, r, bC', pFC', pLC', stC', tmC', qtC', cmC', dsC', drC')) : Mx l g yX3_next wsX3_next { frames := 6, cells := 1, slots := 6, locals := 113 } [.ref h0, .int a1] (zI g h0 xt0 xt1 xt2 xd0 xd1 xd2 xd3 xd4 xc0 xc1 xc2 xc3 xc4 xp0 xp1 xs0 xu0 xe0 xe1 xe2 xe3 xe4 xf0 xf1 xf2 xf3 xf4 ad ch nu le ta lt b pF pL st tm qt cm ds dr bC pFC pLC stC tmC qtC cmC dsC drC ol pz dvs us bS pFS pLS stS tmS qtS cmS dsS drS bT pFT pLT stT tmT qtT cmT dsT drT) (zXi g (zI g h0 xt0 xt1 xt2 xd0 xd1 xd2 xd3 xd4 xc0 xc1 xc2 xc3 xc4 xp0 xp1 xs0 xu0 xe0 xe1 xe2 xe3 xe4 xf0 xf1 xf2 xf3 xf4 ad ch nu le ta lt b pF pL st tm qt cm ds dr bC' pFC' pLC' stC' tmC' qtC' cmC' dsC' drC' ol pz dvs us bS pFS pLS stS tmS qtS cmS dsS drS bT pFT pLT stT tmT qtT cmT dsT drT) k r) (zXx g (zI g h0 xt0 xt1 xt2 xd0 xd1 xd2 xd3 xd4 xc0 xc1 xc2 xc3 xc4 xp0 xp1 xs0 xu0 xe0 xe1 xe2 xe3 xe4 xf0 xf1 xf2 xf3 xf4 ad ch nu le ta lt b pF pL st tm qt cm ds dr bC' pFC' pLC' stC' tmC' qtC' cmC' dsC' drC' ol pz dvs us bS pFS pLS stS tmS qtS cmS dsS drS bT pFT pLT stT tmT qtT cmT dsT drT) k) 1 6 := by
  refine zx_in (cc := cX3_next) (maxL := 4) (ret := (some .int)) (by decide) rfl (Nat.le_of_ble_eq_true rfl) ?_
  intro p e s m below meth c hx hb hr hml hts hown hlocks hK ht A hA hP hD hS hAm ls hl
  replace hl : lv_has ls 4 [(0, .ref h0), (1, .int a1)] := hl
  have loop_32 : ∀ (n : Nat) (v1 : Int32) (v2 : Int32) (bC : (Nat → Int32)) (pFC : (Nat → Int32)) (pLC : (Nat → Int32)) (stC : (Nat → Int32)) (tmC : (Int32)) (qtC : (Int32)) (cmC : (Int32)) (dsC : (Int32)) (drC : (Int32)), fX3_next_32 n v1 v2 bC pFC pLC stC tmC qtC cmC dsC drC = some (k, r, bC', pFC', pLC', stC', tmC', qtC', cmC', dsC', drC') → ∀ (H : Heap) (locs : List Loc), zP g (zI g h0 xt0 xt1 xt2 xd0 xd1 xd2 xd3 xd4 xc0 xc1 xc2 xc3 xc4 xp0 xp1 xs0 xu0 xe0 xe1 xe2 xe3 xe4 xf0 xf1 xf2 xf3 xf4 ad ch nu le ta lt b pF pL st tm qt cm ds dr bC pFC pLC stC tmC qtC cmC dsC drC ol pz dvs us bS pFS pLS stS tmS qtS cmS dsS drS bT pFT pLT stT tmT qtT cmT dsT drT) H → va_D A (zI g h0 xt0 xt1 xt2 xd0 xd1 xd2 xd3 xd4 xc0 xc1 xc2 xc3 xc4 xp0 xp1 xs0 xu0 xe0 xe1 xe2 xe3 xe4 xf0 xf1 xf2 xf3 xf4 ad ch nu le ta lt b pF pL st tm qt cm ds dr bC pFC pLC stC tmC qtC cmC dsC drC ol pz dvs us bS pFS pLS stS tmS qtS cmS dsS drS bT pFT pLT stT tmT qtT cmT dsT drT) → va_S A s.heap H locs → ∀ (ls : Array Slot), lv_has ls 4 [(0, .ref h0), (1, .int v1), (2, .int v2)] → W p l e ({ frames := 6, cells := 1, slots := 6, locals := 113 } : Room) s m [.ref h0, .int a1].toArray below meth c H locs 0 0 (vx_MQ below (zXi g (zI g h0 xt0 xt1 xt2 xd0 xd1 xd2 xd3 xd4 xc0 xc1 xc2 xc3 xc4 xp0 xp1 xs0 xu0 xe0 xe1 xe2 xe3 xe4 xf0 xf1 xf2 xf3 xf4 ad ch nu le ta lt b pF pL st tm qt cm ds dr bC' pFC' pLC' stC' tmC' qtC' cmC' dsC' drC' ol pz dvs us bS pFS pLS stS tmS qtS cmS dsS drS bT pFT pLT stT tmT qtT cmT dsT drT) k r A) (zXx g (zI g h0 xt0 xt1 xt2 xd0 xd1 xd2 xd3 xd4 xc0 xc1 xc2 xc3 xc4 xp0 xp1 xs0 xu0 xe0 xe1 xe2 xe3 xe4 xf0 xf1 xf2 xf3 xf4 ad ch nu le ta lt b pF pL st tm qt cm ds dr bC' pFC' pLC' stC' tmC' qtC' cmC' dsC' drC' ol pz dvs us bS pFS pLS stS tmS qtS cmS dsS drS bT pFT pLT stT tmT qtT cmT dsT drT) k A) [.ref h0, .int a1].toArray s 1 6 A) (F0 m 32 ls []) := by
    intro n
    induction n with
    | zero => intro v1 v2 bC pFC pLC stC tmC qtC cmC dsC drC h H locs hP hD hS ls hl; exact zn h
    | succ n ih =>
      intro v1 v2 bC pFC pLC stC tmC qtC cmC dsC drC h H locs hP hD hS ls hl
      rw [fX3_next_32] at h
      refine lv_iload_n hx hb dX3_next_32 rfl (lv_at hl 2 rfl) ?_
      refine lv_bipush (v := 100) hx hb dX3_next_33 (by decide) ?_
      refine lv_icmp_ge (tgt := 71) hx hb dX3_next_35 (by decide) (fun c1 => ?_) (fun c1 => ?_)
      · replace h := zt c1 h
        refine lv_iconst (v := (-1)) hx hb dX3_next_71 (by decide) ?_
        cases h
        exact zx_i hx hb hr hlocks hP hS (by decide) (by decide) dX3_next_72
      · replace h := zf c1 h
        refine lv_aload_n hx hb dX3_next_38 rfl (lv_at hl 0 rfl) ?_
        refine va_get (ci := 3) (v := .ref xc0) (C := RX3) (T := TX3) (N := 6) hx hb hts uX3_next_X3 hown hK hP 0 rfl rfl 2 (by decide) (hts _ mX3_next_23) (fun _ h9 => h9) rfl dX3_next_39 ?_
        obtain ⟨r2, e2, h⟩ := zb h
        refine zV (As := []) (rest := []) (zQi_q _) ⟨hx, hb, hml, hown, hts⟩ (kX0_pieceOfTick l g xc0 xc1 xc2 xc3 xc4 bC pFC pLC stC tmC qtC cmC dsC drC e2) (cwV 0 hts gX3_next_X0_pieceOfTick rfl rfl rfl hdV_X0_pieceOfTick ⟨Nat.le_of_ble_eq_true rfl, Nat.le_of_ble_eq_true rfl⟩) hK hP [9, 10, 11, 12, 13] rfl 9 rfl rfl rfl hl.1 rfl (Nat.le_of_ble_eq_true rfl) ⟨Nat.le_of_ble_eq_true rfl, Nat.le_of_ble_eq_true rfl⟩ dX3_next_42 ?_
        refine lv_istore_n (lv' := [(3, .int r2), (0, .ref h0), (1, .int v1), (2, .int v2)]) hx hb dX3_next_45 rfl hl (by decide) rfl (fun ls hl => ?_)
        refine lv_iload_n hx hb dX3_next_46 rfl (lv_at hl 0 rfl) ?_
        refine lv_iconst (v := (-1)) hx hb dX3_next_47 (by decide) ?_
        refine lv_icmp_eq (tgt := 58) hx hb dX3_next_48 (by decide) (fun c3 => ?_) (fun c3 => ?_)
        · replace h := zt c3 h
          refine lv_aload_n hx hb dX3_next_58 rfl (lv_at hl 1 rfl) ?_
          refine va_get (ci := 3) (v := .ref xc0) (C := RX3) (T := TX3) (N := 6) hx hb hts uX3_next_X3 hown hK hP 0 rfl rfl 2 (by decide) (hts _ mX3_next_23) (fun _ h9 => h9) rfl dX3_next_59 ?_
          obtain ⟨bC4, tmC4, qtC4, cmC4, dsC4, drC4, e4, h⟩ := zb6 h
          refine zVw (As := []) (rest := []) (zWv_q g _) ⟨hx, hb, hml, hown, hts⟩ (kX0_tick l g xc0 xc1 xc2 xc3 xc4 bC pFC pLC stC tmC qtC cmC dsC drC e4) (cwV 0 hts gX3_next_X0_tick rfl rfl rfl hdV_X0_tick ⟨Nat.le_of_ble_eq_true rfl, Nat.le_of_ble_eq_true rfl⟩) hK hP hD hS hA [9, 10, 11, 12, 13] (by decide) rfl rfl 9 rfl rfl rfl hl.1 rfl (Nat.le_of_ble_eq_true rfl) ⟨Nat.le_of_ble_eq_true rfl, Nat.le_of_ble_eq_true rfl⟩ dX3_next_62 (fun H locs hP hD hS => ?_)
          replace hP : zP g (zI g h0 xt0 xt1 xt2 xd0 xd1 xd2 xd3 xd4 xc0 xc1 xc2 xc3 xc4 xp0 xp1 xs0 xu0 xe0 xe1 xe2 xe3 xe4 xf0 xf1 xf2 xf3 xf4 ad ch nu le ta lt b pF pL st tm qt cm ds dr bC4 pFC pLC stC tmC4 qtC4 cmC4 dsC4 drC4 ol pz dvs us bS pFS pLS stS tmS qtS cmS dsS drS bT pFT pLT stT tmT qtT cmT dsT drT) H := hP
          replace hD : va_D A (zI g h0 xt0 xt1 xt2 xd0 xd1 xd2 xd3 xd4 xc0 xc1 xc2 xc3 xc4 xp0 xp1 xs0 xu0 xe0 xe1 xe2 xe3 xe4 xf0 xf1 xf2 xf3 xf4 ad ch nu le ta lt b pF pL st tm qt cm ds dr bC4 pFC pLC stC tmC4 qtC4 cmC4 dsC4 drC4 ol pz dvs us bS pFS pLS stS tmS qtS cmS dsS drS bT pFT pLT stT tmT qtT cmT dsT drT) := hD
          refine lv_iinc (v := (v2 + 1)) (lv' := [(2, .int (v2 + 1)), (3, .int r2), (0, .ref h0), (1, .int v1)]) hx hb dX3_next_65 hl (k := 3) rfl rfl (by decide) rfl (fun ls hl => ?_)
          refine lv_goto (tgt := 32) hx hb dX3_next_68 (by decide) ?_
          exact ih v1 (v2 + 1) bC4 pFC pLC stC tmC4 qtC4 cmC4 dsC4 drC4 h H locs hP hD hS ls (lv_sub hl [2, 3, 0] rfl)
        · replace h := zf c3 h
          refine lv_aload_n hx hb dX3_next_51 rfl (lv_at hl 1 rfl) ?_
          refine lv_iload_n hx hb dX3_next_52 rfl (lv_at hl 0 rfl) ?_
          refine lv_iload_n hx hb dX3_next_53 rfl (lv_at hl 2 rfl) ?_
          obtain ⟨r5, e5, h⟩ := zb h
          refine zVA (As := [.int r2, .int v1]) (rest := []) (zQi_q _) ⟨hx, hb, hml, hown, hts⟩ (kX3_ofCommand l g h0 xt0 xt1 xt2 xd0 xd1 xd2 xd3 xd4 xc0 xc1 xc2 xc3 xc4 xp0 xp1 xs0 xu0 xe0 xe1 xe2 xe3 xe4 xf0 xf1 xf2 xf3 xf4 ad ch nu le ta lt b pF pL st tm qt cm ds dr bC pFC pLC stC tmC qtC cmC dsC drC ol pz dvs us bS pFS pLS stS tmS qtS cmS dsS drS bT pFT pLT stT tmT qtT cmT dsT drT r2 v1 e5) (cwV 2 hts gX3_next_X3_ofCommand rfl rfl rfl hdV_X3_ofCommand ⟨Nat.le_of_ble_eq_true rfl, Nat.le_of_ble_eq_true rfl⟩) hK hP 0 rfl rfl rfl hl.1 rfl (Nat.le_of_ble_eq_true rfl) ⟨Nat.le_of_ble_eq_true rfl, Nat.le_of_ble_eq_true rfl⟩ dX3_next_54 ?_
          cases h
          exact zx_i hx hb hr hlocks hP hS (by decide) (by decide) dX3_next_57
  unfold fX3_next at h
  refine lv_iload_n hx hb dX3_next_0 rfl (lv_at hl 1 rfl) ?_
  refine lv_if_lt (tgt := 9) hx hb dX3_next_1 (by decide) (fun c6 => ?_) (fun c6 => ?_)
  · replace h := zt c6 h
    cases h
    exact zx_throw (text := "no such number of a command") hx hb htr hown hts (by decide) zEx_2 mX3_next_k41 mX3_next_j41 mX3_next_a41 zEb_2 zEg_2_41 zEf_2 zEn (by decide +kernel) hAm hP hS (hl.1.trans hml.symm) dX3_next_9 dX3_next_12 dX3_next_13 dX3_next_15 dX3_next_18 ht (Nat.le_of_ble_eq_true rfl) (Nat.le_of_ble_eq_true rfl) (Nat.le_of_ble_eq_true rfl) (Nat.le_of_ble_eq_true rfl) hlocks (by decide) (by decide)
  · replace h := zf c6 h
    refine lv_iload_n hx hb dX3_next_4 rfl (lv_at hl 1 rfl) ?_
    refine lv_iconst (v := 2) hx hb dX3_next_5 (by decide) ?_
    refine lv_icmp_le (tgt := 19) hx hb dX3_next_6 (by decide) (fun c7 => ?_) (fun c7 => ?_)
    · replace h := zt c7 h
      refine lv_aload_n hx hb dX3_next_19 rfl (lv_at hl 0 rfl) ?_
      refine va_get (ci := 3) (v := .ref xc0) (C := RX3) (T := TX3) (N := 6) hx hb hts uX3_next_X3 hown hK hP 0 rfl rfl 2 (by decide) (hts _ mX3_next_23) (fun _ h9 => h9) rfl dX3_next_20 ?_
      refine lv_aload_n hx hb dX3_next_23 rfl (lv_at hl 0 rfl) ?_
      refine va_get (ci := 3) (v := .ref xd0) (C := RX3) (T := TX3) (N := 6) hx hb hts uX3_next_X3 hown hK hP 0 rfl rfl 1 (by decide) (hts _ mX3_next_19) (fun _ h9 => h9) rfl dX3_next_24 ?_
      obtain ⟨bC8, pFC8, pLC8, stC8, tmC8, qtC8, cmC8, dsC8, drC8, e8, h⟩ := zb9 h
      refine zVw (As := [.ref xd0]) (rest := []) (zWv_q g _) ⟨hx, hb, hml, hown, hts⟩ (kX0_copyFrom l g xc0 xc1 xc2 xc3 xc4 xd0 xd1 xd2 xd3 xd4 bC pFC pLC stC tmC qtC cmC dsC drC b pF pL st tm qt cm ds dr e8) (cwV 1 hts gX3_next_X0_copyFrom rfl rfl rfl hdV_X0_copyFrom ⟨Nat.le_of_ble_eq_true rfl, Nat.le_of_ble_eq_true rfl⟩) hK hP hD hS hA [9, 10, 11, 12, 13, 4, 5, 6, 7, 8] (by decide) rfl rfl 9 rfl rfl rfl hl.1 rfl (Nat.le_of_ble_eq_true rfl) ⟨Nat.le_of_ble_eq_true rfl, Nat.le_of_ble_eq_true rfl⟩ dX3_next_27 (fun H locs hP hD hS => ?_)
      replace hP : zP g (zI g h0 xt0 xt1 xt2 xd0 xd1 xd2 xd3 xd4 xc0 xc1 xc2 xc3 xc4 xp0 xp1 xs0 xu0 xe0 xe1 xe2 xe3 xe4 xf0 xf1 xf2 xf3 xf4 ad ch nu le ta lt b pF pL st tm qt cm ds dr bC8 pFC8 pLC8 stC8 tmC8 qtC8 cmC8 dsC8 drC8 ol pz dvs us bS pFS pLS stS tmS qtS cmS dsS drS bT pFT pLT stT tmT qtT cmT dsT drT) H := hP
      replace hD : va_D A (zI g h0 xt0 xt1 xt2 xd0 xd1 xd2 xd3 xd4 xc0 xc1 xc2 xc3 xc4 xp0 xp1 xs0 xu0 xe0 xe1 xe2 xe3 xe4 xf0 xf1 xf2 xf3 xf4 ad ch nu le ta lt b pF pL st tm qt cm ds dr bC8 pFC8 pLC8 stC8 tmC8 qtC8 cmC8 dsC8 drC8 ol pz dvs us bS pFS pLS stS tmS qtS cmS dsS drS bT pFT pLT stT tmT qtT cmT dsT drT) := hD
      refine lv_iconst (v := 0) hx hb dX3_next_30 (by decide) ?_
      refine lv_istore_n (lv' := [(2, .int 0), (0, .ref h0), (1, .int a1)]) hx hb dX3_next_31 rfl hl (by decide) rfl (fun ls hl => ?_)
      exact loop_32 1000 a1 0 bC8 pFC8 pLC8 stC8 tmC8 qtC8 cmC8 dsC8 drC8 h H locs hP hD hS ls (lv_sub hl [1, 2, 0] rfl)
    · replace h := zf c7 h
      cases h
      exact zx_throw (text := "no such number of a command") hx hb htr hown hts (by decide) zEx_2 mX3_next_k41 mX3_next_j41 mX3_next_a41 zEb_2 zEg_2_41 zEf_2 zEn (by decide +kernel) hAm hP hS (hl.1.trans hml.symm) dX3_next_9 dX3_next_12 dX3_next_13 dX3_next_15 dX3_next_18 ht (Nat.le_of_ble_eq_true rfl) (Nat.le_of_ble_eq_true rfl) (Nat.le_of_ble_eq_true rfl) (Nat.le_of_ble_eq_true rfl) hlocks (by decide) (by decide)
theorem hdV_X0_isQueued : yX0_isQueued.cls = RX0 ∧ yX0_isQueued.cls ≠ "java/lang/invoke/MethodHandle" ∧ yX0_isQueued.cls ≠ "java/lang/invoke/VarHandle" ∧ (parseMethodDescriptor yX0_isQueued.desc).map (fun d => d.parameters.length) = some 1 := by decide +kernel
def fX3_goneIn_17 (tm : Int32) : Nat → Int32 → Int32 → (Nat → Int32) → (Nat → Int32) → (Nat → Int32) → (Nat → Int32) → (Int32) → (Int32) → (Int32) → (Int32) → (Int32) → Option (Int32 × Int32 × (Nat → Int32) × (Nat → Int32) × (Nat → Int32) × (Nat → Int32) × (Int32) × (Int32) × (Int32) × (Int32) × (Int32))
  | 0, _, _, _, _, _, _, _, _, _, _, _ => none
  | n + 1, v1, v2, bC, pFC, pLC, stC, tmC, qtC, cmC, dsC, drC =>
    if 100 ≤ v2 then
        ob (fX0_isHeld bC v1) fun r2 =>
        if r2 = 0 then
          ob (fX0_time tmC) fun r4 =>
          ob (fX0_time tm) fun r5 =>
          some (0, (r4 - r5), bC, pFC, pLC, stC, tmC, qtC, cmC, dsC, drC)
        else
          some (0, (-1), bC, pFC, pLC, stC, tmC, qtC, cmC, dsC, drC)
      else
        ob (fX0_isQueued bC v1) fun r6 =>
        if r6 = 0 then
          ob (fX0_isHeld bC v1) fun r8 =>
          if r8 = 0 then
            ob (fX0_time tmC) fun r10 =>
            ob (fX0_time tm) fun r11 =>
            some (0, (r10 - r11), bC, pFC, pLC, stC, tmC, qtC, cmC, dsC, drC)
          else
            some (0, (-1), bC, pFC, pLC, stC, tmC, qtC, cmC, dsC, drC)
        else
          ob6 (fX0_tick bC pFC pLC stC tmC qtC cmC dsC drC) fun bC12 tmC12 qtC12 cmC12 dsC12 drC12 =>
          fX3_goneIn_17 tm n v1 (v2 + 1) bC12 pFC pLC stC tmC12 qtC12 cmC12 dsC12 drC12
def fX3_goneIn (b : Nat → Int32) (pF : Nat → Int32) (pL : Nat → Int32) (st : Nat → Int32) (tm : Int32) (qt : Int32) (cm : Int32) (ds : Int32) (dr : Int32) (bC : Nat → Int32) (pFC : Nat → Int32) (pLC : Nat → Int32) (stC : Nat → Int32) (tmC : Int32) (qtC : Int32) (cmC : Int32) (dsC : Int32) (drC : Int32) (a1 : Int32) : Option (Int32 × Int32 × (Nat → Int32) × (Nat → Int32) × (Nat → Int32) × (Nat → Int32) × (Int32) × (Int32) × (Int32) × (Int32) × (Int32)) :=
  ob (fX3_checkBlock a1) fun k13 =>
  if k13 = 0 then
    ob9 (fX0_copyFrom bC pFC pLC stC b pF pL st tm qt cm ds dr) fun bC14 pFC14 pLC14 stC14 tmC14 qtC14 cmC14 dsC14 drC14 =>
    fX3_goneIn_17 tm 1000 a1 0 bC14 pFC14 pLC14 stC14 tmC14 qtC14 cmC14 dsC14 drC14
  else some (k13, 0, bC, pFC, pLC, stC, tmC, qtC, cmC, dsC, drC)
theorem mX3_goneIn_23 : Cond.fieldLink RX3 23 "IdleDiscards" "copy" "LIdleDiscards$Device;" ∈ wsX3_goneIn := by decide +kernel
theorem uX3_goneIn_X3 : ∀ w ∈ wsX30, w ∈ wsX3_goneIn := by decide +kernel
theorem mX3_goneIn_19 : Cond.fieldLink RX3 19 "IdleDiscards" "device" "LIdleDiscards$Device;" ∈ wsX3_goneIn := by decide +kernel
set_option maxRecDepth 100000 in
set_option maxHeartbeats 4000000 in
theorem kX3_goneIn (l : Launch) (g : zG) (h0 xt0 xt1 xt2 xd0 xd1 xd2 xd3 xd4 xc0 xc1 xc2 xc3 xc4 xp0 xp1 xs0 xu0 xe0 xe1 xe2 xe3 xe4 xf0 xf1 xf2 xf3 xf4 : Nat) (ad : Nat → Nat → Nat) (ch : Nat → Int32) (nu : Nat → Int32) (le : Int32) (ta : Int32) (lt : Int32) (b : Nat → Int32) (pF : Nat → Int32) (pL : Nat → Int32) (st : Nat → Int32) (tm : Int32) (qt : Int32) (cm : Int32) (ds : Int32) (dr : Int32) (bC : Nat → Int32) (pFC : Nat → Int32) (pLC : Nat → Int32) (stC : Nat → Int32) (tmC : Int32) (qtC : Int32) (cmC : Int32) (dsC : Int32) (drC : Int32) (ol : Int32) (pz : Int32) (dvs : Nat → zDv) (us : Nat → Int32) (bS : Nat → Int32) (pFS : Nat → Int32) (pLS : Nat → Int32) (stS : Nat → Int32) (tmS : Int32) (qtS : Int32) (cmS : Int32) (dsS : Int32) (drS : Int32) (bT : Nat → Int32) (pFT : Nat → Int32) (pLT : Nat → Int32) (stT : Nat → Int32) (tmT : Int32) (qtT : Int32) (cmT : Int32) (dsT : Int32) (drT : Int32) (a1 : Int32) (htr : l.stackTraces = false) {k : Int32} {r : Int32} {bC' : Nat → Int32} {pFC' : Nat → Int32} {pLC' : Nat → Int32} {stC' : Nat → Int32} {tmC' : Int32} {qtC' : Int32} {cmC' : Int32} {dsC' : Int32} {drC' : Int32} (h : fX3_goneIn b pF pL st tm qt cm ds dr bC pFC pLC stC tmC qtC cmC dsC drC a1 = some (k, r, bC', pFC', pLC', stC', tmC', qtC', cmC', dsC', drC')) : Mx l g yX3_goneIn wsX3_goneIn { frames := 7, cells := 1, slots := 6, locals := 102 } [.ref h0, .int a1] (zI g h0 xt0 xt1 xt2 xd0 xd1 xd2 xd3 xd4 xc0 xc1 xc2 xc3 xc4 xp0 xp1 xs0 xu0 xe0 xe1 xe2 xe3 xe4 xf0 xf1 xf2 xf3 xf4 ad ch nu le ta lt b pF pL st tm qt cm ds dr bC pFC pLC stC tmC qtC cmC dsC drC ol pz dvs us bS pFS pLS stS tmS qtS cmS dsS drS bT pFT pLT stT tmT qtT cmT dsT drT) (zXi g (zI g h0 xt0 xt1 xt2 xd0 xd1 xd2 xd3 xd4 xc0 xc1 xc2 xc3 xc4 xp0 xp1 xs0 xu0 xe0 xe1 xe2 xe3 xe4 xf0 xf1 xf2 xf3 xf4 ad ch nu le ta lt b pF pL st tm qt cm ds dr bC' pFC' pLC' stC' tmC' qtC' cmC' dsC' drC' ol pz dvs us bS pFS pLS stS tmS qtS cmS dsS drS bT pFT pLT stT tmT qtT cmT dsT drT) k r) (zXx g (zI g h0 xt0 xt1 xt2 xd0 xd1 xd2 xd3 xd4 xc0 xc1 xc2 xc3 xc4 xp0 xp1 xs0 xu0 xe0 xe1 xe2 xe3 xe4 xf0 xf1 xf2 xf3 xf4 ad ch nu le ta lt b pF pL st tm qt cm ds dr bC' pFC' pLC' stC' tmC' qtC' cmC' dsC' drC' ol pz dvs us bS pFS pLS stS tmS qtS cmS dsS drS bT pFT pLT stT tmT qtT cmT dsT drT) k) 1 6 := by
  refine zx_in (cc := cX3_goneIn) (maxL := 3) (ret := (some .int)) (by decide) rfl (Nat.le_of_ble_eq_true rfl) ?_
  intro p e s m below meth c hx hb hr hml hts hown hlocks hK ht A hA hP hD hS hAm ls hl
  replace hl : lv_has ls 3 [(0, .ref h0), (1, .int a1)] := hl
  have loop_17 : ∀ (n : Nat) (v1 : Int32) (v2 : Int32) (bC : (Nat → Int32)) (pFC : (Nat → Int32)) (pLC : (Nat → Int32)) (stC : (Nat → Int32)) (tmC : (Int32)) (qtC : (Int32)) (cmC : (Int32)) (dsC : (Int32)) (drC : (Int32)), fX3_goneIn_17 tm n v1 v2 bC pFC pLC stC tmC qtC cmC dsC drC = some (k, r, bC', pFC', pLC', stC', tmC', qtC', cmC', dsC', drC') → ∀ (H : Heap) (locs : List Loc), zP g (zI g h0 xt0 xt1 xt2 xd0 xd1 xd2 xd3 xd4 xc0 xc1 xc2 xc3 xc4 xp0 xp1 xs0 xu0 xe0 xe1 xe2 xe3 xe4 xf0 xf1 xf2 xf3 xf4 ad ch nu le ta lt b pF pL st tm qt cm ds dr bC pFC pLC stC tmC qtC cmC dsC drC ol pz dvs us bS pFS pLS stS tmS qtS cmS dsS drS bT pFT pLT stT tmT qtT cmT dsT drT) H → va_D A (zI g h0 xt0 xt1 xt2 xd0 xd1 xd2 xd3 xd4 xc0 xc1 xc2 xc3 xc4 xp0 xp1 xs0 xu0 xe0 xe1 xe2 xe3 xe4 xf0 xf1 xf2 xf3 xf4 ad ch nu le ta lt b pF pL st tm qt cm ds dr bC pFC pLC stC tmC qtC cmC dsC drC ol pz dvs us bS pFS pLS stS tmS qtS cmS dsS drS bT pFT pLT stT tmT qtT cmT dsT drT) → va_S A s.heap H locs → ∀ (ls : Array Slot), lv_has ls 3 [(0, .ref h0), (1, .int v1), (2, .int v2)] → W p l e ({ frames := 7, cells := 1, slots := 6, locals := 102 } : Room) s m [.ref h0, .int a1].toArray below meth c H locs 1 6 (vx_MQ below (zXi g (zI g h0 xt0 xt1 xt2 xd0 xd1 xd2 xd3 xd4 xc0 xc1 xc2 xc3 xc4 xp0 xp1 xs0 xu0 xe0 xe1 xe2 xe3 xe4 xf0 xf1 xf2 xf3 xf4 ad ch nu le ta lt b pF pL st tm qt cm ds dr bC' pFC' pLC' stC' tmC' qtC' cmC' dsC' drC' ol pz dvs us bS pFS pLS stS tmS qtS cmS dsS drS bT pFT pLT stT tmT qtT cmT dsT drT) k r A) (zXx g (zI g h0 xt0 xt1 xt2 xd0 xd1 xd2 xd3 xd4 xc0 xc1 xc2 xc3 xc4 xp0 xp1 xs0 xu0 xe0 xe1 xe2 xe3 xe4 xf0 xf1 xf2 xf3 xf4 ad ch nu le ta lt b pF pL st tm qt cm ds dr bC' pFC' pLC' stC' tmC' qtC' cmC' dsC' drC' ol pz dvs us bS pFS pLS stS tmS qtS cmS dsS drS bT pFT pLT stT tmT qtT cmT dsT drT) k A) [.ref h0, .int a1].toArray s 1 6 A) (F0 m 17 ls []) := by
    intro n
    induction n with
    | zero => intro v1 v2 bC pFC pLC stC tmC qtC cmC dsC drC h H locs hP hD hS ls hl; exact zn h
    | succ n ih =>
      intro v1 v2 bC pFC pLC stC tmC qtC cmC dsC drC h H locs hP hD hS ls hl
      rw [fX3_goneIn_17] at h
      refine lv_iload_n hx hb dX3_goneIn_17 rfl (lv_at hl 2 rfl) ?_
      refine lv_bipush (v := 100) hx hb dX3_goneIn_18 (by decide) ?_
      refine lv_icmp_ge (tgt := 47) hx hb dX3_goneIn_20 (by decide) (fun c1 => ?_) (fun c1 => ?_)
      · replace h := zt c1 h
        refine lv_aload_n hx hb dX3_goneIn_47 rfl (lv_at hl 0 rfl) ?_
        refine va_get (ci := 3) (v := .ref xc0) (C := RX3) (T := TX3) (N := 6) hx hb hts uX3_goneIn_X3 hown hK hP 0 rfl rfl 2 (by decide) (hts _ mX3_goneIn_23) (fun _ h9 => h9) rfl dX3_goneIn_48 ?_
        refine lv_iload_n hx hb dX3_goneIn_51 rfl (lv_at hl 1 rfl) ?_
        obtain ⟨r2, e2, h⟩ := zb h
        refine zV (As := [.int v1]) (rest := []) (zQi_q _) ⟨hx, hb, hml, hown, hts⟩ (kX0_isHeld l g xc0 xc1 xc2 xc3 xc4 bC pFC pLC stC tmC qtC cmC dsC drC v1 e2) (cwV 1 hts gX3_goneIn_X0_isHeld rfl rfl rfl hdV_X0_isHeld ⟨Nat.le_of_ble_eq_true rfl, Nat.le_of_ble_eq_true rfl⟩) hK hP [9, 10, 11, 12, 13] rfl 9 rfl rfl rfl hl.1 rfl (Nat.le_of_ble_eq_true rfl) ⟨Nat.le_of_ble_eq_true rfl, Nat.le_of_ble_eq_true rfl⟩ dX3_goneIn_52 ?_
        refine lv_if_eq (tgt := 62) hx hb dX3_goneIn_55 (by decide) (fun c3 => ?_) (fun c3 => ?_)
        · replace h := zt c3 h
          refine lv_aload_n hx hb dX3_goneIn_62 rfl (lv_at hl 0 rfl) ?_
          refine va_get (ci := 3) (v := .ref xc0) (C := RX3) (T := TX3) (N := 6) hx hb hts uX3_goneIn_X3 hown hK hP 0 rfl rfl 2 (by decide) (hts _ mX3_goneIn_23) (fun _ h9 => h9) rfl dX3_goneIn_63 ?_
          obtain ⟨r4, e4, h⟩ := zb h
          refine zV (As := []) (rest := []) (zQi_q _) ⟨hx, hb, hml, hown, hts⟩ (kX0_time l g xc0 xc1 xc2 xc3 xc4 bC pFC pLC stC tmC qtC cmC dsC drC e4) (cwV 0 hts gX3_goneIn_X0_time rfl rfl rfl hdV_X0_time ⟨Nat.le_of_ble_eq_true rfl, Nat.le_of_ble_eq_true rfl⟩) hK hP [9, 10, 11, 12, 13] rfl 9 rfl rfl rfl hl.1 rfl (Nat.le_of_ble_eq_true rfl) ⟨Nat.le_of_ble_eq_true rfl, Nat.le_of_ble_eq_true rfl⟩ dX3_goneIn_66 ?_
          refine lv_aload_n hx hb dX3_goneIn_69 rfl (lv_at hl 0 rfl) ?_
          refine va_get (ci := 3) (v := .ref xd0) (C := RX3) (T := TX3) (N := 6) hx hb hts uX3_goneIn_X3 hown hK hP 0 rfl rfl 1 (by decide) (hts _ mX3_goneIn_19) (fun _ h9 => h9) rfl dX3_goneIn_70 ?_
          obtain ⟨r5, e5, h⟩ := zb h
          refine zV (As := []) (rest := [.int r4]) (zQi_q _) ⟨hx, hb, hml, hown, hts⟩ (kX0_time l g xd0 xd1 xd2 xd3 xd4 b pF pL st tm qt cm ds dr e5) (cwV 0 hts gX3_goneIn_X0_time rfl rfl rfl hdV_X0_time ⟨Nat.le_of_ble_eq_true rfl, Nat.le_of_ble_eq_true rfl⟩) hK hP [4, 5, 6, 7, 8] rfl 4 rfl rfl rfl hl.1 rfl (Nat.le_of_ble_eq_true rfl) ⟨Nat.le_of_ble_eq_true rfl, Nat.le_of_ble_eq_true rfl⟩ dX3_goneIn_73 ?_
          refine lv_isub hx hb dX3_goneIn_76 ?_
          cases h
          exact zx_i hx hb hr hlocks hP hS (by decide) (by decide) dX3_goneIn_77
        · replace h := zf c3 h
          refine lv_iconst (v := (-1)) hx hb dX3_goneIn_58 (by decide) ?_
          refine lv_goto (tgt := 77) hx hb dX3_goneIn_59 (by decide) ?_
          cases h
          exact zx_i hx hb hr hlocks hP hS (by decide) (by decide) dX3_goneIn_77
      · replace h := zf c1 h
        refine lv_aload_n hx hb dX3_goneIn_23 rfl (lv_at hl 0 rfl) ?_
        refine va_get (ci := 3) (v := .ref xc0) (C := RX3) (T := TX3) (N := 6) hx hb hts uX3_goneIn_X3 hown hK hP 0 rfl rfl 2 (by decide) (hts _ mX3_goneIn_23) (fun _ h9 => h9) rfl dX3_goneIn_24 ?_
        refine lv_iload_n hx hb dX3_goneIn_27 rfl (lv_at hl 1 rfl) ?_
        obtain ⟨r6, e6, h⟩ := zb h
        refine zV (As := [.int v1]) (rest := []) (zQi_q _) ⟨hx, hb, hml, hown, hts⟩ (kX0_isQueued l g xc0 xc1 xc2 xc3 xc4 bC pFC pLC stC tmC qtC cmC dsC drC v1 e6) (cwV 1 hts gX3_goneIn_X0_isQueued rfl rfl rfl hdV_X0_isQueued ⟨Nat.le_of_ble_eq_true rfl, Nat.le_of_ble_eq_true rfl⟩) hK hP [9, 10, 11, 12, 13] rfl 9 rfl rfl rfl hl.1 rfl (Nat.le_of_ble_eq_true rfl) ⟨Nat.le_of_ble_eq_true rfl, Nat.le_of_ble_eq_true rfl⟩ dX3_goneIn_28 ?_
        refine lv_if_eq (tgt := 47) hx hb dX3_goneIn_31 (by decide) (fun c7 => ?_) (fun c7 => ?_)
        · replace h := zt c7 h
          refine lv_aload_n hx hb dX3_goneIn_47 rfl (lv_at hl 0 rfl) ?_
          refine va_get (ci := 3) (v := .ref xc0) (C := RX3) (T := TX3) (N := 6) hx hb hts uX3_goneIn_X3 hown hK hP 0 rfl rfl 2 (by decide) (hts _ mX3_goneIn_23) (fun _ h9 => h9) rfl dX3_goneIn_48 ?_
          refine lv_iload_n hx hb dX3_goneIn_51 rfl (lv_at hl 1 rfl) ?_
          obtain ⟨r8, e8, h⟩ := zb h
          refine zV (As := [.int v1]) (rest := []) (zQi_q _) ⟨hx, hb, hml, hown, hts⟩ (kX0_isHeld l g xc0 xc1 xc2 xc3 xc4 bC pFC pLC stC tmC qtC cmC dsC drC v1 e8) (cwV 1 hts gX3_goneIn_X0_isHeld rfl rfl rfl hdV_X0_isHeld ⟨Nat.le_of_ble_eq_true rfl, Nat.le_of_ble_eq_true rfl⟩) hK hP [9, 10, 11, 12, 13] rfl 9 rfl rfl rfl hl.1 rfl (Nat.le_of_ble_eq_true rfl) ⟨Nat.le_of_ble_eq_true rfl, Nat.le_of_ble_eq_true rfl⟩ dX3_goneIn_52 ?_
          refine lv_if_eq (tgt := 62) hx hb dX3_goneIn_55 (by decide) (fun c9 => ?_) (fun c9 => ?_)
          · replace h := zt c9 h
            refine lv_aload_n hx hb dX3_goneIn_62 rfl (lv_at hl 0 rfl) ?_
            refine va_get (ci := 3) (v := .ref xc0) (C := RX3) (T := TX3) (N := 6) hx hb hts uX3_goneIn_X3 hown hK hP 0 rfl rfl 2 (by decide) (hts _ mX3_goneIn_23) (fun _ h9 => h9) rfl dX3_goneIn_63 ?_
            obtain ⟨r10, e10, h⟩ := zb h
            refine zV (As := []) (rest := []) (zQi_q _) ⟨hx, hb, hml, hown, hts⟩ (kX0_time l g xc0 xc1 xc2 xc3 xc4 bC pFC pLC stC tmC qtC cmC dsC drC e10) (cwV 0 hts gX3_goneIn_X0_time rfl rfl rfl hdV_X0_time ⟨Nat.le_of_ble_eq_true rfl, Nat.le_of_ble_eq_true rfl⟩) hK hP [9, 10, 11, 12, 13] rfl 9 rfl rfl rfl hl.1 rfl (Nat.le_of_ble_eq_true rfl) ⟨Nat.le_of_ble_eq_true rfl, Nat.le_of_ble_eq_true rfl⟩ dX3_goneIn_66 ?_
            refine lv_aload_n hx hb dX3_goneIn_69 rfl (lv_at hl 0 rfl) ?_
            refine va_get (ci := 3) (v := .ref xd0) (C := RX3) (T := TX3) (N := 6) hx hb hts uX3_goneIn_X3 hown hK hP 0 rfl rfl 1 (by decide) (hts _ mX3_goneIn_19) (fun _ h9 => h9) rfl dX3_goneIn_70 ?_
            obtain ⟨r11, e11, h⟩ := zb h
            refine zV (As := []) (rest := [.int r10]) (zQi_q _) ⟨hx, hb, hml, hown, hts⟩ (kX0_time l g xd0 xd1 xd2 xd3 xd4 b pF pL st tm qt cm ds dr e11) (cwV 0 hts gX3_goneIn_X0_time rfl rfl rfl hdV_X0_time ⟨Nat.le_of_ble_eq_true rfl, Nat.le_of_ble_eq_true rfl⟩) hK hP [4, 5, 6, 7, 8] rfl 4 rfl rfl rfl hl.1 rfl (Nat.le_of_ble_eq_true rfl) ⟨Nat.le_of_ble_eq_true rfl, Nat.le_of_ble_eq_true rfl⟩ dX3_goneIn_73 ?_
            refine lv_isub hx hb dX3_goneIn_76 ?_
            cases h
            exact zx_i hx hb hr hlocks hP hS (by decide) (by decide) dX3_goneIn_77
          · replace h := zf c9 h
            refine lv_iconst (v := (-1)) hx hb dX3_goneIn_58 (by decide) ?_
            refine lv_goto (tgt := 77) hx hb dX3_goneIn_59 (by decide) ?_
            cases h
            exact zx_i hx hb hr hlocks hP hS (by decide) (by decide) dX3_goneIn_77
        · replace h := zf c7 h
          refine lv_aload_n hx hb dX3_goneIn_34 rfl (lv_at hl 0 rfl) ?_
          refine va_get (ci := 3) (v := .ref xc0) (C := RX3) (T := TX3) (N := 6) hx hb hts uX3_goneIn_X3 hown hK hP 0 rfl rfl 2 (by decide) (hts _ mX3_goneIn_23) (fun _ h9 => h9) rfl dX3_goneIn_35 ?_
          obtain ⟨bC12, tmC12, qtC12, cmC12, dsC12, drC12, e12, h⟩ := zb6 h
          refine zVw (As := []) (rest := []) (zWv_q g _) ⟨hx, hb, hml, hown, hts⟩ (kX0_tick l g xc0 xc1 xc2 xc3 xc4 bC pFC pLC stC tmC qtC cmC dsC drC e12) (cwV 0 hts gX3_goneIn_X0_tick rfl rfl rfl hdV_X0_tick ⟨Nat.le_of_ble_eq_true rfl, Nat.le_of_ble_eq_true rfl⟩) hK hP hD hS hA [9, 10, 11, 12, 13] (by decide) rfl rfl 9 rfl rfl rfl hl.1 rfl (Nat.le_of_ble_eq_true rfl) ⟨Nat.le_of_ble_eq_true rfl, Nat.le_of_ble_eq_true rfl⟩ dX3_goneIn_38 (fun H locs hP hD hS => ?_)
          replace hP : zP g (zI g h0 xt0 xt1 xt2 xd0 xd1 xd2 xd3 xd4 xc0 xc1 xc2 xc3 xc4 xp0 xp1 xs0 xu0 xe0 xe1 xe2 xe3 xe4 xf0 xf1 xf2 xf3 xf4 ad ch nu le ta lt b pF pL st tm qt cm ds dr bC12 pFC pLC stC tmC12 qtC12 cmC12 dsC12 drC12 ol pz dvs us bS pFS pLS stS tmS qtS cmS dsS drS bT pFT pLT stT tmT qtT cmT dsT drT) H := hP
          replace hD : va_D A (zI g h0 xt0 xt1 xt2 xd0 xd1 xd2 xd3 xd4 xc0 xc1 xc2 xc3 xc4 xp0 xp1 xs0 xu0 xe0 xe1 xe2 xe3 xe4 xf0 xf1 xf2 xf3 xf4 ad ch nu le ta lt b pF pL st tm qt cm ds dr bC12 pFC pLC stC tmC12 qtC12 cmC12 dsC12 drC12 ol pz dvs us bS pFS pLS stS tmS qtS cmS dsS drS bT pFT pLT stT tmT qtT cmT dsT drT) := hD
          refine lv_iinc (v := (v2 + 1)) (lv' := [(2, .int (v2 + 1)), (0, .ref h0), (1, .int v1)]) hx hb dX3_goneIn_41 hl (k := 2) rfl rfl (by decide) rfl (fun ls hl => ?_)
          refine lv_goto (tgt := 17) hx hb dX3_goneIn_44 (by decide) ?_
          exact ih v1 (v2 + 1) bC12 pFC pLC stC tmC12 qtC12 cmC12 dsC12 drC12 h H locs hP hD hS ls (lv_sub hl [1, 2, 0] rfl)
  unfold fX3_goneIn at h
  refine lv_iload_n hx hb dX3_goneIn_0 rfl (lv_at hl 1 rfl) ?_
  obtain ⟨k13, e13, h⟩ := zb h
  refine zSx (As := [.int a1]) (rest := []) (zXv_q g _ _) (zXx_q g _ _) ⟨hx, hb, hml, hown, hts⟩ (kX3_checkBlock l g a1 htr e13) (va_cwS 1 hts gX3_goneIn_X3_checkBlock rfl rfl rfl hdS_X3_checkBlock ⟨Nat.le_of_ble_eq_true rfl, Nat.le_of_ble_eq_true rfl⟩) hK hP hD hS hA hAm [] (by decide) rfl rfl rfl hl.1 rfl (Nat.le_of_ble_eq_true rfl) ⟨Nat.le_of_ble_eq_true rfl, Nat.le_of_ble_eq_true rfl⟩ dX3_goneIn_1 (fun c13 H locs q ce hP hD hS hq1 hq2 hq3 => ?_) (fun c13 H locs hP hD hS => ?_)
  · replace h := zf c13 h
    replace hP : zP g (zI g h0 xt0 xt1 xt2 xd0 xd1 xd2 xd3 xd4 xc0 xc1 xc2 xc3 xc4 xp0 xp1 xs0 xu0 xe0 xe1 xe2 xe3 xe4 xf0 xf1 xf2 xf3 xf4 ad ch nu le ta lt b pF pL st tm qt cm ds dr bC pFC pLC stC tmC qtC cmC dsC drC ol pz dvs us bS pFS pLS stS tmS qtS cmS dsS drS bT pFT pLT stT tmT qtT cmT dsT drT) H := hP
    cases h
    exact zx_out ht hlocks c13 hP hS hq1 hq2 hq3 (by decide) (by decide)
  · replace h := zt c13 h
    replace hP : zP g (zI g h0 xt0 xt1 xt2 xd0 xd1 xd2 xd3 xd4 xc0 xc1 xc2 xc3 xc4 xp0 xp1 xs0 xu0 xe0 xe1 xe2 xe3 xe4 xf0 xf1 xf2 xf3 xf4 ad ch nu le ta lt b pF pL st tm qt cm ds dr bC pFC pLC stC tmC qtC cmC dsC drC ol pz dvs us bS pFS pLS stS tmS qtS cmS dsS drS bT pFT pLT stT tmT qtT cmT dsT drT) H := hP
    replace hD : va_D A (zI g h0 xt0 xt1 xt2 xd0 xd1 xd2 xd3 xd4 xc0 xc1 xc2 xc3 xc4 xp0 xp1 xs0 xu0 xe0 xe1 xe2 xe3 xe4 xf0 xf1 xf2 xf3 xf4 ad ch nu le ta lt b pF pL st tm qt cm ds dr bC pFC pLC stC tmC qtC cmC dsC drC ol pz dvs us bS pFS pLS stS tmS qtS cmS dsS drS bT pFT pLT stT tmT qtT cmT dsT drT) := hD
    refine lv_aload_n hx hb dX3_goneIn_4 rfl (lv_at hl 0 rfl) ?_
    refine va_get (ci := 3) (v := .ref xc0) (C := RX3) (T := TX3) (N := 6) hx hb hts uX3_goneIn_X3 hown hK hP 0 rfl rfl 2 (by decide) (hts _ mX3_goneIn_23) (fun _ h9 => h9) rfl dX3_goneIn_5 ?_
    refine lv_aload_n hx hb dX3_goneIn_8 rfl (lv_at hl 0 rfl) ?_
    refine va_get (ci := 3) (v := .ref xd0) (C := RX3) (T := TX3) (N := 6) hx hb hts uX3_goneIn_X3 hown hK hP 0 rfl rfl 1 (by decide) (hts _ mX3_goneIn_19) (fun _ h9 => h9) rfl dX3_goneIn_9 ?_
    obtain ⟨bC14, pFC14, pLC14, stC14, tmC14, qtC14, cmC14, dsC14, drC14, e14, h⟩ := zb9 h
    refine zVw (As := [.ref xd0]) (rest := []) (zWv_q g _) ⟨hx, hb, hml, hown, hts⟩ (kX0_copyFrom l g xc0 xc1 xc2 xc3 xc4 xd0 xd1 xd2 xd3 xd4 bC pFC pLC stC tmC qtC cmC dsC drC b pF pL st tm qt cm ds dr e14) (cwV 1 hts gX3_goneIn_X0_copyFrom rfl rfl rfl hdV_X0_copyFrom ⟨Nat.le_of_ble_eq_true rfl, Nat.le_of_ble_eq_true rfl⟩) hK hP hD hS hA [9, 10, 11, 12, 13, 4, 5, 6, 7, 8] (by decide) rfl rfl 9 rfl rfl rfl hl.1 rfl (Nat.le_of_ble_eq_true rfl) ⟨Nat.le_of_ble_eq_true rfl, Nat.le_of_ble_eq_true rfl⟩ dX3_goneIn_12 (fun H locs hP hD hS => ?_)
    replace hP : zP g (zI g h0 xt0 xt1 xt2 xd0 xd1 xd2 xd3 xd4 xc0 xc1 xc2 xc3 xc4 xp0 xp1 xs0 xu0 xe0 xe1 xe2 xe3 xe4 xf0 xf1 xf2 xf3 xf4 ad ch nu le ta lt b pF pL st tm qt cm ds dr bC14 pFC14 pLC14 stC14 tmC14 qtC14 cmC14 dsC14 drC14 ol pz dvs us bS pFS pLS stS tmS qtS cmS dsS drS bT pFT pLT stT tmT qtT cmT dsT drT) H := hP
    replace hD : va_D A (zI g h0 xt0 xt1 xt2 xd0 xd1 xd2 xd3 xd4 xc0 xc1 xc2 xc3 xc4 xp0 xp1 xs0 xu0 xe0 xe1 xe2 xe3 xe4 xf0 xf1 xf2 xf3 xf4 ad ch nu le ta lt b pF pL st tm qt cm ds dr bC14 pFC14 pLC14 stC14 tmC14 qtC14 cmC14 dsC14 drC14 ol pz dvs us bS pFS pLS stS tmS qtS cmS dsS drS bT pFT pLT stT tmT qtT cmT dsT drT) := hD
    refine lv_iconst (v := 0) hx hb dX3_goneIn_15 (by decide) ?_
    refine lv_istore_n (lv' := [(2, .int 0), (0, .ref h0), (1, .int a1)]) hx hb dX3_goneIn_16 rfl hl (by decide) rfl (fun ls hl => ?_)
    exact loop_17 1000 a1 0 bC14 pFC14 pLC14 stC14 tmC14 qtC14 cmC14 dsC14 drC14 h H locs hP hD hS ls (lv_sub hl [1, 2, 0] rfl)
def fX3_coming (b : Nat → Int32) (pF : Nat → Int32) (pL : Nat → Int32) (st : Nat → Int32) (tm : Int32) (qt : Int32) (cm : Int32) (ds : Int32) (dr : Int32) (bC : Nat → Int32) (pFC : Nat → Int32) (pLC : Nat → Int32) (stC : Nat → Int32) (tmC : Int32) (qtC : Int32) (cmC : Int32) (dsC : Int32) (drC : Int32) (a1 : Int32) (a2 : Int32) : Option (Int32 × Int32 × (Nat → Int32) × (Nat → Int32) × (Nat → Int32) × (Nat → Int32) × (Int32) × (Int32) × (Int32) × (Int32) × (Int32)) :=
  ob (fX3_checkTicks a1 100) fun k1 =>
  if k1 = 0 then
    if a2 < 0 then
      some (2, 0, bC, pFC, pLC, stC, tmC, qtC, cmC, dsC, drC)
    else
      if a2 ≤ 3 then
        ob9 (fX0_copyFrom bC pFC pLC stC b pF pL st tm qt cm ds dr) fun bC4 pFC4 pLC4 stC4 tmC4 qtC4 cmC4 dsC4 drC4 =>
        ob7 (fX0_passTicks bC4 pFC4 pLC4 stC4 tmC4 qtC4 cmC4 dsC4 drC4 a1) fun r5 bC5 tmC5 qtC5 cmC5 dsC5 drC5 =>
        if a2 = 0 then
          some (0, r5, bC5, pFC4, pLC4, stC4, tmC5, qtC5, cmC5, dsC5, drC5)
        else if a2 = 1 then
          ob (fX0_commands cmC5) fun r8 =>
          ob (fX0_commands cm) fun r9 =>
          some (0, (r8 - r9), bC5, pFC4, pLC4, stC4, tmC5, qtC5, cmC5, dsC5, drC5)
        else if a2 = 2 then
          ob (fX0_countRanges bC5) fun r11 =>
          some (0, r11, bC5, pFC4, pLC4, stC4, tmC5, qtC5, cmC5, dsC5, drC5)
        else ob (fX0_countQueued bC5) fun r12 =>
        some (0, r12, bC5, pFC4, pLC4, stC4, tmC5, qtC5, cmC5, dsC5, drC5)
      else
        some (2, 0, bC, pFC, pLC, stC, tmC, qtC, cmC, dsC, drC)
  else some (k1, 0, bC, pFC, pLC, stC, tmC, qtC, cmC, dsC, drC)
theorem mX3_coming_k41 : Cond.classLink RX3 41 (zE 2) ∈ wsX3_coming := by decide +kernel
theorem mX3_coming_j41 : Cond.initialized (zE 2) ∈ wsX3_coming := by decide +kernel
theorem mX3_coming_a41 : ∀ w ∈ (vx_atS RX3 45 (zE 2) ["java/lang/RuntimeException", "java/lang/Exception"]).filter goodWord, w ∈ wsX3_coming := by decide +kernel
theorem mX3_coming_23 : Cond.fieldLink RX3 23 "IdleDiscards" "copy" "LIdleDiscards$Device;" ∈ wsX3_coming := by decide +kernel
theorem uX3_coming_X3 : ∀ w ∈ wsX30, w ∈ wsX3_coming := by decide +kernel
theorem mX3_coming_19 : Cond.fieldLink RX3 19 "IdleDiscards" "device" "LIdleDiscards$Device;" ∈ wsX3_coming := by decide +kernel
set_option maxRecDepth 100000 in
set_option maxHeartbeats 4000000 in
theorem kX3_coming (l : Launch) (g : zG) (h0 xt0 xt1 xt2 xd0 xd1 xd2 xd3 xd4 xc0 xc1 xc2 xc3 xc4 xp0 xp1 xs0 xu0 xe0 xe1 xe2 xe3 xe4 xf0 xf1 xf2 xf3 xf4 : Nat) (ad : Nat → Nat → Nat) (ch : Nat → Int32) (nu : Nat → Int32) (le : Int32) (ta : Int32) (lt : Int32) (b : Nat → Int32) (pF : Nat → Int32) (pL : Nat → Int32) (st : Nat → Int32) (tm : Int32) (qt : Int32) (cm : Int32) (ds : Int32) (dr : Int32) (bC : Nat → Int32) (pFC : Nat → Int32) (pLC : Nat → Int32) (stC : Nat → Int32) (tmC : Int32) (qtC : Int32) (cmC : Int32) (dsC : Int32) (drC : Int32) (ol : Int32) (pz : Int32) (dvs : Nat → zDv) (us : Nat → Int32) (bS : Nat → Int32) (pFS : Nat → Int32) (pLS : Nat → Int32) (stS : Nat → Int32) (tmS : Int32) (qtS : Int32) (cmS : Int32) (dsS : Int32) (drS : Int32) (bT : Nat → Int32) (pFT : Nat → Int32) (pLT : Nat → Int32) (stT : Nat → Int32) (tmT : Int32) (qtT : Int32) (cmT : Int32) (dsT : Int32) (drT : Int32) (a1 : Int32) (a2 : Int32) (htr : l.stackTraces = false) {k : Int32} {r : Int32} {bC' : Nat → Int32} {pFC' : Nat → Int32} {pLC' : Nat → Int32} {stC' : Nat → Int32} {tmC' : Int32} {qtC' : Int32} {cmC' : Int32} {dsC' : Int32} {drC' : Int32} (h : fX3_coming b pF pL st tm qt cm ds dr bC pFC pLC stC tmC qtC cmC dsC drC a1 a2 = some (k, r, bC', pFC', pLC', stC', tmC', qtC', cmC', dsC', drC')) : Mx l g yX3_coming wsX3_coming { frames := 7, cells := 2, slots := 12, locals := 123 } [.ref h0, .int a1, .int a2] (zI g h0 xt0 xt1 xt2 xd0 xd1 xd2 xd3 xd4 xc0 xc1 xc2 xc3 xc4 xp0 xp1 xs0 xu0 xe0 xe1 xe2 xe3 xe4 xf0 xf1 xf2 xf3 xf4 ad ch nu le ta lt b pF pL st tm qt cm ds dr bC pFC pLC stC tmC qtC cmC dsC drC ol pz dvs us bS pFS pLS stS tmS qtS cmS dsS drS bT pFT pLT stT tmT qtT cmT dsT drT) (zXi g (zI g h0 xt0 xt1 xt2 xd0 xd1 xd2 xd3 xd4 xc0 xc1 xc2 xc3 xc4 xp0 xp1 xs0 xu0 xe0 xe1 xe2 xe3 xe4 xf0 xf1 xf2 xf3 xf4 ad ch nu le ta lt b pF pL st tm qt cm ds dr bC' pFC' pLC' stC' tmC' qtC' cmC' dsC' drC' ol pz dvs us bS pFS pLS stS tmS qtS cmS dsS drS bT pFT pLT stT tmT qtT cmT dsT drT) k r) (zXx g (zI g h0 xt0 xt1 xt2 xd0 xd1 xd2 xd3 xd4 xc0 xc1 xc2 xc3 xc4 xp0 xp1 xs0 xu0 xe0 xe1 xe2 xe3 xe4 xf0 xf1 xf2 xf3 xf4 ad ch nu le ta lt b pF pL st tm qt cm ds dr bC' pFC' pLC' stC' tmC' qtC' cmC' dsC' drC' ol pz dvs us bS pFS pLS stS tmS qtS cmS dsS drS bT pFT pLT stT tmT qtT cmT dsT drT) k) 2 12 := by
  refine zx_in (cc := cX3_coming) (maxL := 4) (ret := (some .int)) (by decide) rfl (Nat.le_of_ble_eq_true rfl) ?_
  intro p e s m below meth c hx hb hr hml hts hown hlocks hK ht A hA hP hD hS hAm ls hl
  replace hl : lv_has ls 4 [(0, .ref h0), (1, .int a1), (2, .int a2)] := hl
  unfold fX3_coming at h
  refine lv_iload_n hx hb dX3_coming_0 rfl (lv_at hl 1 rfl) ?_
  refine lv_bipush (v := 100) hx hb dX3_coming_1 (by decide) ?_
  obtain ⟨k1, e1, h⟩ := zb h
  refine zSx (As := [.int a1, .int 100]) (rest := []) (zXv_q g _ _) (zXx_q g _ _) ⟨hx, hb, hml, hown, hts⟩ (kX3_checkTicks l g a1 100 htr e1) (va_cwS 2 hts gX3_coming_X3_checkTicks rfl rfl rfl hdS_X3_checkTicks ⟨Nat.le_of_ble_eq_true rfl, Nat.le_of_ble_eq_true rfl⟩) hK hP hD hS hA hAm [] (by decide) rfl rfl rfl hl.1 rfl (Nat.le_of_ble_eq_true rfl) ⟨Nat.le_of_ble_eq_true rfl, Nat.le_of_ble_eq_true rfl⟩ dX3_coming_3 (fun c1 H locs q ce hP hD hS hq1 hq2 hq3 => ?_) (fun c1 H locs hP hD hS => ?_)
  · replace h := zf c1 h
    replace hP : zP g (zI g h0 xt0 xt1 xt2 xd0 xd1 xd2 xd3 xd4 xc0 xc1 xc2 xc3 xc4 xp0 xp1 xs0 xu0 xe0 xe1 xe2 xe3 xe4 xf0 xf1 xf2 xf3 xf4 ad ch nu le ta lt b pF pL st tm qt cm ds dr bC pFC pLC stC tmC qtC cmC dsC drC ol pz dvs us bS pFS pLS stS tmS qtS cmS dsS drS bT pFT pLT stT tmT qtT cmT dsT drT) H := hP
    cases h
    exact zx_out ht hlocks c1 hP hS hq1 hq2 hq3 (by decide) (by decide)
  · replace h := zt c1 h
    replace hP : zP g (zI g h0 xt0 xt1 xt2 xd0 xd1 xd2 xd3 xd4 xc0 xc1 xc2 xc3 xc4 xp0 xp1 xs0 xu0 xe0 xe1 xe2 xe3 xe4 xf0 xf1 xf2 xf3 xf4 ad ch nu le ta lt b pF pL st tm qt cm ds dr bC pFC pLC stC tmC qtC cmC dsC drC ol pz dvs us bS pFS pLS stS tmS qtS cmS dsS drS bT pFT pLT stT tmT qtT cmT dsT drT) H := hP
    replace hD : va_D A (zI g h0 xt0 xt1 xt2 xd0 xd1 xd2 xd3 xd4 xc0 xc1 xc2 xc3 xc4 xp0 xp1 xs0 xu0 xe0 xe1 xe2 xe3 xe4 xf0 xf1 xf2 xf3 xf4 ad ch nu le ta lt b pF pL st tm qt cm ds dr bC pFC pLC stC tmC qtC cmC dsC drC ol pz dvs us bS pFS pLS stS tmS qtS cmS dsS drS bT pFT pLT stT tmT qtT cmT dsT drT) := hD
    refine lv_iload_n hx hb dX3_coming_6 rfl (lv_at hl 2 rfl) ?_
    refine lv_if_lt (tgt := 15) hx hb dX3_coming_7 (by decide) (fun c2 => ?_) (fun c2 => ?_)
    · replace h := zt c2 h
      cases h
      exact zx_throwW (text := "no such number of ticks to come") hx hb htr hown hts (by decide) zEx_2 mX3_coming_k41 mX3_coming_j41 mX3_coming_a41 zEb_2 zEg_2_41 zEf_2 zEn (by decide +kernel) hAm hP hS (hl.1.trans hml.symm) dX3_coming_15 dX3_coming_18 dX3_coming_19 dX3_coming_22 dX3_coming_25 ht (Nat.le_of_ble_eq_true rfl) (Nat.le_of_ble_eq_true rfl) (Nat.le_of_ble_eq_true rfl) (Nat.le_of_ble_eq_true rfl) hlocks (by decide) (by decide)
    · replace h := zf c2 h
      refine lv_iload_n hx hb dX3_coming_10 rfl (lv_at hl 2 rfl) ?_
      refine lv_iconst (v := 3) hx hb dX3_coming_11 (by decide) ?_
      refine lv_icmp_le (tgt := 26) hx hb dX3_coming_12 (by decide) (fun c3 => ?_) (fun c3 => ?_)
      · replace h := zt c3 h
        refine lv_aload_n hx hb dX3_coming_26 rfl (lv_at hl 0 rfl) ?_
        refine va_get (ci := 3) (v := .ref xc0) (C := RX3) (T := TX3) (N := 6) hx hb hts uX3_coming_X3 hown hK hP 0 rfl rfl 2 (by decide) (hts _ mX3_coming_23) (fun _ h9 => h9) rfl dX3_coming_27 ?_
        refine lv_aload_n hx hb dX3_coming_30 rfl (lv_at hl 0 rfl) ?_
        refine va_get (ci := 3) (v := .ref xd0) (C := RX3) (T := TX3) (N := 6) hx hb hts uX3_coming_X3 hown hK hP 0 rfl rfl 1 (by decide) (hts _ mX3_coming_19) (fun _ h9 => h9) rfl dX3_coming_31 ?_
        obtain ⟨bC4, pFC4, pLC4, stC4, tmC4, qtC4, cmC4, dsC4, drC4, e4, h⟩ := zb9 h
        refine zVw (As := [.ref xd0]) (rest := []) (zWv_q g _) ⟨hx, hb, hml, hown, hts⟩ (kX0_copyFrom l g xc0 xc1 xc2 xc3 xc4 xd0 xd1 xd2 xd3 xd4 bC pFC pLC stC tmC qtC cmC dsC drC b pF pL st tm qt cm ds dr e4) (cwV 1 hts gX3_coming_X0_copyFrom rfl rfl rfl hdV_X0_copyFrom ⟨Nat.le_of_ble_eq_true rfl, Nat.le_of_ble_eq_true rfl⟩) hK hP hD hS hA [9, 10, 11, 12, 13, 4, 5, 6, 7, 8] (by decide) rfl rfl 9 rfl rfl rfl hl.1 rfl (Nat.le_of_ble_eq_true rfl) ⟨Nat.le_of_ble_eq_true rfl, Nat.le_of_ble_eq_true rfl⟩ dX3_coming_34 (fun H locs hP hD hS => ?_)
        replace hP : zP g (zI g h0 xt0 xt1 xt2 xd0 xd1 xd2 xd3 xd4 xc0 xc1 xc2 xc3 xc4 xp0 xp1 xs0 xu0 xe0 xe1 xe2 xe3 xe4 xf0 xf1 xf2 xf3 xf4 ad ch nu le ta lt b pF pL st tm qt cm ds dr bC4 pFC4 pLC4 stC4 tmC4 qtC4 cmC4 dsC4 drC4 ol pz dvs us bS pFS pLS stS tmS qtS cmS dsS drS bT pFT pLT stT tmT qtT cmT dsT drT) H := hP
        replace hD : va_D A (zI g h0 xt0 xt1 xt2 xd0 xd1 xd2 xd3 xd4 xc0 xc1 xc2 xc3 xc4 xp0 xp1 xs0 xu0 xe0 xe1 xe2 xe3 xe4 xf0 xf1 xf2 xf3 xf4 ad ch nu le ta lt b pF pL st tm qt cm ds dr bC4 pFC4 pLC4 stC4 tmC4 qtC4 cmC4 dsC4 drC4 ol pz dvs us bS pFS pLS stS tmS qtS cmS dsS drS bT pFT pLT stT tmT qtT cmT dsT drT) := hD
        refine lv_aload_n hx hb dX3_coming_37 rfl (lv_at hl 0 rfl) ?_
        refine va_get (ci := 3) (v := .ref xc0) (C := RX3) (T := TX3) (N := 6) hx hb hts uX3_coming_X3 hown hK hP 0 rfl rfl 2 (by decide) (hts _ mX3_coming_23) (fun _ h9 => h9) rfl dX3_coming_38 ?_
        refine lv_iload_n hx hb dX3_coming_41 rfl (lv_at hl 1 rfl) ?_
        obtain ⟨r5, bC5, tmC5, qtC5, cmC5, dsC5, drC5, e5, h⟩ := zb7 h
        refine zVw (As := [.int a1]) (rest := []) (zWi_q g _ _) ⟨hx, hb, hml, hown, hts⟩ (kX0_passTicks l g xc0 xc1 xc2 xc3 xc4 bC4 pFC4 pLC4 stC4 tmC4 qtC4 cmC4 dsC4 drC4 a1 e5) (cwV 1 hts gX3_coming_X0_passTicks rfl rfl rfl hdV_X0_passTicks ⟨Nat.le_of_ble_eq_true rfl, Nat.le_of_ble_eq_true rfl⟩) hK hP hD hS hA [9, 10, 11, 12, 13] (by decide) rfl rfl 9 rfl rfl rfl hl.1 rfl (Nat.le_of_ble_eq_true rfl) ⟨Nat.le_of_ble_eq_true rfl, Nat.le_of_ble_eq_true rfl⟩ dX3_coming_42 (fun H locs hP hD hS => ?_)
        replace hP : zP g (zI g h0 xt0 xt1 xt2 xd0 xd1 xd2 xd3 xd4 xc0 xc1 xc2 xc3 xc4 xp0 xp1 xs0 xu0 xe0 xe1 xe2 xe3 xe4 xf0 xf1 xf2 xf3 xf4 ad ch nu le ta lt b pF pL st tm qt cm ds dr bC5 pFC4 pLC4 stC4 tmC5 qtC5 cmC5 dsC5 drC5 ol pz dvs us bS pFS pLS stS tmS qtS cmS dsS drS bT pFT pLT stT tmT qtT cmT dsT drT) H := hP
        replace hD : va_D A (zI g h0 xt0 xt1 xt2 xd0 xd1 xd2 xd3 xd4 xc0 xc1 xc2 xc3 xc4 xp0 xp1 xs0 xu0 xe0 xe1 xe2 xe3 xe4 xf0 xf1 xf2 xf3 xf4 ad ch nu le ta lt b pF pL st tm qt cm ds dr bC5 pFC4 pLC4 stC4 tmC5 qtC5 cmC5 dsC5 drC5 ol pz dvs us bS pFS pLS stS tmS qtS cmS dsS drS bT pFT pLT stT tmT qtT cmT dsT drT) := hD
        refine lv_istore_n (lv' := [(3, .int r5), (0, .ref h0), (1, .int a1), (2, .int a2)]) hx hb dX3_coming_45 rfl hl (by decide) rfl (fun ls hl => ?_)
        refine lv_iload_n hx hb dX3_coming_46 rfl (lv_at hl 3 rfl) ?_
        by_cases c6 : a2 = 0
        · replace h := zt c6 h
          refine lv_tableIn (tgt := 72) (off := 25) hx hb dX3_coming_47 (by rw [c6]; decide) (by rw [c6]; decide) (by rw [c6]; rfl) (by decide) ?_
          refine lv_iload_n hx hb dX3_coming_72 rfl (lv_at hl 0 rfl) ?_
          cases h
          exact zx_i hx hb hr hlocks hP hS (by decide) (by decide) dX3_coming_73
        replace h := zf c6 h
        by_cases c7 : a2 = 1
        · replace h := zt c7 h
          refine lv_tableIn (tgt := 74) (off := 27) hx hb dX3_coming_47 (by rw [c7]; decide) (by rw [c7]; decide) (by rw [c7]; rfl) (by decide) ?_
          refine lv_aload_n hx hb dX3_coming_74 rfl (lv_at hl 1 rfl) ?_
          refine va_get (ci := 3) (v := .ref xc0) (C := RX3) (T := TX3) (N := 6) hx hb hts uX3_coming_X3 hown hK hP 0 rfl rfl 2 (by decide) (hts _ mX3_coming_23) (fun _ h9 => h9) rfl dX3_coming_75 ?_
          obtain ⟨r8, e8, h⟩ := zb h
          refine zV (As := []) (rest := []) (zQi_q _) ⟨hx, hb, hml, hown, hts⟩ (kX0_commands l g xc0 xc1 xc2 xc3 xc4 bC5 pFC4 pLC4 stC4 tmC5 qtC5 cmC5 dsC5 drC5 e8) (cwV 0 hts gX3_coming_X0_commands rfl rfl rfl hdV_X0_commands ⟨Nat.le_of_ble_eq_true rfl, Nat.le_of_ble_eq_true rfl⟩) hK hP [9, 10, 11, 12, 13] rfl 9 rfl rfl rfl hl.1 rfl (Nat.le_of_ble_eq_true rfl) ⟨Nat.le_of_ble_eq_true rfl, Nat.le_of_ble_eq_true rfl⟩ dX3_coming_78 ?_
          refine lv_aload_n hx hb dX3_coming_81 rfl (lv_at hl 1 rfl) ?_
          refine va_get (ci := 3) (v := .ref xd0) (C := RX3) (T := TX3) (N := 6) hx hb hts uX3_coming_X3 hown hK hP 0 rfl rfl 1 (by decide) (hts _ mX3_coming_19) (fun _ h9 => h9) rfl dX3_coming_82 ?_
          obtain ⟨r9, e9, h⟩ := zb h
          refine zV (As := []) (rest := [.int r8]) (zQi_q _) ⟨hx, hb, hml, hown, hts⟩ (kX0_commands l g xd0 xd1 xd2 xd3 xd4 b pF pL st tm qt cm ds dr e9) (cwV 0 hts gX3_coming_X0_commands rfl rfl rfl hdV_X0_commands ⟨Nat.le_of_ble_eq_true rfl, Nat.le_of_ble_eq_true rfl⟩) hK hP [4, 5, 6, 7, 8] rfl 4 rfl rfl rfl hl.1 rfl (Nat.le_of_ble_eq_true rfl) ⟨Nat.le_of_ble_eq_true rfl, Nat.le_of_ble_eq_true rfl⟩ dX3_coming_85 ?_
          refine lv_isub hx hb dX3_coming_88 ?_
          cases h
          exact zx_i hx hb hr hlocks hP hS (by decide) (by decide) dX3_coming_89
        replace h := zf c7 h
        by_cases c10 : a2 = 2
        · replace h := zt c10 h
          refine lv_tableIn (tgt := 90) (off := 43) hx hb dX3_coming_47 (by rw [c10]; decide) (by rw [c10]; decide) (by rw [c10]; rfl) (by decide) ?_
          refine lv_aload_n hx hb dX3_coming_90 rfl (lv_at hl 1 rfl) ?_
          refine va_get (ci := 3) (v := .ref xc0) (C := RX3) (T := TX3) (N := 6) hx hb hts uX3_coming_X3 hown hK hP 0 rfl rfl 2 (by decide) (hts _ mX3_coming_23) (fun _ h9 => h9) rfl dX3_coming_91 ?_
          obtain ⟨r11, e11, h⟩ := zb h
          refine zV (As := []) (rest := []) (zQi_q _) ⟨hx, hb, hml, hown, hts⟩ (kX0_countRanges l g xc0 xc1 xc2 xc3 xc4 bC5 pFC4 pLC4 stC4 tmC5 qtC5 cmC5 dsC5 drC5 e11) (cwV 0 hts gX3_coming_X0_countRanges rfl rfl rfl hdV_X0_countRanges ⟨Nat.le_of_ble_eq_true rfl, Nat.le_of_ble_eq_true rfl⟩) hK hP [9, 10, 11, 12, 13] rfl 9 rfl rfl rfl hl.1 rfl (Nat.le_of_ble_eq_true rfl) ⟨Nat.le_of_ble_eq_true rfl, Nat.le_of_ble_eq_true rfl⟩ dX3_coming_94 ?_
          cases h
          exact zx_i hx hb hr hlocks hP hS (by decide) (by decide) dX3_coming_97
        replace h := zf c10 h
        refine lv_tableOut (tgt := 98) hx hb dX3_coming_47 (by have n6 := lv_neT (a := 0) c6 (by decide); have n7 := lv_neT (a := 1) c7 (by decide); have n10 := lv_neT (a := 2) c10 (by decide); omega) (by decide) ?_
        refine lv_aload_n hx hb dX3_coming_98 rfl (lv_at hl 1 rfl) ?_
        refine va_get (ci := 3) (v := .ref xc0) (C := RX3) (T := TX3) (N := 6) hx hb hts uX3_coming_X3 hown hK hP 0 rfl rfl 2 (by decide) (hts _ mX3_coming_23) (fun _ h9 => h9) rfl dX3_coming_99 ?_
        obtain ⟨r12, e12, h⟩ := zb h
        refine zV (As := []) (rest := []) (zQi_q _) ⟨hx, hb, hml, hown, hts⟩ (kX0_countQueued l g xc0 xc1 xc2 xc3 xc4 bC5 pFC4 pLC4 stC4 tmC5 qtC5 cmC5 dsC5 drC5 e12) (cwV 0 hts gX3_coming_X0_countQueued rfl rfl rfl hdV_X0_countQueued ⟨Nat.le_of_ble_eq_true rfl, Nat.le_of_ble_eq_true rfl⟩) hK hP [9, 10, 11, 12, 13] rfl 9 rfl rfl rfl hl.1 rfl (Nat.le_of_ble_eq_true rfl) ⟨Nat.le_of_ble_eq_true rfl, Nat.le_of_ble_eq_true rfl⟩ dX3_coming_102 ?_
        cases h
        exact zx_i hx hb hr hlocks hP hS (by decide) (by decide) dX3_coming_105
      · replace h := zf c3 h
        cases h
        exact zx_throwW (text := "no such number of ticks to come") hx hb htr hown hts (by decide) zEx_2 mX3_coming_k41 mX3_coming_j41 mX3_coming_a41 zEb_2 zEg_2_41 zEf_2 zEn (by decide +kernel) hAm hP hS (hl.1.trans hml.symm) dX3_coming_15 dX3_coming_18 dX3_coming_19 dX3_coming_22 dX3_coming_25 ht (Nat.le_of_ble_eq_true rfl) (Nat.le_of_ble_eq_true rfl) (Nat.le_of_ble_eq_true rfl) (Nat.le_of_ble_eq_true rfl) hlocks (by decide) (by decide)
def fX3_bestGranule_13 (b : Nat → Int32) (pF : Nat → Int32) (pL : Nat → Int32) (st : Nat → Int32) (tm : Int32) (qt : Int32) (cm : Int32) (ds : Int32) (dr : Int32) : Nat → Int32 → Int32 → Int32 → Int32 → (Nat → Int32) → (Nat → Int32) → (Nat → Int32) → (Nat → Int32) → (Int32) → (Int32) → (Int32) → (Int32) → (Int32) → Option (Int32 × Int32 × (Nat → Int32) × (Nat → Int32) × (Nat → Int32) × (Nat → Int32) × (Int32) × (Int32) × (Int32) × (Int32) × (Int32))
  | 0, _, _, _, _, _, _, _, _, _, _, _, _, _ => none
  | n + 1, v1, v2, v3, v4, bC, pFC, pLC, stC, tmC, qtC, cmC, dsC, drC =>
    if (zGs 0) < v4 then
        some (0, v2, bC, pFC, pLC, stC, tmC, qtC, cmC, dsC, drC)
      else
        ob9 (fX0_copyFrom bC pFC pLC stC b pF pL st tm qt cm ds dr) fun bC2 pFC2 pLC2 stC2 tmC2 qtC2 cmC2 dsC2 drC2 =>
        ob (fX0_changeSetting stC2 0 v4) fun stC3 =>
        ob7 (fX0_passTicks bC2 pFC2 pLC2 stC3 tmC2 qtC2 cmC2 dsC2 drC2 v1) fun r4 bC4 tmC4 qtC4 cmC4 dsC4 drC4 =>
        if r4 < v3 then
          fX3_bestGranule_13 b pF pL st tm qt cm ds dr n v1 v2 v3 (v4 + 1) bC4 pFC2 pLC2 stC3 tmC4 qtC4 cmC4 dsC4 drC4
        else
          fX3_bestGranule_13 b pF pL st tm qt cm ds dr n v1 v4 r4 (v4 + 1) bC4 pFC2 pLC2 stC3 tmC4 qtC4 cmC4 dsC4 drC4
def fX3_bestGranule (b : Nat → Int32) (pF : Nat → Int32) (pL : Nat → Int32) (st : Nat → Int32) (tm : Int32) (qt : Int32) (cm : Int32) (ds : Int32) (dr : Int32) (bC : Nat → Int32) (pFC : Nat → Int32) (pLC : Nat → Int32) (stC : Nat → Int32) (tmC : Int32) (qtC : Int32) (cmC : Int32) (dsC : Int32) (drC : Int32) (a1 : Int32) : Option (Int32 × Int32 × (Nat → Int32) × (Nat → Int32) × (Nat → Int32) × (Nat → Int32) × (Int32) × (Int32) × (Int32) × (Int32) × (Int32)) :=
  ob (fX3_checkTicks a1 60) fun k6 =>
  if k6 = 0 then
    fX3_bestGranule_13 b pF pL st tm qt cm ds dr 1000 a1 0 0 0 bC pFC pLC stC tmC qtC cmC dsC drC
  else some (k6, 0, bC, pFC, pLC, stC, tmC, qtC, cmC, dsC, drC)
theorem mX3_bestGranule_273 : Cond.fieldLink RX3 273 "IdleDiscards" "GREATEST_SETTINGS" "[I" ∈ wsX3_bestGranule := by decide +kernel
theorem mX3_bestGranule_23 : Cond.fieldLink RX3 23 "IdleDiscards" "copy" "LIdleDiscards$Device;" ∈ wsX3_bestGranule := by decide +kernel
theorem uX3_bestGranule_X3 : ∀ w ∈ wsX30, w ∈ wsX3_bestGranule := by decide +kernel
theorem mX3_bestGranule_19 : Cond.fieldLink RX3 19 "IdleDiscards" "device" "LIdleDiscards$Device;" ∈ wsX3_bestGranule := by decide +kernel
set_option maxRecDepth 100000 in
set_option maxHeartbeats 4000000 in
theorem kX3_bestGranule (l : Launch) (g : zG) (h0 xt0 xt1 xt2 xd0 xd1 xd2 xd3 xd4 xc0 xc1 xc2 xc3 xc4 xp0 xp1 xs0 xu0 xe0 xe1 xe2 xe3 xe4 xf0 xf1 xf2 xf3 xf4 : Nat) (ad : Nat → Nat → Nat) (ch : Nat → Int32) (nu : Nat → Int32) (le : Int32) (ta : Int32) (lt : Int32) (b : Nat → Int32) (pF : Nat → Int32) (pL : Nat → Int32) (st : Nat → Int32) (tm : Int32) (qt : Int32) (cm : Int32) (ds : Int32) (dr : Int32) (bC : Nat → Int32) (pFC : Nat → Int32) (pLC : Nat → Int32) (stC : Nat → Int32) (tmC : Int32) (qtC : Int32) (cmC : Int32) (dsC : Int32) (drC : Int32) (ol : Int32) (pz : Int32) (dvs : Nat → zDv) (us : Nat → Int32) (bS : Nat → Int32) (pFS : Nat → Int32) (pLS : Nat → Int32) (stS : Nat → Int32) (tmS : Int32) (qtS : Int32) (cmS : Int32) (dsS : Int32) (drS : Int32) (bT : Nat → Int32) (pFT : Nat → Int32) (pLT : Nat → Int32) (stT : Nat → Int32) (tmT : Int32) (qtT : Int32) (cmT : Int32) (dsT : Int32) (drT : Int32) (a1 : Int32) (htr : l.stackTraces = false) {k : Int32} {r : Int32} {bC' : Nat → Int32} {pFC' : Nat → Int32} {pLC' : Nat → Int32} {stC' : Nat → Int32} {tmC' : Int32} {qtC' : Int32} {cmC' : Int32} {dsC' : Int32} {drC' : Int32} (h : fX3_bestGranule b pF pL st tm qt cm ds dr bC pFC pLC stC tmC qtC cmC dsC drC a1 = some (k, r, bC', pFC', pLC', stC', tmC', qtC', cmC', dsC', drC')) : Mx l g yX3_bestGranule wsX3_bestGranule { frames := 7, cells := 1, slots := 6, locals := 123 } [.ref h0, .int a1] (zI g h0 xt0 xt1 xt2 xd0 xd1 xd2 xd3 xd4 xc0 xc1 xc2 xc3 xc4 xp0 xp1 xs0 xu0 xe0 xe1 xe2 xe3 xe4 xf0 xf1 xf2 xf3 xf4 ad ch nu le ta lt b pF pL st tm qt cm ds dr bC pFC pLC stC tmC qtC cmC dsC drC ol pz dvs us bS pFS pLS stS tmS qtS cmS dsS drS bT pFT pLT stT tmT qtT cmT dsT drT) (zXi g (zI g h0 xt0 xt1 xt2 xd0 xd1 xd2 xd3 xd4 xc0 xc1 xc2 xc3 xc4 xp0 xp1 xs0 xu0 xe0 xe1 xe2 xe3 xe4 xf0 xf1 xf2 xf3 xf4 ad ch nu le ta lt b pF pL st tm qt cm ds dr bC' pFC' pLC' stC' tmC' qtC' cmC' dsC' drC' ol pz dvs us bS pFS pLS stS tmS qtS cmS dsS drS bT pFT pLT stT tmT qtT cmT dsT drT) k r) (zXx g (zI g h0 xt0 xt1 xt2 xd0 xd1 xd2 xd3 xd4 xc0 xc1 xc2 xc3 xc4 xp0 xp1 xs0 xu0 xe0 xe1 xe2 xe3 xe4 xf0 xf1 xf2 xf3 xf4 ad ch nu le ta lt b pF pL st tm qt cm ds dr bC' pFC' pLC' stC' tmC' qtC' cmC' dsC' drC' ol pz dvs us bS pFS pLS stS tmS qtS cmS dsS drS bT pFT pLT stT tmT qtT cmT dsT drT) k) 1 6 := by
  refine zx_in (cc := cX3_bestGranule) (maxL := 6) (ret := (some .int)) (by decide) rfl (Nat.le_of_ble_eq_true rfl) ?_
  intro p e s m below meth c hx hb hr hml hts hown hlocks hK ht A hA hP hD hS hAm ls hl
  replace hl : lv_has ls 6 [(0, .ref h0), (1, .int a1)] := hl
  obtain ⟨⟨tg1, hZ1, hT1⟩, ⟨tg2, hZ2, hT2⟩, -⟩ := id hAm
  have loop_13 : ∀ (n : Nat) (v1 : Int32) (v2 : Int32) (v3 : Int32) (v4 : Int32) (bC : (Nat → Int32)) (pFC : (Nat → Int32)) (pLC : (Nat → Int32)) (stC : (Nat → Int32)) (tmC : (Int32)) (qtC : (Int32)) (cmC : (Int32)) (dsC : (Int32)) (drC : (Int32)), fX3_bestGranule_13 b pF pL st tm qt cm ds dr n v1 v2 v3 v4 bC pFC pLC stC tmC qtC cmC dsC drC = some (k, r, bC', pFC', pLC', stC', tmC', qtC', cmC', dsC', drC') → ∀ (H : Heap) (locs : List Loc), zP g (zI g h0 xt0 xt1 xt2 xd0 xd1 xd2 xd3 xd4 xc0 xc1 xc2 xc3 xc4 xp0 xp1 xs0 xu0 xe0 xe1 xe2 xe3 xe4 xf0 xf1 xf2 xf3 xf4 ad ch nu le ta lt b pF pL st tm qt cm ds dr bC pFC pLC stC tmC qtC cmC dsC drC ol pz dvs us bS pFS pLS stS tmS qtS cmS dsS drS bT pFT pLT stT tmT qtT cmT dsT drT) H → va_D A (zI g h0 xt0 xt1 xt2 xd0 xd1 xd2 xd3 xd4 xc0 xc1 xc2 xc3 xc4 xp0 xp1 xs0 xu0 xe0 xe1 xe2 xe3 xe4 xf0 xf1 xf2 xf3 xf4 ad ch nu le ta lt b pF pL st tm qt cm ds dr bC pFC pLC stC tmC qtC cmC dsC drC ol pz dvs us bS pFS pLS stS tmS qtS cmS dsS drS bT pFT pLT stT tmT qtT cmT dsT drT) → va_S A s.heap H locs → ∀ (ls : Array Slot), lv_has ls 6 [(0, .ref h0), (1, .int v1), (2, .int v2), (3, .int v3), (4, .int v4)] → W p l e ({ frames := 7, cells := 1, slots := 6, locals := 123 } : Room) s m [.ref h0, .int a1].toArray below meth c H locs 1 6 (vx_MQ below (zXi g (zI g h0 xt0 xt1 xt2 xd0 xd1 xd2 xd3 xd4 xc0 xc1 xc2 xc3 xc4 xp0 xp1 xs0 xu0 xe0 xe1 xe2 xe3 xe4 xf0 xf1 xf2 xf3 xf4 ad ch nu le ta lt b pF pL st tm qt cm ds dr bC' pFC' pLC' stC' tmC' qtC' cmC' dsC' drC' ol pz dvs us bS pFS pLS stS tmS qtS cmS dsS drS bT pFT pLT stT tmT qtT cmT dsT drT) k r A) (zXx g (zI g h0 xt0 xt1 xt2 xd0 xd1 xd2 xd3 xd4 xc0 xc1 xc2 xc3 xc4 xp0 xp1 xs0 xu0 xe0 xe1 xe2 xe3 xe4 xf0 xf1 xf2 xf3 xf4 ad ch nu le ta lt b pF pL st tm qt cm ds dr bC' pFC' pLC' stC' tmC' qtC' cmC' dsC' drC' ol pz dvs us bS pFS pLS stS tmS qtS cmS dsS drS bT pFT pLT stT tmT qtT cmT dsT drT) k A) [.ref h0, .int a1].toArray s 1 6 A) (F0 m 13 ls []) := by
    intro n
    induction n with
    | zero => intro v1 v2 v3 v4 bC pFC pLC stC tmC qtC cmC dsC drC h H locs hP hD hS ls hl; exact zn h
    | succ n ih =>
      intro v1 v2 v3 v4 bC pFC pLC stC tmC qtC cmC dsC drC h H locs hP hD hS ls hl
      rw [fX3_bestGranule_13] at h
      refine lv_iload hx hb dX3_bestGranule_13 (lv_at hl 4 rfl) ?_
      refine va_gets hx hb hZ2 hS hown (hts _ mX3_bestGranule_273) (fun _ h9 => h9) dX3_bestGranule_15 ?_
      refine lv_iconst (v := 0) hx hb dX3_bestGranule_18 (by decide) ?_
      refine va_ti (v := .int (zGs 0)) hx hb hT2 hS (show ¬ ((0 : Int32) < 0 ∨ 6 ≤ Int32.toNatClampNeg 0) by decide) rfl dX3_bestGranule_19 ?_
      refine lv_icmp_gt (tgt := 72) hx hb dX3_bestGranule_20 (by decide) (fun c1 => ?_) (fun c1 => ?_)
      · replace h := zt c1 h
        refine lv_iload_n hx hb dX3_bestGranule_72 rfl (lv_at hl 2 rfl) ?_
        cases h
        exact zx_i hx hb hr hlocks hP hS (by decide) (by decide) dX3_bestGranule_73
      · replace h := zf c1 h
        refine lv_aload_n hx hb dX3_bestGranule_23 rfl (lv_at hl 0 rfl) ?_
        refine va_get (ci := 3) (v := .ref xc0) (C := RX3) (T := TX3) (N := 6) hx hb hts uX3_bestGranule_X3 hown hK hP 0 rfl rfl 2 (by decide) (hts _ mX3_bestGranule_23) (fun _ h9 => h9) rfl dX3_bestGranule_24 ?_
        refine lv_aload_n hx hb dX3_bestGranule_27 rfl (lv_at hl 0 rfl) ?_
        refine va_get (ci := 3) (v := .ref xd0) (C := RX3) (T := TX3) (N := 6) hx hb hts uX3_bestGranule_X3 hown hK hP 0 rfl rfl 1 (by decide) (hts _ mX3_bestGranule_19) (fun _ h9 => h9) rfl dX3_bestGranule_28 ?_
        obtain ⟨bC2, pFC2, pLC2, stC2, tmC2, qtC2, cmC2, dsC2, drC2, e2, h⟩ := zb9 h
        refine zVw (As := [.ref xd0]) (rest := []) (zWv_q g _) ⟨hx, hb, hml, hown, hts⟩ (kX0_copyFrom l g xc0 xc1 xc2 xc3 xc4 xd0 xd1 xd2 xd3 xd4 bC pFC pLC stC tmC qtC cmC dsC drC b pF pL st tm qt cm ds dr e2) (cwV 1 hts gX3_bestGranule_X0_copyFrom rfl rfl rfl hdV_X0_copyFrom ⟨Nat.le_of_ble_eq_true rfl, Nat.le_of_ble_eq_true rfl⟩) hK hP hD hS hA [9, 10, 11, 12, 13, 4, 5, 6, 7, 8] (by decide) rfl rfl 9 rfl rfl rfl hl.1 rfl (Nat.le_of_ble_eq_true rfl) ⟨Nat.le_of_ble_eq_true rfl, Nat.le_of_ble_eq_true rfl⟩ dX3_bestGranule_31 (fun H locs hP hD hS => ?_)
        replace hP : zP g (zI g h0 xt0 xt1 xt2 xd0 xd1 xd2 xd3 xd4 xc0 xc1 xc2 xc3 xc4 xp0 xp1 xs0 xu0 xe0 xe1 xe2 xe3 xe4 xf0 xf1 xf2 xf3 xf4 ad ch nu le ta lt b pF pL st tm qt cm ds dr bC2 pFC2 pLC2 stC2 tmC2 qtC2 cmC2 dsC2 drC2 ol pz dvs us bS pFS pLS stS tmS qtS cmS dsS drS bT pFT pLT stT tmT qtT cmT dsT drT) H := hP
        replace hD : va_D A (zI g h0 xt0 xt1 xt2 xd0 xd1 xd2 xd3 xd4 xc0 xc1 xc2 xc3 xc4 xp0 xp1 xs0 xu0 xe0 xe1 xe2 xe3 xe4 xf0 xf1 xf2 xf3 xf4 ad ch nu le ta lt b pF pL st tm qt cm ds dr bC2 pFC2 pLC2 stC2 tmC2 qtC2 cmC2 dsC2 drC2 ol pz dvs us bS pFS pLS stS tmS qtS cmS dsS drS bT pFT pLT stT tmT qtT cmT dsT drT) := hD
        refine lv_aload_n hx hb dX3_bestGranule_34 rfl (lv_at hl 0 rfl) ?_
        refine va_get (ci := 3) (v := .ref xc0) (C := RX3) (T := TX3) (N := 6) hx hb hts uX3_bestGranule_X3 hown hK hP 0 rfl rfl 2 (by decide) (hts _ mX3_bestGranule_23) (fun _ h9 => h9) rfl dX3_bestGranule_35 ?_
        refine lv_iconst (v := 0) hx hb dX3_bestGranule_38 (by decide) ?_
        refine lv_iload hx hb dX3_bestGranule_39 (lv_at hl 4 rfl) ?_
        obtain ⟨stC3, e3, h⟩ := zb h
        refine zVw (As := [.int 0, .int v4]) (rest := []) (zWv_q g _) ⟨hx, hb, hml, hown, hts⟩ (kX0_changeSetting l g xc0 xc1 xc2 xc3 xc4 bC2 pFC2 pLC2 stC2 tmC2 qtC2 cmC2 dsC2 drC2 0 v4 e3) (cwV 2 hts gX3_bestGranule_X0_changeSetting rfl rfl rfl hdV_X0_changeSetting ⟨Nat.le_of_ble_eq_true rfl, Nat.le_of_ble_eq_true rfl⟩) hK hP hD hS hA [9, 10, 11, 12, 13] (by decide) rfl rfl 9 rfl rfl rfl hl.1 rfl (Nat.le_of_ble_eq_true rfl) ⟨Nat.le_of_ble_eq_true rfl, Nat.le_of_ble_eq_true rfl⟩ dX3_bestGranule_41 (fun H locs hP hD hS => ?_)
        replace hP : zP g (zI g h0 xt0 xt1 xt2 xd0 xd1 xd2 xd3 xd4 xc0 xc1 xc2 xc3 xc4 xp0 xp1 xs0 xu0 xe0 xe1 xe2 xe3 xe4 xf0 xf1 xf2 xf3 xf4 ad ch nu le ta lt b pF pL st tm qt cm ds dr bC2 pFC2 pLC2 stC3 tmC2 qtC2 cmC2 dsC2 drC2 ol pz dvs us bS pFS pLS stS tmS qtS cmS dsS drS bT pFT pLT stT tmT qtT cmT dsT drT) H := hP
        replace hD : va_D A (zI g h0 xt0 xt1 xt2 xd0 xd1 xd2 xd3 xd4 xc0 xc1 xc2 xc3 xc4 xp0 xp1 xs0 xu0 xe0 xe1 xe2 xe3 xe4 xf0 xf1 xf2 xf3 xf4 ad ch nu le ta lt b pF pL st tm qt cm ds dr bC2 pFC2 pLC2 stC3 tmC2 qtC2 cmC2 dsC2 drC2 ol pz dvs us bS pFS pLS stS tmS qtS cmS dsS drS bT pFT pLT stT tmT qtT cmT dsT drT) := hD
        refine lv_aload_n hx hb dX3_bestGranule_44 rfl (lv_at hl 0 rfl) ?_
        refine va_get (ci := 3) (v := .ref xc0) (C := RX3) (T := TX3) (N := 6) hx hb hts uX3_bestGranule_X3 hown hK hP 0 rfl rfl 2 (by decide) (hts _ mX3_bestGranule_23) (fun _ h9 => h9) rfl dX3_bestGranule_45 ?_
        refine lv_iload_n hx hb dX3_bestGranule_48 rfl (lv_at hl 1 rfl) ?_
        obtain ⟨r4, bC4, tmC4, qtC4, cmC4, dsC4, drC4, e4, h⟩ := zb7 h
        refine zVw (As := [.int v1]) (rest := []) (zWi_q g _ _) ⟨hx, hb, hml, hown, hts⟩ (kX0_passTicks l g xc0 xc1 xc2 xc3 xc4 bC2 pFC2 pLC2 stC3 tmC2 qtC2 cmC2 dsC2 drC2 v1 e4) (cwV 1 hts gX3_bestGranule_X0_passTicks rfl rfl rfl hdV_X0_passTicks ⟨Nat.le_of_ble_eq_true rfl, Nat.le_of_ble_eq_true rfl⟩) hK hP hD hS hA [9, 10, 11, 12, 13] (by decide) rfl rfl 9 rfl rfl rfl hl.1 rfl (Nat.le_of_ble_eq_true rfl) ⟨Nat.le_of_ble_eq_true rfl, Nat.le_of_ble_eq_true rfl⟩ dX3_bestGranule_49 (fun H locs hP hD hS => ?_)
        replace hP : zP g (zI g h0 xt0 xt1 xt2 xd0 xd1 xd2 xd3 xd4 xc0 xc1 xc2 xc3 xc4 xp0 xp1 xs0 xu0 xe0 xe1 xe2 xe3 xe4 xf0 xf1 xf2 xf3 xf4 ad ch nu le ta lt b pF pL st tm qt cm ds dr bC4 pFC2 pLC2 stC3 tmC4 qtC4 cmC4 dsC4 drC4 ol pz dvs us bS pFS pLS stS tmS qtS cmS dsS drS bT pFT pLT stT tmT qtT cmT dsT drT) H := hP
        replace hD : va_D A (zI g h0 xt0 xt1 xt2 xd0 xd1 xd2 xd3 xd4 xc0 xc1 xc2 xc3 xc4 xp0 xp1 xs0 xu0 xe0 xe1 xe2 xe3 xe4 xf0 xf1 xf2 xf3 xf4 ad ch nu le ta lt b pF pL st tm qt cm ds dr bC4 pFC2 pLC2 stC3 tmC4 qtC4 cmC4 dsC4 drC4 ol pz dvs us bS pFS pLS stS tmS qtS cmS dsS drS bT pFT pLT stT tmT qtT cmT dsT drT) := hD
        refine lv_istore (lv' := [(5, .int r4), (0, .ref h0), (1, .int v1), (2, .int v2), (3, .int v3), (4, .int v4)]) hx hb dX3_bestGranule_52 hl (by decide) rfl (fun ls hl => ?_)
        refine lv_iload hx hb dX3_bestGranule_54 (lv_at hl 0 rfl) ?_
        refine lv_iload_n hx hb dX3_bestGranule_56 rfl (lv_at hl 4 rfl) ?_
        refine lv_icmp_lt (tgt := 66) hx hb dX3_bestGranule_57 (by decide) (fun c5 => ?_) (fun c5 => ?_)
        · replace h := zt c5 h
          refine lv_iinc (v := (v4 + 1)) (lv' := [(4, .int (v4 + 1)), (5, .int r4), (0, .ref h0), (1, .int v1), (2, .int v2), (3, .int v3)]) hx hb dX3_bestGranule_66 hl (k := 5) rfl rfl (by decide) rfl (fun ls hl => ?_)
          refine lv_goto (tgt := 13) hx hb dX3_bestGranule_69 (by decide) ?_
          exact ih v1 v2 v3 (v4 + 1) bC4 pFC2 pLC2 stC3 tmC4 qtC4 cmC4 dsC4 drC4 h H locs hP hD hS ls (lv_sub hl [2, 3, 4, 5, 0] rfl)
        · replace h := zf c5 h
          refine lv_iload hx hb dX3_bestGranule_60 (lv_at hl 5 rfl) ?_
          refine lv_istore_n (lv' := [(2, .int v4), (5, .int r4), (0, .ref h0), (1, .int v1), (3, .int v3), (4, .int v4)]) hx hb dX3_bestGranule_62 rfl hl (by decide) rfl (fun ls hl => ?_)
          refine lv_iload hx hb dX3_bestGranule_63 (lv_at hl 1 rfl) ?_
          refine lv_istore_n (lv' := [(3, .int r4), (2, .int v4), (5, .int r4), (0, .ref h0), (1, .int v1), (4, .int v4)]) hx hb dX3_bestGranule_65 rfl hl (by decide) rfl (fun ls hl => ?_)
          refine lv_iinc (v := (v4 + 1)) (lv' := [(4, .int (v4 + 1)), (3, .int r4), (2, .int v4), (5, .int r4), (0, .ref h0), (1, .int v1)]) hx hb dX3_bestGranule_66 hl (k := 5) rfl rfl (by decide) rfl (fun ls hl => ?_)
          refine lv_goto (tgt := 13) hx hb dX3_bestGranule_69 (by decide) ?_
          exact ih v1 v4 r4 (v4 + 1) bC4 pFC2 pLC2 stC3 tmC4 qtC4 cmC4 dsC4 drC4 h H locs hP hD hS ls (lv_sub hl [4, 5, 2, 1, 0] rfl)
  unfold fX3_bestGranule at h
  refine lv_iload_n hx hb dX3_bestGranule_0 rfl (lv_at hl 1 rfl) ?_
  refine lv_bipush (v := 60) hx hb dX3_bestGranule_1 (by decide) ?_
  obtain ⟨k6, e6, h⟩ := zb h
  refine zSx (As := [.int a1, .int 60]) (rest := []) (zXv_q g _ _) (zXx_q g _ _) ⟨hx, hb, hml, hown, hts⟩ (kX3_checkTicks l g a1 60 htr e6) (va_cwS 2 hts gX3_bestGranule_X3_checkTicks rfl rfl rfl hdS_X3_checkTicks ⟨Nat.le_of_ble_eq_true rfl, Nat.le_of_ble_eq_true rfl⟩) hK hP hD hS hA hAm [] (by decide) rfl rfl rfl hl.1 rfl (Nat.le_of_ble_eq_true rfl) ⟨Nat.le_of_ble_eq_true rfl, Nat.le_of_ble_eq_true rfl⟩ dX3_bestGranule_3 (fun c6 H locs q ce hP hD hS hq1 hq2 hq3 => ?_) (fun c6 H locs hP hD hS => ?_)
  · replace h := zf c6 h
    replace hP : zP g (zI g h0 xt0 xt1 xt2 xd0 xd1 xd2 xd3 xd4 xc0 xc1 xc2 xc3 xc4 xp0 xp1 xs0 xu0 xe0 xe1 xe2 xe3 xe4 xf0 xf1 xf2 xf3 xf4 ad ch nu le ta lt b pF pL st tm qt cm ds dr bC pFC pLC stC tmC qtC cmC dsC drC ol pz dvs us bS pFS pLS stS tmS qtS cmS dsS drS bT pFT pLT stT tmT qtT cmT dsT drT) H := hP
    cases h
    exact zx_out ht hlocks c6 hP hS hq1 hq2 hq3 (by decide) (by decide)
  · replace h := zt c6 h
    replace hP : zP g (zI g h0 xt0 xt1 xt2 xd0 xd1 xd2 xd3 xd4 xc0 xc1 xc2 xc3 xc4 xp0 xp1 xs0 xu0 xe0 xe1 xe2 xe3 xe4 xf0 xf1 xf2 xf3 xf4 ad ch nu le ta lt b pF pL st tm qt cm ds dr bC pFC pLC stC tmC qtC cmC dsC drC ol pz dvs us bS pFS pLS stS tmS qtS cmS dsS drS bT pFT pLT stT tmT qtT cmT dsT drT) H := hP
    replace hD : va_D A (zI g h0 xt0 xt1 xt2 xd0 xd1 xd2 xd3 xd4 xc0 xc1 xc2 xc3 xc4 xp0 xp1 xs0 xu0 xe0 xe1 xe2 xe3 xe4 xf0 xf1 xf2 xf3 xf4 ad ch nu le ta lt b pF pL st tm qt cm ds dr bC pFC pLC stC tmC qtC cmC dsC drC ol pz dvs us bS pFS pLS stS tmS qtS cmS dsS drS bT pFT pLT stT tmT qtT cmT dsT drT) := hD
    refine lv_iconst (v := 0) hx hb dX3_bestGranule_6 (by decide) ?_
    refine lv_istore_n (lv' := [(2, .int 0), (0, .ref h0), (1, .int a1)]) hx hb dX3_bestGranule_7 rfl hl (by decide) rfl (fun ls hl => ?_)
    refine lv_iconst (v := 0) hx hb dX3_bestGranule_8 (by decide) ?_
    refine lv_istore_n (lv' := [(3, .int 0), (2, .int 0), (0, .ref h0), (1, .int a1)]) hx hb dX3_bestGranule_9 rfl hl (by decide) rfl (fun ls hl => ?_)
    refine lv_iconst (v := 0) hx hb dX3_bestGranule_10 (by decide) ?_
    refine lv_istore (lv' := [(4, .int 0), (3, .int 0), (2, .int 0), (0, .ref h0), (1, .int a1)]) hx hb dX3_bestGranule_11 hl (by decide) rfl (fun ls hl => ?_)
    exact loop_13 1000 a1 0 0 0 bC pFC pLC stC tmC qtC cmC dsC drC h H locs hP hD hS ls (lv_sub hl [3, 4, 2, 1, 0] rfl)
def fX3_ifWritten (b : Nat → Int32) (pF : Nat → Int32) (pL : Nat → Int32) (st : Nat → Int32) (tm : Int32) (qt : Int32) (cm : Int32) (ds : Int32) (dr : Int32) (bC : Nat → Int32) (pFC : Nat → Int32) (pLC : Nat → Int32) (stC : Nat → Int32) (tmC : Int32) (qtC : Int32) (cmC : Int32) (dsC : Int32) (drC : Int32) (a1 : Int32) (a2 : Int32) : Option (Int32 × Int32 × (Nat → Int32) × (Nat → Int32) × (Nat → Int32) × (Nat → Int32) × (Int32) × (Int32) × (Int32) × (Int32) × (Int32)) :=
  ob (fX3_checkSpan a1 a2) fun k1 =>
  if k1 = 0 then
    ob9 (fX0_copyFrom bC pFC pLC stC b pF pL st tm qt cm ds dr) fun bC2 pFC2 pLC2 stC2 tmC2 qtC2 cmC2 dsC2 drC2 =>
    ob4 (fX0_writeSpan bC2 qtC2 drC2 a1 a2) fun r3 bC3 qtC3 drC3 =>
    ob (fX0_countRanges bC3) fun r4 =>
    some (0, r4, bC3, pFC2, pLC2, stC2, tmC2, qtC3, cmC2, dsC2, drC3)
  else some (k1, 0, bC, pFC, pLC, stC, tmC, qtC, cmC, dsC, drC)
theorem mX3_ifWritten_23 : Cond.fieldLink RX3 23 "IdleDiscards" "copy" "LIdleDiscards$Device;" ∈ wsX3_ifWritten := by decide +kernel
theorem uX3_ifWritten_X3 : ∀ w ∈ wsX30, w ∈ wsX3_ifWritten := by decide +kernel
theorem mX3_ifWritten_19 : Cond.fieldLink RX3 19 "IdleDiscards" "device" "LIdleDiscards$Device;" ∈ wsX3_ifWritten := by decide +kernel
set_option maxRecDepth 100000 in
set_option maxHeartbeats 4000000 in
theorem kX3_ifWritten (l : Launch) (g : zG) (h0 xt0 xt1 xt2 xd0 xd1 xd2 xd3 xd4 xc0 xc1 xc2 xc3 xc4 xp0 xp1 xs0 xu0 xe0 xe1 xe2 xe3 xe4 xf0 xf1 xf2 xf3 xf4 : Nat) (ad : Nat → Nat → Nat) (ch : Nat → Int32) (nu : Nat → Int32) (le : Int32) (ta : Int32) (lt : Int32) (b : Nat → Int32) (pF : Nat → Int32) (pL : Nat → Int32) (st : Nat → Int32) (tm : Int32) (qt : Int32) (cm : Int32) (ds : Int32) (dr : Int32) (bC : Nat → Int32) (pFC : Nat → Int32) (pLC : Nat → Int32) (stC : Nat → Int32) (tmC : Int32) (qtC : Int32) (cmC : Int32) (dsC : Int32) (drC : Int32) (ol : Int32) (pz : Int32) (dvs : Nat → zDv) (us : Nat → Int32) (bS : Nat → Int32) (pFS : Nat → Int32) (pLS : Nat → Int32) (stS : Nat → Int32) (tmS : Int32) (qtS : Int32) (cmS : Int32) (dsS : Int32) (drS : Int32) (bT : Nat → Int32) (pFT : Nat → Int32) (pLT : Nat → Int32) (stT : Nat → Int32) (tmT : Int32) (qtT : Int32) (cmT : Int32) (dsT : Int32) (drT : Int32) (a1 : Int32) (a2 : Int32) (htr : l.stackTraces = false) {k : Int32} {r : Int32} {bC' : Nat → Int32} {pFC' : Nat → Int32} {pLC' : Nat → Int32} {stC' : Nat → Int32} {tmC' : Int32} {qtC' : Int32} {cmC' : Int32} {dsC' : Int32} {drC' : Int32} (h : fX3_ifWritten b pF pL st tm qt cm ds dr bC pFC pLC stC tmC qtC cmC dsC drC a1 a2 = some (k, r, bC', pFC', pLC', stC', tmC', qtC', cmC', dsC', drC')) : Mx l g yX3_ifWritten wsX3_ifWritten { frames := 8, cells := 2, slots := 12, locals := 123 } [.ref h0, .int a1, .int a2] (zI g h0 xt0 xt1 xt2 xd0 xd1 xd2 xd3 xd4 xc0 xc1 xc2 xc3 xc4 xp0 xp1 xs0 xu0 xe0 xe1 xe2 xe3 xe4 xf0 xf1 xf2 xf3 xf4 ad ch nu le ta lt b pF pL st tm qt cm ds dr bC pFC pLC stC tmC qtC cmC dsC drC ol pz dvs us bS pFS pLS stS tmS qtS cmS dsS drS bT pFT pLT stT tmT qtT cmT dsT drT) (zXi g (zI g h0 xt0 xt1 xt2 xd0 xd1 xd2 xd3 xd4 xc0 xc1 xc2 xc3 xc4 xp0 xp1 xs0 xu0 xe0 xe1 xe2 xe3 xe4 xf0 xf1 xf2 xf3 xf4 ad ch nu le ta lt b pF pL st tm qt cm ds dr bC' pFC' pLC' stC' tmC' qtC' cmC' dsC' drC' ol pz dvs us bS pFS pLS stS tmS qtS cmS dsS drS bT pFT pLT stT tmT qtT cmT dsT drT) k r) (zXx g (zI g h0 xt0 xt1 xt2 xd0 xd1 xd2 xd3 xd4 xc0 xc1 xc2 xc3 xc4 xp0 xp1 xs0 xu0 xe0 xe1 xe2 xe3 xe4 xf0 xf1 xf2 xf3 xf4 ad ch nu le ta lt b pF pL st tm qt cm ds dr bC' pFC' pLC' stC' tmC' qtC' cmC' dsC' drC' ol pz dvs us bS pFS pLS stS tmS qtS cmS dsS drS bT pFT pLT stT tmT qtT cmT dsT drT) k) 2 12 := by
  refine zx_in (cc := cX3_ifWritten) (maxL := 3) (ret := (some .int)) (by decide) rfl (Nat.le_of_ble_eq_true rfl) ?_
  intro p e s m below meth c hx hb hr hml hts hown hlocks hK ht A hA hP hD hS hAm ls hl
  replace hl : lv_has ls 3 [(0, .ref h0), (1, .int a1), (2, .int a2)] := hl
  unfold fX3_ifWritten at h
  refine lv_iload_n hx hb dX3_ifWritten_0 rfl (lv_at hl 1 rfl) ?_
  refine lv_iload_n hx hb dX3_ifWritten_1 rfl (lv_at hl 2 rfl) ?_
  obtain ⟨k1, e1, h⟩ := zb h
  refine zSx (As := [.int a1, .int a2]) (rest := []) (zXv_q g _ _) (zXx_q g _ _) ⟨hx, hb, hml, hown, hts⟩ (kX3_checkSpan l g a1 a2 htr e1) (va_cwS 2 hts gX3_ifWritten_X3_checkSpan rfl rfl rfl hdS_X3_checkSpan ⟨Nat.le_of_ble_eq_true rfl, Nat.le_of_ble_eq_true rfl⟩) hK hP hD hS hA hAm [] (by decide) rfl rfl rfl hl.1 rfl (Nat.le_of_ble_eq_true rfl) ⟨Nat.le_of_ble_eq_true rfl, Nat.le_of_ble_eq_true rfl⟩ dX3_ifWritten_2 (fun c1 H locs q ce hP hD hS hq1 hq2 hq3 => ?_) (fun c1 H locs hP hD hS => ?_)
  · replace h := zf c1 h
    replace hP : zP g (zI g h0 xt0 xt1 xt2 xd0 xd1 xd2 xd3 xd4 xc0 xc1 xc2 xc3 xc4 xp0 xp1 xs0 xu0 xe0 xe1 xe2 xe3 xe4 xf0 xf1 xf2 xf3 xf4 ad ch nu le ta lt b pF pL st tm qt cm ds dr bC pFC pLC stC tmC qtC cmC dsC drC ol pz dvs us bS pFS pLS stS tmS qtS cmS dsS drS bT pFT pLT stT tmT qtT cmT dsT drT) H := hP
    cases h
    exact zx_out ht hlocks c1 hP hS hq1 hq2 hq3 (by decide) (by decide)
  · replace h := zt c1 h
    replace hP : zP g (zI g h0 xt0 xt1 xt2 xd0 xd1 xd2 xd3 xd4 xc0 xc1 xc2 xc3 xc4 xp0 xp1 xs0 xu0 xe0 xe1 xe2 xe3 xe4 xf0 xf1 xf2 xf3 xf4 ad ch nu le ta lt b pF pL st tm qt cm ds dr bC pFC pLC stC tmC qtC cmC dsC drC ol pz dvs us bS pFS pLS stS tmS qtS cmS dsS drS bT pFT pLT stT tmT qtT cmT dsT drT) H := hP
    replace hD : va_D A (zI g h0 xt0 xt1 xt2 xd0 xd1 xd2 xd3 xd4 xc0 xc1 xc2 xc3 xc4 xp0 xp1 xs0 xu0 xe0 xe1 xe2 xe3 xe4 xf0 xf1 xf2 xf3 xf4 ad ch nu le ta lt b pF pL st tm qt cm ds dr bC pFC pLC stC tmC qtC cmC dsC drC ol pz dvs us bS pFS pLS stS tmS qtS cmS dsS drS bT pFT pLT stT tmT qtT cmT dsT drT) := hD
    refine lv_aload_n hx hb dX3_ifWritten_5 rfl (lv_at hl 0 rfl) ?_
    refine va_get (ci := 3) (v := .ref xc0) (C := RX3) (T := TX3) (N := 6) hx hb hts uX3_ifWritten_X3 hown hK hP 0 rfl rfl 2 (by decide) (hts _ mX3_ifWritten_23) (fun _ h9 => h9) rfl dX3_ifWritten_6 ?_
    refine lv_aload_n hx hb dX3_ifWritten_9 rfl (lv_at hl 0 rfl) ?_
    refine va_get (ci := 3) (v := .ref xd0) (C := RX3) (T := TX3) (N := 6) hx hb hts uX3_ifWritten_X3 hown hK hP 0 rfl rfl 1 (by decide) (hts _ mX3_ifWritten_19) (fun _ h9 => h9) rfl dX3_ifWritten_10 ?_
    obtain ⟨bC2, pFC2, pLC2, stC2, tmC2, qtC2, cmC2, dsC2, drC2, e2, h⟩ := zb9 h
    refine zVw (As := [.ref xd0]) (rest := []) (zWv_q g _) ⟨hx, hb, hml, hown, hts⟩ (kX0_copyFrom l g xc0 xc1 xc2 xc3 xc4 xd0 xd1 xd2 xd3 xd4 bC pFC pLC stC tmC qtC cmC dsC drC b pF pL st tm qt cm ds dr e2) (cwV 1 hts gX3_ifWritten_X0_copyFrom rfl rfl rfl hdV_X0_copyFrom ⟨Nat.le_of_ble_eq_true rfl, Nat.le_of_ble_eq_true rfl⟩) hK hP hD hS hA [9, 10, 11, 12, 13, 4, 5, 6, 7, 8] (by decide) rfl rfl 9 rfl rfl rfl hl.1 rfl (Nat.le_of_ble_eq_true rfl) ⟨Nat.le_of_ble_eq_true rfl, Nat.le_of_ble_eq_true rfl⟩ dX3_ifWritten_13 (fun H locs hP hD hS => ?_)
    replace hP : zP g (zI g h0 xt0 xt1 xt2 xd0 xd1 xd2 xd3 xd4 xc0 xc1 xc2 xc3 xc4 xp0 xp1 xs0 xu0 xe0 xe1 xe2 xe3 xe4 xf0 xf1 xf2 xf3 xf4 ad ch nu le ta lt b pF pL st tm qt cm ds dr bC2 pFC2 pLC2 stC2 tmC2 qtC2 cmC2 dsC2 drC2 ol pz dvs us bS pFS pLS stS tmS qtS cmS dsS drS bT pFT pLT stT tmT qtT cmT dsT drT) H := hP
    replace hD : va_D A (zI g h0 xt0 xt1 xt2 xd0 xd1 xd2 xd3 xd4 xc0 xc1 xc2 xc3 xc4 xp0 xp1 xs0 xu0 xe0 xe1 xe2 xe3 xe4 xf0 xf1 xf2 xf3 xf4 ad ch nu le ta lt b pF pL st tm qt cm ds dr bC2 pFC2 pLC2 stC2 tmC2 qtC2 cmC2 dsC2 drC2 ol pz dvs us bS pFS pLS stS tmS qtS cmS dsS drS bT pFT pLT stT tmT qtT cmT dsT drT) := hD
    refine lv_aload_n hx hb dX3_ifWritten_16 rfl (lv_at hl 0 rfl) ?_
    refine va_get (ci := 3) (v := .ref xc0) (C := RX3) (T := TX3) (N := 6) hx hb hts uX3_ifWritten_X3 hown hK hP 0 rfl rfl 2 (by decide) (hts _ mX3_ifWritten_23) (fun _ h9 => h9) rfl dX3_ifWritten_17 ?_
    refine lv_iload_n hx hb dX3_ifWritten_20 rfl (lv_at hl 1 rfl) ?_
    refine lv_iload_n hx hb dX3_ifWritten_21 rfl (lv_at hl 2 rfl) ?_
    obtain ⟨r3, bC3, qtC3, drC3, e3, h⟩ := zb4 h
    refine zVw (As := [.int a1, .int a2]) (rest := []) (zWi_q g _ _) ⟨hx, hb, hml, hown, hts⟩ (kX0_writeSpan l g xc0 xc1 xc2 xc3 xc4 bC2 pFC2 pLC2 stC2 tmC2 qtC2 cmC2 dsC2 drC2 a1 a2 e3) (cwV 2 hts gX3_ifWritten_X0_writeSpan rfl rfl rfl hdV_X0_writeSpan ⟨Nat.le_of_ble_eq_true rfl, Nat.le_of_ble_eq_true rfl⟩) hK hP hD hS hA [9, 10, 11, 12, 13] (by decide) rfl rfl 9 rfl rfl rfl hl.1 rfl (Nat.le_of_ble_eq_true rfl) ⟨Nat.le_of_ble_eq_true rfl, Nat.le_of_ble_eq_true rfl⟩ dX3_ifWritten_22 (fun H locs hP hD hS => ?_)
    replace hP : zP g (zI g h0 xt0 xt1 xt2 xd0 xd1 xd2 xd3 xd4 xc0 xc1 xc2 xc3 xc4 xp0 xp1 xs0 xu0 xe0 xe1 xe2 xe3 xe4 xf0 xf1 xf2 xf3 xf4 ad ch nu le ta lt b pF pL st tm qt cm ds dr bC3 pFC2 pLC2 stC2 tmC2 qtC3 cmC2 dsC2 drC3 ol pz dvs us bS pFS pLS stS tmS qtS cmS dsS drS bT pFT pLT stT tmT qtT cmT dsT drT) H := hP
    replace hD : va_D A (zI g h0 xt0 xt1 xt2 xd0 xd1 xd2 xd3 xd4 xc0 xc1 xc2 xc3 xc4 xp0 xp1 xs0 xu0 xe0 xe1 xe2 xe3 xe4 xf0 xf1 xf2 xf3 xf4 ad ch nu le ta lt b pF pL st tm qt cm ds dr bC3 pFC2 pLC2 stC2 tmC2 qtC3 cmC2 dsC2 drC3 ol pz dvs us bS pFS pLS stS tmS qtS cmS dsS drS bT pFT pLT stT tmT qtT cmT dsT drT) := hD
    refine lv_pop hx hb dX3_ifWritten_25 rfl ?_
    refine lv_aload_n hx hb dX3_ifWritten_26 rfl (lv_at hl 0 rfl) ?_
    refine va_get (ci := 3) (v := .ref xc0) (C := RX3) (T := TX3) (N := 6) hx hb hts uX3_ifWritten_X3 hown hK hP 0 rfl rfl 2 (by decide) (hts _ mX3_ifWritten_23) (fun _ h9 => h9) rfl dX3_ifWritten_27 ?_
    obtain ⟨r4, e4, h⟩ := zb h
    refine zV (As := []) (rest := []) (zQi_q _) ⟨hx, hb, hml, hown, hts⟩ (kX0_countRanges l g xc0 xc1 xc2 xc3 xc4 bC3 pFC2 pLC2 stC2 tmC2 qtC3 cmC2 dsC2 drC3 e4) (cwV 0 hts gX3_ifWritten_X0_countRanges rfl rfl rfl hdV_X0_countRanges ⟨Nat.le_of_ble_eq_true rfl, Nat.le_of_ble_eq_true rfl⟩) hK hP [9, 10, 11, 12, 13] rfl 9 rfl rfl rfl hl.1 rfl (Nat.le_of_ble_eq_true rfl) ⟨Nat.le_of_ble_eq_true rfl, Nat.le_of_ble_eq_true rfl⟩ dX3_ifWritten_30 ?_
    cases h
    exact zx_i hx hb hr hlocks hP hS (by decide) (by decide) dX3_ifWritten_33
def fX3_stuck (b : Nat → Int32) (pF : Nat → Int32) (pL : Nat → Int32) (st : Nat → Int32) : Option (Int32) :=
  ob (fX0_countQueued b) fun r1 =>
  ob (fX0_countGranules b pF pL st 0 256) fun r2 =>
  ob (fX0_granuleSize st) fun r3 =>
  some (r1 - (r2 * r3))
theorem mX3_stuck_19 : Cond.fieldLink RX3 19 "IdleDiscards" "device" "LIdleDiscards$Device;" ∈ wsX3_stuck := by decide +kernel
theorem uX3_stuck_X3 : ∀ w ∈ wsX30, w ∈ wsX3_stuck := by decide +kernel
set_option maxRecDepth 100000 in
set_option maxHeartbeats 4000000 in
theorem kX3_stuck (l : Launch) (g : zG) (h0 xt0 xt1 xt2 xd0 xd1 xd2 xd3 xd4 xc0 xc1 xc2 xc3 xc4 xp0 xp1 xs0 xu0 xe0 xe1 xe2 xe3 xe4 xf0 xf1 xf2 xf3 xf4 : Nat) (ad : Nat → Nat → Nat) (ch : Nat → Int32) (nu : Nat → Int32) (le : Int32) (ta : Int32) (lt : Int32) (b : Nat → Int32) (pF : Nat → Int32) (pL : Nat → Int32) (st : Nat → Int32) (tm : Int32) (qt : Int32) (cm : Int32) (ds : Int32) (dr : Int32) (bC : Nat → Int32) (pFC : Nat → Int32) (pLC : Nat → Int32) (stC : Nat → Int32) (tmC : Int32) (qtC : Int32) (cmC : Int32) (dsC : Int32) (drC : Int32) (ol : Int32) (pz : Int32) (dvs : Nat → zDv) (us : Nat → Int32) (bS : Nat → Int32) (pFS : Nat → Int32) (pLS : Nat → Int32) (stS : Nat → Int32) (tmS : Int32) (qtS : Int32) (cmS : Int32) (dsS : Int32) (drS : Int32) (bT : Nat → Int32) (pFT : Nat → Int32) (pLT : Nat → Int32) (stT : Nat → Int32) (tmT : Int32) (qtT : Int32) (cmT : Int32) (dsT : Int32) (drT : Int32) {r : Int32} (h : fX3_stuck b pF pL st = some r) : Mr l g yX3_stuck wsX3_stuck { frames := 3, cells := 0, slots := 0, locals := 72 } [.ref h0] (zI g h0 xt0 xt1 xt2 xd0 xd1 xd2 xd3 xd4 xc0 xc1 xc2 xc3 xc4 xp0 xp1 xs0 xu0 xe0 xe1 xe2 xe3 xe4 xf0 xf1 xf2 xf3 xf4 ad ch nu le ta lt b pF pL st tm qt cm ds dr bC pFC pLC stC tmC qtC cmC dsC drC ol pz dvs us bS pFS pLS stS tmS qtS cmS dsS drS bT pFT pLT stT tmT qtT cmT dsT drT) (zQi r) := by
  refine zr_in (cc := cX3_stuck) (maxL := 1) (ret := (some .int)) (by decide) rfl (Nat.le_of_ble_eq_true rfl) ?_
  intro p e s m below meth c hx hb hr hml hts hown hlocks hP hK ls hl
  replace hl : lv_has ls 1 [(0, .ref h0)] := hl
  unfold fX3_stuck at h
  refine lv_aload_n hx hb dX3_stuck_0 rfl (lv_at hl 0 rfl) ?_
  refine va_get (ci := 3) (v := .ref xd0) (C := RX3) (T := TX3) (N := 6) hx hb hts uX3_stuck_X3 hown hK hP 0 rfl rfl 1 (by decide) (hts _ mX3_stuck_19) (fun _ h9 => h9) rfl dX3_stuck_1 ?_
  obtain ⟨r1, e1, h⟩ := zb h
  refine zV (As := []) (rest := []) (zQi_q _) ⟨hx, hb, hml, hown, hts⟩ (kX0_countQueued l g xd0 xd1 xd2 xd3 xd4 b pF pL st tm qt cm ds dr e1) (cwV 0 hts gX3_stuck_X0_countQueued rfl rfl rfl hdV_X0_countQueued ⟨Nat.le_of_ble_eq_true rfl, Nat.le_of_ble_eq_true rfl⟩) hK hP [4, 5, 6, 7, 8] rfl 4 rfl rfl rfl hl.1 rfl (Nat.le_of_ble_eq_true rfl) ⟨Nat.zero_le _, Nat.zero_le _⟩ dX3_stuck_4 ?_
  refine lv_aload_n hx hb dX3_stuck_7 rfl (lv_at hl 0 rfl) ?_
  refine va_get (ci := 3) (v := .ref xd0) (C := RX3) (T := TX3) (N := 6) hx hb hts uX3_stuck_X3 hown hK hP 0 rfl rfl 1 (by decide) (hts _ mX3_stuck_19) (fun _ h9 => h9) rfl dX3_stuck_8 ?_
  refine lv_iconst (v := 0) hx hb dX3_stuck_11 (by decide) ?_
  refine lv_sipush (v := 256) hx hb dX3_stuck_12 (by decide) ?_
  obtain ⟨r2, e2, h⟩ := zb h
  refine zV (As := [.int 0, .int 256]) (rest := [.int r1]) (zQi_q _) ⟨hx, hb, hml, hown, hts⟩ (kX0_countGranules l g xd0 xd1 xd2 xd3 xd4 b pF pL st tm qt cm ds dr 0 256 e2) (cwV 2 hts gX3_stuck_X0_countGranules rfl rfl rfl hdV_X0_countGranules ⟨Nat.le_of_ble_eq_true rfl, Nat.le_of_ble_eq_true rfl⟩) hK hP [4, 5, 6, 7, 8] rfl 4 rfl rfl rfl hl.1 rfl (Nat.le_of_ble_eq_true rfl) ⟨Nat.zero_le _, Nat.zero_le _⟩ dX3_stuck_15 ?_
  refine lv_aload_n hx hb dX3_stuck_18 rfl (lv_at hl 0 rfl) ?_
  refine va_get (ci := 3) (v := .ref xd0) (C := RX3) (T := TX3) (N := 6) hx hb hts uX3_stuck_X3 hown hK hP 0 rfl rfl 1 (by decide) (hts _ mX3_stuck_19) (fun _ h9 => h9) rfl dX3_stuck_19 ?_
  obtain ⟨r3, e3, h⟩ := zb h
  refine zV (As := []) (rest := [.int r2, .int r1]) (zQi_q _) ⟨hx, hb, hml, hown, hts⟩ (kX0_granuleSize l g xd0 xd1 xd2 xd3 xd4 b pF pL st tm qt cm ds dr e3) (cwV 0 hts gX3_stuck_X0_granuleSize rfl rfl rfl hdV_X0_granuleSize ⟨Nat.le_of_ble_eq_true rfl, Nat.le_of_ble_eq_true rfl⟩) hK hP [4, 5, 6, 7, 8] rfl 4 rfl rfl rfl hl.1 rfl (Nat.le_of_ble_eq_true rfl) ⟨Nat.zero_le _, Nat.zero_le _⟩ dX3_stuck_22 ?_
  refine lv_imul hx hb dX3_stuck_25 ?_
  refine lv_isub hx hb dX3_stuck_26 ?_
  cases h
  exact zr_i hx hb hr hlocks dX3_stuck_27
def fX3_doScriptCommand (bC : Nat → Int32) (pFC : Nat → Int32) (pLC : Nat → Int32) (stC : Nat → Int32) (tmC : Int32) (qtC : Int32) (cmC : Int32) (dsC : Int32) (drC : Int32) (a1 : Int32) : Option (Int32 × (Nat → Int32) × (Nat → Int32) × (Int32) × (Int32) × (Int32) × (Int32) × (Int32)) :=
  if (a1 / (100000)) = 1 then
    ob4 (fX3_writeIfAllowed bC qtC drC ((irem a1 (100000)) / 100) (irem (irem a1 (100000)) 100)) fun r2 bC2 qtC2 drC2 =>
    if ¬ (r2 &&& 1 = r2) then none else some (r2, bC2, stC, tmC, qtC2, cmC, dsC, drC2)
  else if (a1 / (100000)) = 2 then
    ob4 (fX3_freeIfAllowed bC tmC qtC drC ((irem a1 (100000)) / 100) (irem (irem a1 (100000)) 100)) fun r5 bC5 qtC5 drC5 =>
    if ¬ (r5 &&& 1 = r5) then none else some (r5, bC5, stC, tmC, qtC5, cmC, dsC, drC5)
  else if (a1 / (100000)) = 3 then
    ob (fX3_isTicks (irem a1 (100000)) 60) fun r8 =>
    if r8 = 0 then
      some (0, bC, stC, tmC, qtC, cmC, dsC, drC)
    else
      ob7 (fX0_passTicks bC pFC pLC stC tmC qtC cmC dsC drC (irem a1 (100000))) fun r10 bC10 tmC10 qtC10 cmC10 dsC10 drC10 =>
      some (1, bC10, stC, tmC10, qtC10, cmC10, dsC10, drC10)
  else if (a1 / (100000)) = 4 then
    if (irem (irem a1 (100000)) 100) = 0 then
      ob2 (fX3_setIfAllowed stC ((irem a1 (100000)) / 10000) (irem ((irem a1 (100000)) / 100) 100)) fun r13 stC13 =>
      if r13 = 0 then
        some (0, bC, stC13, tmC, qtC, cmC, dsC, drC)
      else
        some (1, bC, stC13, tmC, qtC, cmC, dsC, drC)
    else
      some (0, bC, stC, tmC, qtC, cmC, dsC, drC)
  else if (a1 / (100000)) = 5 then
    if (irem a1 (100000)) = 0 then
      ob5 (fX0_sendAll bC pFC pLC stC tmC cmC dsC drC) fun r17 bC17 cmC17 dsC17 drC17 =>
      some (1, bC17, stC, tmC, qtC, cmC17, dsC17, drC17)
    else
      some (0, bC, stC, tmC, qtC, cmC, dsC, drC)
  else if (a1 / (100000)) = 6 then
    ob (fX3_isBlock ((irem a1 (100000)) / 100)) fun r19 =>
    if r19 = 0 then
      some (0, bC, stC, tmC, qtC, cmC, dsC, drC)
    else
      ob (fX0_isHeld bC ((irem a1 (100000)) / 100)) fun r21 =>
      if r21 = 0 then
        if (irem (irem a1 (100000)) 100) = 0 then
          some (1, bC, stC, tmC, qtC, cmC, dsC, drC)
        else
          some (0, bC, stC, tmC, qtC, cmC, dsC, drC)
      else
        if (irem (irem a1 (100000)) 100) = 1 then
          some (1, bC, stC, tmC, qtC, cmC, dsC, drC)
        else
          some (0, bC, stC, tmC, qtC, cmC, dsC, drC)
  else if (a1 / (100000)) = 7 then
    if 1000 ≤ (irem a1 (100000)) then
      some (0, bC, stC, tmC, qtC, cmC, dsC, drC)
    else
      ob (fX0_countQueued bC) fun r27 =>
      if (irem a1 (100000)) < r27 then
        some (0, bC, stC, tmC, qtC, cmC, dsC, drC)
      else
        some (1, bC, stC, tmC, qtC, cmC, dsC, drC)
  else if (a1 / (100000)) = 8 then
    if 100 ≤ (irem a1 (100000)) then
      some (0, bC, stC, tmC, qtC, cmC, dsC, drC)
    else
      ob (fX0_countRanges bC) fun r31 =>
      if r31 < (irem a1 (100000)) then
        some (0, bC, stC, tmC, qtC, cmC, dsC, drC)
      else
        some (1, bC, stC, tmC, qtC, cmC, dsC, drC)
  else if (a1 / (100000)) = 9 then
    ob (fX3_isBlock ((irem a1 (100000)) / 100)) fun r34 =>
    if r34 = 0 then
      some (0, bC, stC, tmC, qtC, cmC, dsC, drC)
    else
      ob (fX0_isAlive bC ((irem a1 (100000)) / 100)) fun r36 =>
      if r36 = 0 then
        if (irem (irem a1 (100000)) 100) = 0 then
          some (1, bC, stC, tmC, qtC, cmC, dsC, drC)
        else
          some (0, bC, stC, tmC, qtC, cmC, dsC, drC)
      else
        if (irem (irem a1 (100000)) 100) = 1 then
          some (1, bC, stC, tmC, qtC, cmC, dsC, drC)
        else
          some (0, bC, stC, tmC, qtC, cmC, dsC, drC)
  else some (0, bC, stC, tmC, qtC, cmC, dsC, drC)
theorem mX3_doScriptCommand_290 : Cond.constant RX3 290 (100000) ∈ wsX3_doScriptCommand := by decide +kernel
theorem mX3_doScriptCommand_23 : Cond.fieldLink RX3 23 "IdleDiscards" "copy" "LIdleDiscards$Device;" ∈ wsX3_doScriptCommand := by decide +kernel
theorem uX3_doScriptCommand_X3 : ∀ w ∈ wsX30, w ∈ wsX3_doScriptCommand := by decide +kernel
set_option maxRecDepth 100000 in
set_option maxHeartbeats 4000000 in
theorem kX3_doScriptCommand (l : Launch) (g : zG) (h0 xt0 xt1 xt2 xd0 xd1 xd2 xd3 xd4 xc0 xc1 xc2 xc3 xc4 xp0 xp1 xs0 xu0 xe0 xe1 xe2 xe3 xe4 xf0 xf1 xf2 xf3 xf4 : Nat) (ad : Nat → Nat → Nat) (ch : Nat → Int32) (nu : Nat → Int32) (le : Int32) (ta : Int32) (lt : Int32) (b : Nat → Int32) (pF : Nat → Int32) (pL : Nat → Int32) (st : Nat → Int32) (tm : Int32) (qt : Int32) (cm : Int32) (ds : Int32) (dr : Int32) (bC : Nat → Int32) (pFC : Nat → Int32) (pLC : Nat → Int32) (stC : Nat → Int32) (tmC : Int32) (qtC : Int32) (cmC : Int32) (dsC : Int32) (drC : Int32) (ol : Int32) (pz : Int32) (dvs : Nat → zDv) (us : Nat → Int32) (bS : Nat → Int32) (pFS : Nat → Int32) (pLS : Nat → Int32) (stS : Nat → Int32) (tmS : Int32) (qtS : Int32) (cmS : Int32) (dsS : Int32) (drS : Int32) (bT : Nat → Int32) (pFT : Nat → Int32) (pLT : Nat → Int32) (stT : Nat → Int32) (tmT : Int32) (qtT : Int32) (cmT : Int32) (dsT : Int32) (drT : Int32) (a1 : Int32) {r : Int32} {bC' : Nat → Int32} {stC' : Nat → Int32} {tmC' : Int32} {qtC' : Int32} {cmC' : Int32} {dsC' : Int32} {drC' : Int32} (h : fX3_doScriptCommand bC pFC pLC stC tmC qtC cmC dsC drC a1 = some (r, bC', stC', tmC', qtC', cmC', dsC', drC')) : Ma l g yX3_doScriptCommand wsX3_doScriptCommand { frames := 5, cells := 0, slots := 0, locals := 123 } [.ref h0, .int a1] (zI g h0 xt0 xt1 xt2 xd0 xd1 xd2 xd3 xd4 xc0 xc1 xc2 xc3 xc4 xp0 xp1 xs0 xu0 xe0 xe1 xe2 xe3 xe4 xf0 xf1 xf2 xf3 xf4 ad ch nu le ta lt b pF pL st tm qt cm ds dr bC pFC pLC stC tmC qtC cmC dsC drC ol pz dvs us bS pFS pLS stS tmS qtS cmS dsS drS bT pFT pLT stT tmT qtT cmT dsT drT) (zWi g (zI g h0 xt0 xt1 xt2 xd0 xd1 xd2 xd3 xd4 xc0 xc1 xc2 xc3 xc4 xp0 xp1 xs0 xu0 xe0 xe1 xe2 xe3 xe4 xf0 xf1 xf2 xf3 xf4 ad ch nu le ta lt b pF pL st tm qt cm ds dr bC' pFC pLC stC' tmC' qtC' cmC' dsC' drC' ol pz dvs us bS pFS pLS stS tmS qtS cmS dsS drS bT pFT pLT stT tmT qtT cmT dsT drT) r) := by
  refine zm_in (cc := cX3_doScriptCommand) (maxL := 3) (ret := (some .boolean)) (by decide) rfl (Nat.le_of_ble_eq_true rfl) ?_
  intro p e s m below meth c hx hb hr hml hts hown hlocks hK A hA hP hD hS hAm ls hl
  replace hl : lv_has ls 3 [(0, .ref h0), (1, .int a1)] := hl
  unfold fX3_doScriptCommand at h
  refine lv_iload_n hx hb dX3_doScriptCommand_0 rfl (lv_at hl 1 rfl) ?_
  refine lv_ldcw hx hb hown (hts _ mX3_doScriptCommand_290) dX3_doScriptCommand_1 ?_
  refine lv_irem hx hb dX3_doScriptCommand_4 (by decide) ?_
  refine lv_istore_n (lv' := [(2, .int (irem a1 (100000))), (0, .ref h0), (1, .int a1)]) hx hb dX3_doScriptCommand_5 rfl hl (by decide) rfl (fun ls hl => ?_)
  refine lv_iload_n hx hb dX3_doScriptCommand_6 rfl (lv_at hl 2 rfl) ?_
  refine lv_ldcw hx hb hown (hts _ mX3_doScriptCommand_290) dX3_doScriptCommand_7 ?_
  refine lv_idiv hx hb dX3_doScriptCommand_10 (by decide) ?_
  by_cases c1 : (a1 / (100000)) = 1
  · replace h := zt c1 h
    refine lv_tableIn (tgt := 60) (off := 49) hx hb dX3_doScriptCommand_11 (by rw [c1]; decide) (by rw [c1]; decide) (by rw [c1]; rfl) (by decide) ?_
    refine lv_iload_n hx hb dX3_doScriptCommand_60 rfl (lv_at hl 0 rfl) ?_
    refine lv_bipush (v := 100) hx hb dX3_doScriptCommand_61 (by decide) ?_
    refine lv_idiv hx hb dX3_doScriptCommand_63 (by decide) ?_
    refine lv_iload_n hx hb dX3_doScriptCommand_64 rfl (lv_at hl 0 rfl) ?_
    refine lv_bipush (v := 100) hx hb dX3_doScriptCommand_65 (by decide) ?_
    refine lv_irem hx hb dX3_doScriptCommand_67 (by decide) ?_
    refine lv_aload_n hx hb dX3_doScriptCommand_68 rfl (lv_at hl 1 rfl) ?_
    refine va_get (ci := 3) (v := .ref xc0) (C := RX3) (T := TX3) (N := 6) hx hb hts uX3_doScriptCommand_X3 hown hK hP 0 rfl rfl 2 (by decide) (hts _ mX3_doScriptCommand_23) (fun _ h9 => h9) rfl dX3_doScriptCommand_69 ?_
    obtain ⟨r2, bC2, qtC2, drC2, e2, h⟩ := zb4 h
    refine zSw (As := [.int ((irem a1 (100000)) / 100), .int (irem (irem a1 (100000)) 100), .ref xc0]) (rest := []) (zWi_q g _ _) ⟨hx, hb, hml, hown, hts⟩ (kX3_writeIfAllowed l g xc0 xc1 xc2 xc3 xc4 bC pFC pLC stC tmC qtC cmC dsC drC ((irem a1 (100000)) / 100) (irem (irem a1 (100000)) 100) e2) (va_cwS 3 hts gX3_doScriptCommand_X3_writeIfAllowed rfl rfl rfl hdS_X3_writeIfAllowed ⟨Nat.le_of_ble_eq_true rfl, Nat.le_of_ble_eq_true rfl⟩) hK hP hD hS hA [9, 10, 11, 12, 13] (by decide) rfl rfl rfl hl.1 rfl (Nat.le_of_ble_eq_true rfl) ⟨Nat.zero_le _, Nat.zero_le _⟩ dX3_doScriptCommand_72 (fun H locs hP hD hS => ?_)
    replace hP : zP g (zI g h0 xt0 xt1 xt2 xd0 xd1 xd2 xd3 xd4 xc0 xc1 xc2 xc3 xc4 xp0 xp1 xs0 xu0 xe0 xe1 xe2 xe3 xe4 xf0 xf1 xf2 xf3 xf4 ad ch nu le ta lt b pF pL st tm qt cm ds dr bC2 pFC pLC stC tmC qtC2 cmC dsC drC2 ol pz dvs us bS pFS pLS stS tmS qtS cmS dsS drS bT pFT pLT stT tmT qtT cmT dsT drT) H := hP
    replace hD : va_D A (zI g h0 xt0 xt1 xt2 xd0 xd1 xd2 xd3 xd4 xc0 xc1 xc2 xc3 xc4 xp0 xp1 xs0 xu0 xe0 xe1 xe2 xe3 xe4 xf0 xf1 xf2 xf3 xf4 ad ch nu le ta lt b pF pL st tm qt cm ds dr bC2 pFC pLC stC tmC qtC2 cmC dsC drC2 ol pz dvs us bS pFS pLS stS tmS qtS cmS dsS drS bT pFT pLT stT tmT qtT cmT dsT drT) := hD
    obtain ⟨i3, h⟩ := zi h
    cases h
    exact zw_z hx hb hr hlocks (Decidable.of_not_not i3) hP hS dX3_doScriptCommand_75
  replace h := zf c1 h
  by_cases c4 : (a1 / (100000)) = 2
  · replace h := zt c4 h
    refine lv_tableIn (tgt := 76) (off := 65) hx hb dX3_doScriptCommand_11 (by rw [c4]; decide) (by rw [c4]; decide) (by rw [c4]; rfl) (by decide) ?_
    refine lv_iload_n hx hb dX3_doScriptCommand_76 rfl (lv_at hl 0 rfl) ?_
    refine lv_bipush (v := 100) hx hb dX3_doScriptCommand_77 (by decide) ?_
    refine lv_idiv hx hb dX3_doScriptCommand_79 (by decide) ?_
    refine lv_iload_n hx hb dX3_doScriptCommand_80 rfl (lv_at hl 0 rfl) ?_
    refine lv_bipush (v := 100) hx hb dX3_doScriptCommand_81 (by decide) ?_
    refine lv_irem hx hb dX3_doScriptCommand_83 (by decide) ?_
    refine lv_aload_n hx hb dX3_doScriptCommand_84 rfl (lv_at hl 1 rfl) ?_
    refine va_get (ci := 3) (v := .ref xc0) (C := RX3) (T := TX3) (N := 6) hx hb hts uX3_doScriptCommand_X3 hown hK hP 0 rfl rfl 2 (by decide) (hts _ mX3_doScriptCommand_23) (fun _ h9 => h9) rfl dX3_doScriptCommand_85 ?_
    obtain ⟨r5, bC5, qtC5, drC5, e5, h⟩ := zb4 h
    refine zSw (As := [.int ((irem a1 (100000)) / 100), .int (irem (irem a1 (100000)) 100), .ref xc0]) (rest := []) (zWi_q g _ _) ⟨hx, hb, hml, hown, hts⟩ (kX3_freeIfAllowed l g xc0 xc1 xc2 xc3 xc4 bC pFC pLC stC tmC qtC cmC dsC drC ((irem a1 (100000)) / 100) (irem (irem a1 (100000)) 100) e5) (va_cwS 3 hts gX3_doScriptCommand_X3_freeIfAllowed rfl rfl rfl hdS_X3_freeIfAllowed ⟨Nat.le_of_ble_eq_true rfl, Nat.le_of_ble_eq_true rfl⟩) hK hP hD hS hA [9, 10, 11, 12, 13] (by decide) rfl rfl rfl hl.1 rfl (Nat.le_of_ble_eq_true rfl) ⟨Nat.zero_le _, Nat.zero_le _⟩ dX3_doScriptCommand_88 (fun H locs hP hD hS => ?_)
    replace hP : zP g (zI g h0 xt0 xt1 xt2 xd0 xd1 xd2 xd3 xd4 xc0 xc1 xc2 xc3 xc4 xp0 xp1 xs0 xu0 xe0 xe1 xe2 xe3 xe4 xf0 xf1 xf2 xf3 xf4 ad ch nu le ta lt b pF pL st tm qt cm ds dr bC5 pFC pLC stC tmC qtC5 cmC dsC drC5 ol pz dvs us bS pFS pLS stS tmS qtS cmS dsS drS bT pFT pLT stT tmT qtT cmT dsT drT) H := hP
    replace hD : va_D A (zI g h0 xt0 xt1 xt2 xd0 xd1 xd2 xd3 xd4 xc0 xc1 xc2 xc3 xc4 xp0 xp1 xs0 xu0 xe0 xe1 xe2 xe3 xe4 xf0 xf1 xf2 xf3 xf4 ad ch nu le ta lt b pF pL st tm qt cm ds dr bC5 pFC pLC stC tmC qtC5 cmC dsC drC5 ol pz dvs us bS pFS pLS stS tmS qtS cmS dsS drS bT pFT pLT stT tmT qtT cmT dsT drT) := hD
    obtain ⟨i6, h⟩ := zi h
    cases h
    exact zw_z hx hb hr hlocks (Decidable.of_not_not i6) hP hS dX3_doScriptCommand_91
  replace h := zf c4 h
  by_cases c7 : (a1 / (100000)) = 3
  · replace h := zt c7 h
    refine lv_tableIn (tgt := 92) (off := 81) hx hb dX3_doScriptCommand_11 (by rw [c7]; decide) (by rw [c7]; decide) (by rw [c7]; rfl) (by decide) ?_
    refine lv_iload_n hx hb dX3_doScriptCommand_92 rfl (lv_at hl 0 rfl) ?_
    refine lv_bipush (v := 60) hx hb dX3_doScriptCommand_93 (by decide) ?_
    obtain ⟨r8, e8, h⟩ := zb h
    refine zS (As := [.int (irem a1 (100000)), .int 60]) (rest := []) (zQi_q _) ⟨hx, hb, hml, hown, hts⟩ (kX3_isTicks l g (irem a1 (100000)) 60 e8) (va_cwS 2 hts gX3_doScriptCommand_X3_isTicks rfl rfl rfl hdS_X3_isTicks ⟨Nat.le_of_ble_eq_true rfl, Nat.le_of_ble_eq_true rfl⟩) hK hP [] rfl rfl hl.1 rfl (Nat.le_of_ble_eq_true rfl) ⟨Nat.zero_le _, Nat.zero_le _⟩ dX3_doScriptCommand_95 ?_
    refine lv_if_ne (tgt := 103) hx hb dX3_doScriptCommand_98 (by decide) (fun c9 => ?_) (fun c9 => ?_)
    · replace h := zf c9 h
      refine lv_aload_n hx hb dX3_doScriptCommand_103 rfl (lv_at hl 1 rfl) ?_
      refine va_get (ci := 3) (v := .ref xc0) (C := RX3) (T := TX3) (N := 6) hx hb hts uX3_doScriptCommand_X3 hown hK hP 0 rfl rfl 2 (by decide) (hts _ mX3_doScriptCommand_23) (fun _ h9 => h9) rfl dX3_doScriptCommand_104 ?_
      refine lv_iload_n hx hb dX3_doScriptCommand_107 rfl (lv_at hl 0 rfl) ?_
      obtain ⟨r10, bC10, tmC10, qtC10, cmC10, dsC10, drC10, e10, h⟩ := zb7 h
      refine zVw (As := [.int (irem a1 (100000))]) (rest := []) (zWi_q g _ _) ⟨hx, hb, hml, hown, hts⟩ (kX0_passTicks l g xc0 xc1 xc2 xc3 xc4 bC pFC pLC stC tmC qtC cmC dsC drC (irem a1 (100000)) e10) (cwV 1 hts gX3_doScriptCommand_X0_passTicks rfl rfl rfl hdV_X0_passTicks ⟨Nat.le_of_ble_eq_true rfl, Nat.le_of_ble_eq_true rfl⟩) hK hP hD hS hA [9, 10, 11, 12, 13] (by decide) rfl rfl 9 rfl rfl rfl hl.1 rfl (Nat.le_of_ble_eq_true rfl) ⟨Nat.zero_le _, Nat.zero_le _⟩ dX3_doScriptCommand_108 (fun H locs hP hD hS => ?_)
      replace hP : zP g (zI g h0 xt0 xt1 xt2 xd0 xd1 xd2 xd3 xd4 xc0 xc1 xc2 xc3 xc4 xp0 xp1 xs0 xu0 xe0 xe1 xe2 xe3 xe4 xf0 xf1 xf2 xf3 xf4 ad ch nu le ta lt b pF pL st tm qt cm ds dr bC10 pFC pLC stC tmC10 qtC10 cmC10 dsC10 drC10 ol pz dvs us bS pFS pLS stS tmS qtS cmS dsS drS bT pFT pLT stT tmT qtT cmT dsT drT) H := hP
      replace hD : va_D A (zI g h0 xt0 xt1 xt2 xd0 xd1 xd2 xd3 xd4 xc0 xc1 xc2 xc3 xc4 xp0 xp1 xs0 xu0 xe0 xe1 xe2 xe3 xe4 xf0 xf1 xf2 xf3 xf4 ad ch nu le ta lt b pF pL st tm qt cm ds dr bC10 pFC pLC stC tmC10 qtC10 cmC10 dsC10 drC10 ol pz dvs us bS pFS pLS stS tmS qtS cmS dsS drS bT pFT pLT stT tmT qtT cmT dsT drT) := hD
      refine lv_pop hx hb dX3_doScriptCommand_111 rfl ?_
      refine lv_iconst (v := 1) hx hb dX3_doScriptCommand_112 (by decide) ?_
      cases h
      exact zw_z hx hb hr hlocks (by decide) hP hS dX3_doScriptCommand_113
    · replace h := zt c9 h
      refine lv_iconst (v := 0) hx hb dX3_doScriptCommand_101 (by decide) ?_
      cases h
      exact zw_z hx hb hr hlocks (by decide) hP hS dX3_doScriptCommand_102
  replace h := zf c7 h
  by_cases c11 : (a1 / (100000)) = 4
  · replace h := zt c11 h
    refine lv_tableIn (tgt := 114) (off := 103) hx hb dX3_doScriptCommand_11 (by rw [c11]; decide) (by rw [c11]; decide) (by rw [c11]; rfl) (by decide) ?_
    refine lv_iload_n hx hb dX3_doScriptCommand_114 rfl (lv_at hl 0 rfl) ?_
    refine lv_bipush (v := 100) hx hb dX3_doScriptCommand_115 (by decide) ?_
    refine lv_irem hx hb dX3_doScriptCommand_117 (by decide) ?_
    refine lv_if_ne (tgt := 147) hx hb dX3_doScriptCommand_118 (by decide) (fun c12 => ?_) (fun c12 => ?_)
    · replace h := zf c12 h
      refine lv_iconst (v := 0) hx hb dX3_doScriptCommand_147 (by decide) ?_
      cases h
      exact zw_z hx hb hr hlocks (by decide) hP hS dX3_doScriptCommand_148
    · replace h := zt c12 h
      refine lv_iload_n hx hb dX3_doScriptCommand_121 rfl (lv_at hl 0 rfl) ?_
      refine lv_sipush (v := 10000) hx hb dX3_doScriptCommand_122 (by decide) ?_
      refine lv_idiv hx hb dX3_doScriptCommand_125 (by decide) ?_
      refine lv_iload_n hx hb dX3_doScriptCommand_126 rfl (lv_at hl 0 rfl) ?_
      refine lv_bipush (v := 100) hx hb dX3_doScriptCommand_127 (by decide) ?_
      refine lv_idiv hx hb dX3_doScriptCommand_129 (by decide) ?_
      refine lv_bipush (v := 100) hx hb dX3_doScriptCommand_130 (by decide) ?_
      refine lv_irem hx hb dX3_doScriptCommand_132 (by decide) ?_
      refine lv_aload_n hx hb dX3_doScriptCommand_133 rfl (lv_at hl 1 rfl) ?_
      refine va_get (ci := 3) (v := .ref xc0) (C := RX3) (T := TX3) (N := 6) hx hb hts uX3_doScriptCommand_X3 hown hK hP 0 rfl rfl 2 (by decide) (hts _ mX3_doScriptCommand_23) (fun _ h9 => h9) rfl dX3_doScriptCommand_134 ?_
      obtain ⟨r13, stC13, e13, h⟩ := zb2 h
      refine zSa (As := [.int ((irem a1 (100000)) / 10000), .int (irem ((irem a1 (100000)) / 100) 100), .ref xc0]) (rest := []) (zWi_q g _ _) ⟨hx, hb, hml, hown, hts⟩ (kX3_setIfAllowed l g xc0 xc1 xc2 xc3 xc4 bC pFC pLC stC tmC qtC cmC dsC drC ((irem a1 (100000)) / 10000) (irem ((irem a1 (100000)) / 100) 100) e13) (va_cwS 3 hts gX3_doScriptCommand_X3_setIfAllowed rfl rfl rfl hdS_X3_setIfAllowed ⟨Nat.le_of_ble_eq_true rfl, Nat.le_of_ble_eq_true rfl⟩) hK hP hD hS hA hAm [9, 10, 11, 12, 13] (by decide) rfl rfl rfl hl.1 rfl (Nat.le_of_ble_eq_true rfl) ⟨Nat.zero_le _, Nat.zero_le _⟩ dX3_doScriptCommand_137 (fun H locs hP hD hS => ?_)
      replace hP : zP g (zI g h0 xt0 xt1 xt2 xd0 xd1 xd2 xd3 xd4 xc0 xc1 xc2 xc3 xc4 xp0 xp1 xs0 xu0 xe0 xe1 xe2 xe3 xe4 xf0 xf1 xf2 xf3 xf4 ad ch nu le ta lt b pF pL st tm qt cm ds dr bC pFC pLC stC13 tmC qtC cmC dsC drC ol pz dvs us bS pFS pLS stS tmS qtS cmS dsS drS bT pFT pLT stT tmT qtT cmT dsT drT) H := hP
      replace hD : va_D A (zI g h0 xt0 xt1 xt2 xd0 xd1 xd2 xd3 xd4 xc0 xc1 xc2 xc3 xc4 xp0 xp1 xs0 xu0 xe0 xe1 xe2 xe3 xe4 xf0 xf1 xf2 xf3 xf4 ad ch nu le ta lt b pF pL st tm qt cm ds dr bC pFC pLC stC13 tmC qtC cmC dsC drC ol pz dvs us bS pFS pLS stS tmS qtS cmS dsS drS bT pFT pLT stT tmT qtT cmT dsT drT) := hD
      refine lv_if_eq (tgt := 147) hx hb dX3_doScriptCommand_140 (by decide) (fun c14 => ?_) (fun c14 => ?_)
      · replace h := zt c14 h
        refine lv_iconst (v := 0) hx hb dX3_doScriptCommand_147 (by decide) ?_
        cases h
        exact zw_z hx hb hr hlocks (by decide) hP hS dX3_doScriptCommand_148
      · replace h := zf c14 h
        refine lv_iconst (v := 1) hx hb dX3_doScriptCommand_143 (by decide) ?_
        refine lv_goto (tgt := 148) hx hb dX3_doScriptCommand_144 (by decide) ?_
        cases h
        exact zw_z hx hb hr hlocks (by decide) hP hS dX3_doScriptCommand_148
  replace h := zf c11 h
  by_cases c15 : (a1 / (100000)) = 5
  · replace h := zt c15 h
    refine lv_tableIn (tgt := 149) (off := 138) hx hb dX3_doScriptCommand_11 (by rw [c15]; decide) (by rw [c15]; decide) (by rw [c15]; rfl) (by decide) ?_
    refine lv_iload_n hx hb dX3_doScriptCommand_149 rfl (lv_at hl 0 rfl) ?_
    refine lv_if_eq (tgt := 155) hx hb dX3_doScriptCommand_150 (by decide) (fun c16 => ?_) (fun c16 => ?_)
    · replace h := zt c16 h
      refine lv_aload_n hx hb dX3_doScriptCommand_155 rfl (lv_at hl 1 rfl) ?_
      refine va_get (ci := 3) (v := .ref xc0) (C := RX3) (T := TX3) (N := 6) hx hb hts uX3_doScriptCommand_X3 hown hK hP 0 rfl rfl 2 (by decide) (hts _ mX3_doScriptCommand_23) (fun _ h9 => h9) rfl dX3_doScriptCommand_156 ?_
      obtain ⟨r17, bC17, cmC17, dsC17, drC17, e17, h⟩ := zb5 h
      refine zVw (As := []) (rest := []) (zWi_q g _ _) ⟨hx, hb, hml, hown, hts⟩ (kX0_sendAll l g xc0 xc1 xc2 xc3 xc4 bC pFC pLC stC tmC qtC cmC dsC drC e17) (cwV 0 hts gX3_doScriptCommand_X0_sendAll rfl rfl rfl hdV_X0_sendAll ⟨Nat.le_of_ble_eq_true rfl, Nat.le_of_ble_eq_true rfl⟩) hK hP hD hS hA [9, 10, 11, 12, 13] (by decide) rfl rfl 9 rfl rfl rfl hl.1 rfl (Nat.le_of_ble_eq_true rfl) ⟨Nat.zero_le _, Nat.zero_le _⟩ dX3_doScriptCommand_159 (fun H locs hP hD hS => ?_)
      replace hP : zP g (zI g h0 xt0 xt1 xt2 xd0 xd1 xd2 xd3 xd4 xc0 xc1 xc2 xc3 xc4 xp0 xp1 xs0 xu0 xe0 xe1 xe2 xe3 xe4 xf0 xf1 xf2 xf3 xf4 ad ch nu le ta lt b pF pL st tm qt cm ds dr bC17 pFC pLC stC tmC qtC cmC17 dsC17 drC17 ol pz dvs us bS pFS pLS stS tmS qtS cmS dsS drS bT pFT pLT stT tmT qtT cmT dsT drT) H := hP
      replace hD : va_D A (zI g h0 xt0 xt1 xt2 xd0 xd1 xd2 xd3 xd4 xc0 xc1 xc2 xc3 xc4 xp0 xp1 xs0 xu0 xe0 xe1 xe2 xe3 xe4 xf0 xf1 xf2 xf3 xf4 ad ch nu le ta lt b pF pL st tm qt cm ds dr bC17 pFC pLC stC tmC qtC cmC17 dsC17 drC17 ol pz dvs us bS pFS pLS stS tmS qtS cmS dsS drS bT pFT pLT stT tmT qtT cmT dsT drT) := hD
      refine lv_pop hx hb dX3_doScriptCommand_162 rfl ?_
      refine lv_iconst (v := 1) hx hb dX3_doScriptCommand_163 (by decide) ?_
      cases h
      exact zw_z hx hb hr hlocks (by decide) hP hS dX3_doScriptCommand_164
    · replace h := zf c16 h
      refine lv_iconst (v := 0) hx hb dX3_doScriptCommand_153 (by decide) ?_
      cases h
      exact zw_z hx hb hr hlocks (by decide) hP hS dX3_doScriptCommand_154
  replace h := zf c15 h
  by_cases c18 : (a1 / (100000)) = 6
  · replace h := zt c18 h
    refine lv_tableIn (tgt := 165) (off := 154) hx hb dX3_doScriptCommand_11 (by rw [c18]; decide) (by rw [c18]; decide) (by rw [c18]; rfl) (by decide) ?_
    refine lv_iload_n hx hb dX3_doScriptCommand_165 rfl (lv_at hl 0 rfl) ?_
    refine lv_bipush (v := 100) hx hb dX3_doScriptCommand_166 (by decide) ?_
    refine lv_idiv hx hb dX3_doScriptCommand_168 (by decide) ?_
    obtain ⟨r19, e19, h⟩ := zb h
    refine zS (As := [.int ((irem a1 (100000)) / 100)]) (rest := []) (zQi_q _) ⟨hx, hb, hml, hown, hts⟩ (kX3_isBlock l g ((irem a1 (100000)) / 100) e19) (va_cwS 1 hts gX3_doScriptCommand_X3_isBlock rfl rfl rfl hdS_X3_isBlock ⟨Nat.le_of_ble_eq_true rfl, Nat.le_of_ble_eq_true rfl⟩) hK hP [] rfl rfl hl.1 rfl (Nat.le_of_ble_eq_true rfl) ⟨Nat.zero_le _, Nat.zero_le _⟩ dX3_doScriptCommand_169 ?_
    refine lv_if_eq (tgt := 205) hx hb dX3_doScriptCommand_172 (by decide) (fun c20 => ?_) (fun c20 => ?_)
    · replace h := zt c20 h
      refine lv_iconst (v := 0) hx hb dX3_doScriptCommand_205 (by decide) ?_
      cases h
      exact zw_z hx hb hr hlocks (by decide) hP hS dX3_doScriptCommand_206
    · replace h := zf c20 h
      refine lv_iload_n hx hb dX3_doScriptCommand_175 rfl (lv_at hl 0 rfl) ?_
      refine lv_bipush (v := 100) hx hb dX3_doScriptCommand_176 (by decide) ?_
      refine lv_irem hx hb dX3_doScriptCommand_178 (by decide) ?_
      refine lv_aload_n hx hb dX3_doScriptCommand_179 rfl (lv_at hl 1 rfl) ?_
      refine va_get (ci := 3) (v := .ref xc0) (C := RX3) (T := TX3) (N := 6) hx hb hts uX3_doScriptCommand_X3 hown hK hP 0 rfl rfl 2 (by decide) (hts _ mX3_doScriptCommand_23) (fun _ h9 => h9) rfl dX3_doScriptCommand_180 ?_
      refine lv_iload_n hx hb dX3_doScriptCommand_183 rfl (lv_at hl 0 rfl) ?_
      refine lv_bipush (v := 100) hx hb dX3_doScriptCommand_184 (by decide) ?_
      refine lv_idiv hx hb dX3_doScriptCommand_186 (by decide) ?_
      obtain ⟨r21, e21, h⟩ := zb h
      refine zV (As := [.int ((irem a1 (100000)) / 100)]) (rest := [.int (irem (irem a1 (100000)) 100)]) (zQi_q _) ⟨hx, hb, hml, hown, hts⟩ (kX0_isHeld l g xc0 xc1 xc2 xc3 xc4 bC pFC pLC stC tmC qtC cmC dsC drC ((irem a1 (100000)) / 100) e21) (cwV 1 hts gX3_doScriptCommand_X0_isHeld rfl rfl rfl hdV_X0_isHeld ⟨Nat.le_of_ble_eq_true rfl, Nat.le_of_ble_eq_true rfl⟩) hK hP [9, 10, 11, 12, 13] rfl 9 rfl rfl rfl hl.1 rfl (Nat.le_of_ble_eq_true rfl) ⟨Nat.zero_le _, Nat.zero_le _⟩ dX3_doScriptCommand_187 ?_
      refine lv_if_eq (tgt := 197) hx hb dX3_doScriptCommand_190 (by decide) (fun c22 => ?_) (fun c22 => ?_)
      · replace h := zt c22 h
        refine lv_iconst (v := 0) hx hb dX3_doScriptCommand_197 (by decide) ?_
        refine lv_icmp_ne (tgt := 205) hx hb dX3_doScriptCommand_198 (by decide) (fun c23 => ?_) (fun c23 => ?_)
        · replace h := zf c23 h
          refine lv_iconst (v := 0) hx hb dX3_doScriptCommand_205 (by decide) ?_
          cases h
          exact zw_z hx hb hr hlocks (by decide) hP hS dX3_doScriptCommand_206
        · replace h := zt c23 h
          refine lv_iconst (v := 1) hx hb dX3_doScriptCommand_201 (by decide) ?_
          refine lv_goto (tgt := 206) hx hb dX3_doScriptCommand_202 (by decide) ?_
          cases h
          exact zw_z hx hb hr hlocks (by decide) hP hS dX3_doScriptCommand_206
      · replace h := zf c22 h
        refine lv_iconst (v := 1) hx hb dX3_doScriptCommand_193 (by decide) ?_
        refine lv_goto (tgt := 198) hx hb dX3_doScriptCommand_194 (by decide) ?_
        refine lv_icmp_ne (tgt := 205) hx hb dX3_doScriptCommand_198 (by decide) (fun c24 => ?_) (fun c24 => ?_)
        · replace h := zf c24 h
          refine lv_iconst (v := 0) hx hb dX3_doScriptCommand_205 (by decide) ?_
          cases h
          exact zw_z hx hb hr hlocks (by decide) hP hS dX3_doScriptCommand_206
        · replace h := zt c24 h
          refine lv_iconst (v := 1) hx hb dX3_doScriptCommand_201 (by decide) ?_
          refine lv_goto (tgt := 206) hx hb dX3_doScriptCommand_202 (by decide) ?_
          cases h
          exact zw_z hx hb hr hlocks (by decide) hP hS dX3_doScriptCommand_206
  replace h := zf c18 h
  by_cases c25 : (a1 / (100000)) = 7
  · replace h := zt c25 h
    refine lv_tableIn (tgt := 207) (off := 196) hx hb dX3_doScriptCommand_11 (by rw [c25]; decide) (by rw [c25]; decide) (by rw [c25]; rfl) (by decide) ?_
    refine lv_iload_n hx hb dX3_doScriptCommand_207 rfl (lv_at hl 0 rfl) ?_
    refine lv_sipush (v := 1000) hx hb dX3_doScriptCommand_208 (by decide) ?_
    refine lv_icmp_ge (tgt := 229) hx hb dX3_doScriptCommand_211 (by decide) (fun c26 => ?_) (fun c26 => ?_)
    · replace h := zt c26 h
      refine lv_iconst (v := 0) hx hb dX3_doScriptCommand_229 (by decide) ?_
      cases h
      exact zw_z hx hb hr hlocks (by decide) hP hS dX3_doScriptCommand_230
    · replace h := zf c26 h
      refine lv_aload_n hx hb dX3_doScriptCommand_214 rfl (lv_at hl 1 rfl) ?_
      refine va_get (ci := 3) (v := .ref xc0) (C := RX3) (T := TX3) (N := 6) hx hb hts uX3_doScriptCommand_X3 hown hK hP 0 rfl rfl 2 (by decide) (hts _ mX3_doScriptCommand_23) (fun _ h9 => h9) rfl dX3_doScriptCommand_215 ?_
      obtain ⟨r27, e27, h⟩ := zb h
      refine zV (As := []) (rest := []) (zQi_q _) ⟨hx, hb, hml, hown, hts⟩ (kX0_countQueued l g xc0 xc1 xc2 xc3 xc4 bC pFC pLC stC tmC qtC cmC dsC drC e27) (cwV 0 hts gX3_doScriptCommand_X0_countQueued rfl rfl rfl hdV_X0_countQueued ⟨Nat.le_of_ble_eq_true rfl, Nat.le_of_ble_eq_true rfl⟩) hK hP [9, 10, 11, 12, 13] rfl 9 rfl rfl rfl hl.1 rfl (Nat.le_of_ble_eq_true rfl) ⟨Nat.zero_le _, Nat.zero_le _⟩ dX3_doScriptCommand_218 ?_
      refine lv_iload_n hx hb dX3_doScriptCommand_221 rfl (lv_at hl 0 rfl) ?_
      refine lv_icmp_gt (tgt := 229) hx hb dX3_doScriptCommand_222 (by decide) (fun c28 => ?_) (fun c28 => ?_)
      · replace h := zt c28 h
        refine lv_iconst (v := 0) hx hb dX3_doScriptCommand_229 (by decide) ?_
        cases h
        exact zw_z hx hb hr hlocks (by decide) hP hS dX3_doScriptCommand_230
      · replace h := zf c28 h
        refine lv_iconst (v := 1) hx hb dX3_doScriptCommand_225 (by decide) ?_
        refine lv_goto (tgt := 230) hx hb dX3_doScriptCommand_226 (by decide) ?_
        cases h
        exact zw_z hx hb hr hlocks (by decide) hP hS dX3_doScriptCommand_230
  replace h := zf c25 h
  by_cases c29 : (a1 / (100000)) = 8
  · replace h := zt c29 h
    refine lv_tableIn (tgt := 231) (off := 220) hx hb dX3_doScriptCommand_11 (by rw [c29]; decide) (by rw [c29]; decide) (by rw [c29]; rfl) (by decide) ?_
    refine lv_iload_n hx hb dX3_doScriptCommand_231 rfl (lv_at hl 0 rfl) ?_
    refine lv_bipush (v := 100) hx hb dX3_doScriptCommand_232 (by decide) ?_
    refine lv_icmp_ge (tgt := 252) hx hb dX3_doScriptCommand_234 (by decide) (fun c30 => ?_) (fun c30 => ?_)
    · replace h := zt c30 h
      refine lv_iconst (v := 0) hx hb dX3_doScriptCommand_252 (by decide) ?_
      cases h
      exact zw_z hx hb hr hlocks (by decide) hP hS dX3_doScriptCommand_253
    · replace h := zf c30 h
      refine lv_aload_n hx hb dX3_doScriptCommand_237 rfl (lv_at hl 1 rfl) ?_
      refine va_get (ci := 3) (v := .ref xc0) (C := RX3) (T := TX3) (N := 6) hx hb hts uX3_doScriptCommand_X3 hown hK hP 0 rfl rfl 2 (by decide) (hts _ mX3_doScriptCommand_23) (fun _ h9 => h9) rfl dX3_doScriptCommand_238 ?_
      obtain ⟨r31, e31, h⟩ := zb h
      refine zV (As := []) (rest := []) (zQi_q _) ⟨hx, hb, hml, hown, hts⟩ (kX0_countRanges l g xc0 xc1 xc2 xc3 xc4 bC pFC pLC stC tmC qtC cmC dsC drC e31) (cwV 0 hts gX3_doScriptCommand_X0_countRanges rfl rfl rfl hdV_X0_countRanges ⟨Nat.le_of_ble_eq_true rfl, Nat.le_of_ble_eq_true rfl⟩) hK hP [9, 10, 11, 12, 13] rfl 9 rfl rfl rfl hl.1 rfl (Nat.le_of_ble_eq_true rfl) ⟨Nat.zero_le _, Nat.zero_le _⟩ dX3_doScriptCommand_241 ?_
      refine lv_iload_n hx hb dX3_doScriptCommand_244 rfl (lv_at hl 0 rfl) ?_
      refine lv_icmp_lt (tgt := 252) hx hb dX3_doScriptCommand_245 (by decide) (fun c32 => ?_) (fun c32 => ?_)
      · replace h := zt c32 h
        refine lv_iconst (v := 0) hx hb dX3_doScriptCommand_252 (by decide) ?_
        cases h
        exact zw_z hx hb hr hlocks (by decide) hP hS dX3_doScriptCommand_253
      · replace h := zf c32 h
        refine lv_iconst (v := 1) hx hb dX3_doScriptCommand_248 (by decide) ?_
        refine lv_goto (tgt := 253) hx hb dX3_doScriptCommand_249 (by decide) ?_
        cases h
        exact zw_z hx hb hr hlocks (by decide) hP hS dX3_doScriptCommand_253
  replace h := zf c29 h
  by_cases c33 : (a1 / (100000)) = 9
  · replace h := zt c33 h
    refine lv_tableIn (tgt := 254) (off := 243) hx hb dX3_doScriptCommand_11 (by rw [c33]; decide) (by rw [c33]; decide) (by rw [c33]; rfl) (by decide) ?_
    refine lv_iload_n hx hb dX3_doScriptCommand_254 rfl (lv_at hl 0 rfl) ?_
    refine lv_bipush (v := 100) hx hb dX3_doScriptCommand_255 (by decide) ?_
    refine lv_idiv hx hb dX3_doScriptCommand_257 (by decide) ?_
    obtain ⟨r34, e34, h⟩ := zb h
    refine zS (As := [.int ((irem a1 (100000)) / 100)]) (rest := []) (zQi_q _) ⟨hx, hb, hml, hown, hts⟩ (kX3_isBlock l g ((irem a1 (100000)) / 100) e34) (va_cwS 1 hts gX3_doScriptCommand_X3_isBlock rfl rfl rfl hdS_X3_isBlock ⟨Nat.le_of_ble_eq_true rfl, Nat.le_of_ble_eq_true rfl⟩) hK hP [] rfl rfl hl.1 rfl (Nat.le_of_ble_eq_true rfl) ⟨Nat.zero_le _, Nat.zero_le _⟩ dX3_doScriptCommand_258 ?_
    refine lv_if_eq (tgt := 294) hx hb dX3_doScriptCommand_261 (by decide) (fun c35 => ?_) (fun c35 => ?_)
    · replace h := zt c35 h
      refine lv_iconst (v := 0) hx hb dX3_doScriptCommand_294 (by decide) ?_
      cases h
      exact zw_z hx hb hr hlocks (by decide) hP hS dX3_doScriptCommand_295
    · replace h := zf c35 h
      refine lv_iload_n hx hb dX3_doScriptCommand_264 rfl (lv_at hl 0 rfl) ?_
      refine lv_bipush (v := 100) hx hb dX3_doScriptCommand_265 (by decide) ?_
      refine lv_irem hx hb dX3_doScriptCommand_267 (by decide) ?_
      refine lv_aload_n hx hb dX3_doScriptCommand_268 rfl (lv_at hl 1 rfl) ?_
      refine va_get (ci := 3) (v := .ref xc0) (C := RX3) (T := TX3) (N := 6) hx hb hts uX3_doScriptCommand_X3 hown hK hP 0 rfl rfl 2 (by decide) (hts _ mX3_doScriptCommand_23) (fun _ h9 => h9) rfl dX3_doScriptCommand_269 ?_
      refine lv_iload_n hx hb dX3_doScriptCommand_272 rfl (lv_at hl 0 rfl) ?_
      refine lv_bipush (v := 100) hx hb dX3_doScriptCommand_273 (by decide) ?_
      refine lv_idiv hx hb dX3_doScriptCommand_275 (by decide) ?_
      obtain ⟨r36, e36, h⟩ := zb h
      refine zV (As := [.int ((irem a1 (100000)) / 100)]) (rest := [.int (irem (irem a1 (100000)) 100)]) (zQi_q _) ⟨hx, hb, hml, hown, hts⟩ (kX0_isAlive l g xc0 xc1 xc2 xc3 xc4 bC pFC pLC stC tmC qtC cmC dsC drC ((irem a1 (100000)) / 100) e36) (cwV 1 hts gX3_doScriptCommand_X0_isAlive rfl rfl rfl hdV_X0_isAlive ⟨Nat.le_of_ble_eq_true rfl, Nat.le_of_ble_eq_true rfl⟩) hK hP [9, 10, 11, 12, 13] rfl 9 rfl rfl rfl hl.1 rfl (Nat.le_of_ble_eq_true rfl) ⟨Nat.zero_le _, Nat.zero_le _⟩ dX3_doScriptCommand_276 ?_
      refine lv_if_eq (tgt := 286) hx hb dX3_doScriptCommand_279 (by decide) (fun c37 => ?_) (fun c37 => ?_)
      · replace h := zt c37 h
        refine lv_iconst (v := 0) hx hb dX3_doScriptCommand_286 (by decide) ?_
        refine lv_icmp_ne (tgt := 294) hx hb dX3_doScriptCommand_287 (by decide) (fun c38 => ?_) (fun c38 => ?_)
        · replace h := zf c38 h
          refine lv_iconst (v := 0) hx hb dX3_doScriptCommand_294 (by decide) ?_
          cases h
          exact zw_z hx hb hr hlocks (by decide) hP hS dX3_doScriptCommand_295
        · replace h := zt c38 h
          refine lv_iconst (v := 1) hx hb dX3_doScriptCommand_290 (by decide) ?_
          refine lv_goto (tgt := 295) hx hb dX3_doScriptCommand_291 (by decide) ?_
          cases h
          exact zw_z hx hb hr hlocks (by decide) hP hS dX3_doScriptCommand_295
      · replace h := zf c37 h
        refine lv_iconst (v := 1) hx hb dX3_doScriptCommand_282 (by decide) ?_
        refine lv_goto (tgt := 287) hx hb dX3_doScriptCommand_283 (by decide) ?_
        refine lv_icmp_ne (tgt := 294) hx hb dX3_doScriptCommand_287 (by decide) (fun c39 => ?_) (fun c39 => ?_)
        · replace h := zf c39 h
          refine lv_iconst (v := 0) hx hb dX3_doScriptCommand_294 (by decide) ?_
          cases h
          exact zw_z hx hb hr hlocks (by decide) hP hS dX3_doScriptCommand_295
        · replace h := zt c39 h
          refine lv_iconst (v := 1) hx hb dX3_doScriptCommand_290 (by decide) ?_
          refine lv_goto (tgt := 295) hx hb dX3_doScriptCommand_291 (by decide) ?_
          cases h
          exact zw_z hx hb hr hlocks (by decide) hP hS dX3_doScriptCommand_295
  replace h := zf c33 h
  refine lv_tableOut (tgt := 296) hx hb dX3_doScriptCommand_11 (by have n1 := lv_neT (a := 1) c1 (by decide); have n4 := lv_neT (a := 2) c4 (by decide); have n7 := lv_neT (a := 3) c7 (by decide); have n11 := lv_neT (a := 4) c11 (by decide); have n15 := lv_neT (a := 5) c15 (by decide); have n18 := lv_neT (a := 6) c18 (by decide); have n25 := lv_neT (a := 7) c25 (by decide); have n29 := lv_neT (a := 8) c29 (by decide); have n33 := lv_neT (a := 9) c33 (by decide); omega) (by decide) ?_
  refine lv_iconst (v := 0) hx hb dX3_doScriptCommand_296 (by decide) ?_
  cases h
  exact zw_z hx hb hr hlocks (by decide) hP hS dX3_doScriptCommand_297
theorem hdS_X3_groupsFrom : yX3_groupsFrom.cls ≠ "java/lang/invoke/MethodHandle" ∧ yX3_groupsFrom.cls ≠ "java/lang/invoke/VarHandle" ∧ (parseMethodDescriptor yX3_groupsFrom.desc).map (fun d => d.parameters.length) = some 2 := by decide +kernel
theorem hdV_X3_doScriptCommand : yX3_doScriptCommand.cls = RX3 ∧ yX3_doScriptCommand.cls ≠ "java/lang/invoke/MethodHandle" ∧ yX3_doScriptCommand.cls ≠ "java/lang/invoke/VarHandle" ∧ (parseMethodDescriptor yX3_doScriptCommand.desc).map (fun d => d.parameters.length) = some 1 := by decide +kernel
def fX3_runScript_62  : Nat → Int32 → Int64 → Int32 → (Nat → Int32) → (Nat → Int32) → (Nat → Int32) → (Nat → Int32) → (Int32) → (Int32) → (Int32) → (Int32) → (Int32) → Option (Int32 × Int32 × (Nat → Int32) × (Nat → Int32) × (Nat → Int32) × (Nat → Int32) × (Int32) × (Int32) × (Int32) × (Int32) × (Int32))
  | 0, _, _, _, _, _, _, _, _, _, _, _, _ => none
  | n + 1, v1, v2, v4, bC, pFC, pLC, stC, tmC, qtC, cmC, dsC, drC =>
    if v1 ≤ v4 then
        some (0, (-1), bC, pFC, pLC, stC, tmC, qtC, cmC, dsC, drC)
      else
        ob (fX3_groupsFrom v2 ((v1 - 1) - v4)) fun r2 =>
        ob8 (fX3_doScriptCommand bC pFC pLC stC tmC qtC cmC dsC drC ((lrem r2 (1000000)).toInt32)) fun r3 bC3 stC3 tmC3 qtC3 cmC3 dsC3 drC3 =>
        if r3 = 0 then
          some (0, v4, bC3, pFC, pLC, stC3, tmC3, qtC3, cmC3, dsC3, drC3)
        else
          fX3_runScript_62 n v1 v2 (v4 + 1) bC3 pFC pLC stC3 tmC3 qtC3 cmC3 dsC3 drC3
def fX3_runScript (b : Nat → Int32) (pF : Nat → Int32) (pL : Nat → Int32) (st : Nat → Int32) (tm : Int32) (qt : Int32) (cm : Int32) (ds : Int32) (dr : Int32) (bC : Nat → Int32) (pFC : Nat → Int32) (pLC : Nat → Int32) (stC : Nat → Int32) (tmC : Int32) (qtC : Int32) (cmC : Int32) (dsC : Int32) (drC : Int32) (a1 : Int32) (a2 : Int64) : Option (Int32 × Int32 × (Nat → Int32) × (Nat → Int32) × (Nat → Int32) × (Nat → Int32) × (Int32) × (Int32) × (Int32) × (Int32) × (Int32)) :=
  if a1 < 1 then
    some (2, 0, bC, pFC, pLC, stC, tmC, qtC, cmC, dsC, drC)
  else
    if a1 ≤ 3 then
      if (lg_cmp a2 0) < 0 then
        some (2, 0, bC, pFC, pLC, stC, tmC, qtC, cmC, dsC, drC)
      else
        ob (fX3_groupsFrom a2 a1) fun r8 =>
        if (lg_cmp r8 0) ≤ 0 then
          ob9 (fX0_copyFrom bC pFC pLC stC b pF pL st tm qt cm ds dr) fun bC10 pFC10 pLC10 stC10 tmC10 qtC10 cmC10 dsC10 drC10 =>
          fX3_runScript_62 1000 a1 a2 0 bC10 pFC10 pLC10 stC10 tmC10 qtC10 cmC10 dsC10 drC10
        else
          some (2, 0, bC, pFC, pLC, stC, tmC, qtC, cmC, dsC, drC)
    else
      some (2, 0, bC, pFC, pLC, stC, tmC, qtC, cmC, dsC, drC)
theorem mX3_runScript_285 : Cond.constantLong RX3 285 (1000000) ∈ wsX3_runScript := by decide +kernel
theorem mX3_runScript_k41 : Cond.classLink RX3 41 (zE 2) ∈ wsX3_runScript := by decide +kernel
theorem mX3_runScript_j41 : Cond.initialized (zE 2) ∈ wsX3_runScript := by decide +kernel
theorem mX3_runScript_a41 : ∀ w ∈ (vx_atS RX3 45 (zE 2) ["java/lang/RuntimeException", "java/lang/Exception"]).filter goodWord, w ∈ wsX3_runScript := by decide +kernel
theorem mX3_runScript_23 : Cond.fieldLink RX3 23 "IdleDiscards" "copy" "LIdleDiscards$Device;" ∈ wsX3_runScript := by decide +kernel
theorem uX3_runScript_X3 : ∀ w ∈ wsX30, w ∈ wsX3_runScript := by decide +kernel
theorem mX3_runScript_19 : Cond.fieldLink RX3 19 "IdleDiscards" "device" "LIdleDiscards$Device;" ∈ wsX3_runScript := by decide +kernel
set_option maxRecDepth 100000 in
set_option maxHeartbeats 4000000 in
theorem kX3_runScript (l : Launch) (g : zG) (h0 xt0 xt1 xt2 xd0 xd1 xd2 xd3 xd4 xc0 xc1 xc2 xc3 xc4 xp0 xp1 xs0 xu0 xe0 xe1 xe2 xe3 xe4 xf0 xf1 xf2 xf3 xf4 : Nat) (ad : Nat → Nat → Nat) (ch : Nat → Int32) (nu : Nat → Int32) (le : Int32) (ta : Int32) (lt : Int32) (b : Nat → Int32) (pF : Nat → Int32) (pL : Nat → Int32) (st : Nat → Int32) (tm : Int32) (qt : Int32) (cm : Int32) (ds : Int32) (dr : Int32) (bC : Nat → Int32) (pFC : Nat → Int32) (pLC : Nat → Int32) (stC : Nat → Int32) (tmC : Int32) (qtC : Int32) (cmC : Int32) (dsC : Int32) (drC : Int32) (ol : Int32) (pz : Int32) (dvs : Nat → zDv) (us : Nat → Int32) (bS : Nat → Int32) (pFS : Nat → Int32) (pLS : Nat → Int32) (stS : Nat → Int32) (tmS : Int32) (qtS : Int32) (cmS : Int32) (dsS : Int32) (drS : Int32) (bT : Nat → Int32) (pFT : Nat → Int32) (pLT : Nat → Int32) (stT : Nat → Int32) (tmT : Int32) (qtT : Int32) (cmT : Int32) (dsT : Int32) (drT : Int32) (a1 : Int32) (a2 : Int64) (htr : l.stackTraces = false) {k : Int32} {r : Int32} {bC' : Nat → Int32} {pFC' : Nat → Int32} {pLC' : Nat → Int32} {stC' : Nat → Int32} {tmC' : Int32} {qtC' : Int32} {cmC' : Int32} {dsC' : Int32} {drC' : Int32} (h : fX3_runScript b pF pL st tm qt cm ds dr bC pFC pLC stC tmC qtC cmC dsC drC a1 a2 = some (k, r, bC', pFC', pLC', stC', tmC', qtC', cmC', dsC', drC')) : Mx l g yX3_runScript wsX3_runScript { frames := 6, cells := 1, slots := 6, locals := 145 } [.ref h0, .int a1, .long a2] (zI g h0 xt0 xt1 xt2 xd0 xd1 xd2 xd3 xd4 xc0 xc1 xc2 xc3 xc4 xp0 xp1 xs0 xu0 xe0 xe1 xe2 xe3 xe4 xf0 xf1 xf2 xf3 xf4 ad ch nu le ta lt b pF pL st tm qt cm ds dr bC pFC pLC stC tmC qtC cmC dsC drC ol pz dvs us bS pFS pLS stS tmS qtS cmS dsS drS bT pFT pLT stT tmT qtT cmT dsT drT) (zXi g (zI g h0 xt0 xt1 xt2 xd0 xd1 xd2 xd3 xd4 xc0 xc1 xc2 xc3 xc4 xp0 xp1 xs0 xu0 xe0 xe1 xe2 xe3 xe4 xf0 xf1 xf2 xf3 xf4 ad ch nu le ta lt b pF pL st tm qt cm ds dr bC' pFC' pLC' stC' tmC' qtC' cmC' dsC' drC' ol pz dvs us bS pFS pLS stS tmS qtS cmS dsS drS bT pFT pLT stT tmT qtT cmT dsT drT) k r) (zXx g (zI g h0 xt0 xt1 xt2 xd0 xd1 xd2 xd3 xd4 xc0 xc1 xc2 xc3 xc4 xp0 xp1 xs0 xu0 xe0 xe1 xe2 xe3 xe4 xf0 xf1 xf2 xf3 xf4 ad ch nu le ta lt b pF pL st tm qt cm ds dr bC' pFC' pLC' stC' tmC' qtC' cmC' dsC' drC' ol pz dvs us bS pFS pLS stS tmS qtS cmS dsS drS bT pFT pLT stT tmT qtT cmT dsT drT) k) 1 6 := by
  refine zx_in (cc := cX3_runScript) (maxL := 6) (ret := (some .int)) (by decide) rfl (Nat.le_of_ble_eq_true rfl) ?_
  intro p e s m below meth c hx hb hr hml hts hown hlocks hK ht A hA hP hD hS hAm ls hl
  replace hl : lv_has ls 6 [(0, .ref h0), (1, .int a1), (2, .long a2)] := hl
  have loop_62 : ∀ (n : Nat) (v1 : Int32) (v2 : Int64) (v4 : Int32) (bC : (Nat → Int32)) (pFC : (Nat → Int32)) (pLC : (Nat → Int32)) (stC : (Nat → Int32)) (tmC : (Int32)) (qtC : (Int32)) (cmC : (Int32)) (dsC : (Int32)) (drC : (Int32)), fX3_runScript_62 n v1 v2 v4 bC pFC pLC stC tmC qtC cmC dsC drC = some (k, r, bC', pFC', pLC', stC', tmC', qtC', cmC', dsC', drC') → ∀ (H : Heap) (locs : List Loc), zP g (zI g h0 xt0 xt1 xt2 xd0 xd1 xd2 xd3 xd4 xc0 xc1 xc2 xc3 xc4 xp0 xp1 xs0 xu0 xe0 xe1 xe2 xe3 xe4 xf0 xf1 xf2 xf3 xf4 ad ch nu le ta lt b pF pL st tm qt cm ds dr bC pFC pLC stC tmC qtC cmC dsC drC ol pz dvs us bS pFS pLS stS tmS qtS cmS dsS drS bT pFT pLT stT tmT qtT cmT dsT drT) H → va_D A (zI g h0 xt0 xt1 xt2 xd0 xd1 xd2 xd3 xd4 xc0 xc1 xc2 xc3 xc4 xp0 xp1 xs0 xu0 xe0 xe1 xe2 xe3 xe4 xf0 xf1 xf2 xf3 xf4 ad ch nu le ta lt b pF pL st tm qt cm ds dr bC pFC pLC stC tmC qtC cmC dsC drC ol pz dvs us bS pFS pLS stS tmS qtS cmS dsS drS bT pFT pLT stT tmT qtT cmT dsT drT) → va_S A s.heap H locs → ∀ (ls : Array Slot), lv_has ls 6 [(0, .ref h0), (1, .int v1), (2, .long v2), (4, .int v4)] → W p l e ({ frames := 6, cells := 1, slots := 6, locals := 145 } : Room) s m [.ref h0, .int a1, .long a2].toArray below meth c H locs 0 0 (vx_MQ below (zXi g (zI g h0 xt0 xt1 xt2 xd0 xd1 xd2 xd3 xd4 xc0 xc1 xc2 xc3 xc4 xp0 xp1 xs0 xu0 xe0 xe1 xe2 xe3 xe4 xf0 xf1 xf2 xf3 xf4 ad ch nu le ta lt b pF pL st tm qt cm ds dr bC' pFC' pLC' stC' tmC' qtC' cmC' dsC' drC' ol pz dvs us bS pFS pLS stS tmS qtS cmS dsS drS bT pFT pLT stT tmT qtT cmT dsT drT) k r A) (zXx g (zI g h0 xt0 xt1 xt2 xd0 xd1 xd2 xd3 xd4 xc0 xc1 xc2 xc3 xc4 xp0 xp1 xs0 xu0 xe0 xe1 xe2 xe3 xe4 xf0 xf1 xf2 xf3 xf4 ad ch nu le ta lt b pF pL st tm qt cm ds dr bC' pFC' pLC' stC' tmC' qtC' cmC' dsC' drC' ol pz dvs us bS pFS pLS stS tmS qtS cmS dsS drS bT pFT pLT stT tmT qtT cmT dsT drT) k A) [.ref h0, .int a1, .long a2].toArray s 1 6 A) (F0 m 62 ls []) := by
    intro n
    induction n with
    | zero => intro v1 v2 v4 bC pFC pLC stC tmC qtC cmC dsC drC h H locs hP hD hS ls hl; exact zn h
    | succ n ih =>
      intro v1 v2 v4 bC pFC pLC stC tmC qtC cmC dsC drC h H locs hP hD hS ls hl
      rw [fX3_runScript_62] at h
      refine lv_iload hx hb dX3_runScript_62 (lv_at hl 3 rfl) ?_
      refine lv_iload_n hx hb dX3_runScript_64 rfl (lv_at hl 1 rfl) ?_
      refine lv_icmp_ge (tgt := 103) hx hb dX3_runScript_65 (by decide) (fun c1 => ?_) (fun c1 => ?_)
      · replace h := zt c1 h
        refine lv_iconst (v := (-1)) hx hb dX3_runScript_103 (by decide) ?_
        cases h
        exact zx_i hx hb hr hlocks hP hS (by decide) (by decide) dX3_runScript_104
      · replace h := zf c1 h
        refine lv_lload_n hx hb dX3_runScript_68 rfl (lv_at hl 2 rfl) ?_
        refine lv_iload_n hx hb dX3_runScript_69 rfl (lv_at hl 1 rfl) ?_
        refine lv_iconst (v := 1) hx hb dX3_runScript_70 (by decide) ?_
        refine lv_isub hx hb dX3_runScript_71 ?_
        refine lv_iload hx hb dX3_runScript_72 (lv_at hl 3 rfl) ?_
        refine lv_isub hx hb dX3_runScript_74 ?_
        obtain ⟨r2, e2, h⟩ := zb h
        refine zS (As := [.long v2, .int ((v1 - 1) - v4)]) (rest := []) (zQl_q _) ⟨hx, hb, hml, hown, hts⟩ (kX3_groupsFrom l g v2 ((v1 - 1) - v4) e2) (va_cwS 2 hts gX3_runScript_X3_groupsFrom rfl rfl rfl hdS_X3_groupsFrom ⟨Nat.le_of_ble_eq_true rfl, Nat.le_of_ble_eq_true rfl⟩) hK hP [] rfl rfl hl.1 rfl (Nat.le_of_ble_eq_true rfl) ⟨Nat.le_of_ble_eq_true rfl, Nat.le_of_ble_eq_true rfl⟩ dX3_runScript_75 ?_
        refine lv_ldc2 hx hb hown (hts _ mX3_runScript_285) dX3_runScript_78 ?_
        refine lv_lrem hx hb dX3_runScript_81 (by decide) ?_
        refine lv_l2i (v := (lrem r2 (1000000)).toInt32) hx hb dX3_runScript_82 rfl ?_
        refine lv_istore (lv' := [(5, .int ((lrem r2 (1000000)).toInt32)), (0, .ref h0), (1, .int v1), (2, .long v2), (4, .int v4)]) hx hb dX3_runScript_83 hl (by decide) rfl (fun ls hl => ?_)
        refine lv_aload_n hx hb dX3_runScript_85 rfl (lv_at hl 1 rfl) ?_
        refine lv_iload hx hb dX3_runScript_86 (lv_at hl 0 rfl) ?_
        obtain ⟨r3, bC3, stC3, tmC3, qtC3, cmC3, dsC3, drC3, e3, h⟩ := zb8 h
        refine zVaA (As := [.int ((lrem r2 (1000000)).toInt32)]) (rest := []) (zWi_q g _ _) ⟨hx, hb, hml, hown, hts⟩ (kX3_doScriptCommand l g h0 xt0 xt1 xt2 xd0 xd1 xd2 xd3 xd4 xc0 xc1 xc2 xc3 xc4 xp0 xp1 xs0 xu0 xe0 xe1 xe2 xe3 xe4 xf0 xf1 xf2 xf3 xf4 ad ch nu le ta lt b pF pL st tm qt cm ds dr bC pFC pLC stC tmC qtC cmC dsC drC ol pz dvs us bS pFS pLS stS tmS qtS cmS dsS drS bT pFT pLT stT tmT qtT cmT dsT drT ((lrem r2 (1000000)).toInt32) e3) (cwV 1 hts gX3_runScript_X3_doScriptCommand rfl rfl rfl hdV_X3_doScriptCommand ⟨Nat.le_of_ble_eq_true rfl, Nat.le_of_ble_eq_true rfl⟩) hK hP hD hS hA hAm (by rfl) 0 rfl rfl rfl hl.1 rfl (Nat.le_of_ble_eq_true rfl) ⟨Nat.le_of_ble_eq_true rfl, Nat.le_of_ble_eq_true rfl⟩ dX3_runScript_88 (fun H locs hP hD hS => ?_)
        replace hP : zP g (zI g h0 xt0 xt1 xt2 xd0 xd1 xd2 xd3 xd4 xc0 xc1 xc2 xc3 xc4 xp0 xp1 xs0 xu0 xe0 xe1 xe2 xe3 xe4 xf0 xf1 xf2 xf3 xf4 ad ch nu le ta lt b pF pL st tm qt cm ds dr bC3 pFC pLC stC3 tmC3 qtC3 cmC3 dsC3 drC3 ol pz dvs us bS pFS pLS stS tmS qtS cmS dsS drS bT pFT pLT stT tmT qtT cmT dsT drT) H := hP
        replace hD : va_D A (zI g h0 xt0 xt1 xt2 xd0 xd1 xd2 xd3 xd4 xc0 xc1 xc2 xc3 xc4 xp0 xp1 xs0 xu0 xe0 xe1 xe2 xe3 xe4 xf0 xf1 xf2 xf3 xf4 ad ch nu le ta lt b pF pL st tm qt cm ds dr bC3 pFC pLC stC3 tmC3 qtC3 cmC3 dsC3 drC3 ol pz dvs us bS pFS pLS stS tmS qtS cmS dsS drS bT pFT pLT stT tmT qtT cmT dsT drT) := hD
        refine lv_if_ne (tgt := 97) hx hb dX3_runScript_91 (by decide) (fun c4 => ?_) (fun c4 => ?_)
        · replace h := zf c4 h
          refine lv_iinc (v := (v4 + 1)) (lv' := [(4, .int (v4 + 1)), (5, .int ((lrem r2 (1000000)).toInt32)), (0, .ref h0), (1, .int v1), (2, .long v2)]) hx hb dX3_runScript_97 hl (k := 4) rfl rfl (by decide) rfl (fun ls hl => ?_)
          refine lv_goto (tgt := 62) hx hb dX3_runScript_100 (by decide) ?_
          exact ih v1 v2 (v4 + 1) bC3 pFC pLC stC3 tmC3 qtC3 cmC3 dsC3 drC3 h H locs hP hD hS ls (lv_sub hl [2, 3, 4, 0] rfl)
        · replace h := zt c4 h
          refine lv_iload hx hb dX3_runScript_94 (lv_at hl 4 rfl) ?_
          cases h
          exact zx_i hx hb hr hlocks hP hS (by decide) (by decide) dX3_runScript_96
  unfold fX3_runScript at h
  refine lv_iload_n hx hb dX3_runScript_0 rfl (lv_at hl 1 rfl) ?_
  refine lv_iconst (v := 1) hx hb dX3_runScript_1 (by decide) ?_
  refine lv_icmp_lt (tgt := 10) hx hb dX3_runScript_2 (by decide) (fun c5 => ?_) (fun c5 => ?_)
  · replace h := zt c5 h
    cases h
    exact zx_throwW (text := "no such number of commands") hx hb htr hown hts (by decide) zEx_2 mX3_runScript_k41 mX3_runScript_j41 mX3_runScript_a41 zEb_2 zEg_2_41 zEf_2 zEn (by decide +kernel) hAm hP hS (hl.1.trans hml.symm) dX3_runScript_10 dX3_runScript_13 dX3_runScript_14 dX3_runScript_17 dX3_runScript_20 ht (Nat.le_of_ble_eq_true rfl) (Nat.le_of_ble_eq_true rfl) (Nat.le_of_ble_eq_true rfl) (Nat.le_of_ble_eq_true rfl) hlocks (by decide) (by decide)
  · replace h := zf c5 h
    refine lv_iload_n hx hb dX3_runScript_5 rfl (lv_at hl 1 rfl) ?_
    refine lv_iconst (v := 3) hx hb dX3_runScript_6 (by decide) ?_
    refine lv_icmp_le (tgt := 21) hx hb dX3_runScript_7 (by decide) (fun c6 => ?_) (fun c6 => ?_)
    · replace h := zt c6 h
      refine lv_lload_n hx hb dX3_runScript_21 rfl (lv_at hl 2 rfl) ?_
      refine lv_lconst (v := 0) hx hb dX3_runScript_22 (by decide) ?_
      refine W.lcmp hx hb dX3_runScript_23 ?_
      refine lv_if_lt (tgt := 37) hx hb dX3_runScript_24 (by decide) (fun c7 => ?_) (fun c7 => ?_)
      · replace h := zt c7 h
        cases h
        exact zx_throwW (text := "the script has too many digits") hx hb htr hown hts (by decide) zEx_2 mX3_runScript_k41 mX3_runScript_j41 mX3_runScript_a41 zEb_2 zEg_2_41 zEf_2 zEn (by decide +kernel) hAm hP hS (hl.1.trans hml.symm) dX3_runScript_37 dX3_runScript_40 dX3_runScript_41 dX3_runScript_44 dX3_runScript_47 ht (Nat.le_of_ble_eq_true rfl) (Nat.le_of_ble_eq_true rfl) (Nat.le_of_ble_eq_true rfl) (Nat.le_of_ble_eq_true rfl) hlocks (by decide) (by decide)
      · replace h := zf c7 h
        refine lv_lload_n hx hb dX3_runScript_27 rfl (lv_at hl 2 rfl) ?_
        refine lv_iload_n hx hb dX3_runScript_28 rfl (lv_at hl 1 rfl) ?_
        obtain ⟨r8, e8, h⟩ := zb h
        refine zS (As := [.long a2, .int a1]) (rest := []) (zQl_q _) ⟨hx, hb, hml, hown, hts⟩ (kX3_groupsFrom l g a2 a1 e8) (va_cwS 2 hts gX3_runScript_X3_groupsFrom rfl rfl rfl hdS_X3_groupsFrom ⟨Nat.le_of_ble_eq_true rfl, Nat.le_of_ble_eq_true rfl⟩) hK hP [] rfl rfl hl.1 rfl (Nat.le_of_ble_eq_true rfl) ⟨Nat.le_of_ble_eq_true rfl, Nat.le_of_ble_eq_true rfl⟩ dX3_runScript_29 ?_
        refine lv_lconst (v := 0) hx hb dX3_runScript_32 (by decide) ?_
        refine W.lcmp hx hb dX3_runScript_33 ?_
        refine lv_if_le (tgt := 48) hx hb dX3_runScript_34 (by decide) (fun c9 => ?_) (fun c9 => ?_)
        · replace h := zt c9 h
          refine lv_aload_n hx hb dX3_runScript_48 rfl (lv_at hl 0 rfl) ?_
          refine va_get (ci := 3) (v := .ref xc0) (C := RX3) (T := TX3) (N := 6) hx hb hts uX3_runScript_X3 hown hK hP 0 rfl rfl 2 (by decide) (hts _ mX3_runScript_23) (fun _ h9 => h9) rfl dX3_runScript_49 ?_
          refine lv_aload_n hx hb dX3_runScript_52 rfl (lv_at hl 0 rfl) ?_
          refine va_get (ci := 3) (v := .ref xd0) (C := RX3) (T := TX3) (N := 6) hx hb hts uX3_runScript_X3 hown hK hP 0 rfl rfl 1 (by decide) (hts _ mX3_runScript_19) (fun _ h9 => h9) rfl dX3_runScript_53 ?_
          obtain ⟨bC10, pFC10, pLC10, stC10, tmC10, qtC10, cmC10, dsC10, drC10, e10, h⟩ := zb9 h
          refine zVw (As := [.ref xd0]) (rest := []) (zWv_q g _) ⟨hx, hb, hml, hown, hts⟩ (kX0_copyFrom l g xc0 xc1 xc2 xc3 xc4 xd0 xd1 xd2 xd3 xd4 bC pFC pLC stC tmC qtC cmC dsC drC b pF pL st tm qt cm ds dr e10) (cwV 1 hts gX3_runScript_X0_copyFrom rfl rfl rfl hdV_X0_copyFrom ⟨Nat.le_of_ble_eq_true rfl, Nat.le_of_ble_eq_true rfl⟩) hK hP hD hS hA [9, 10, 11, 12, 13, 4, 5, 6, 7, 8] (by decide) rfl rfl 9 rfl rfl rfl hl.1 rfl (Nat.le_of_ble_eq_true rfl) ⟨Nat.le_of_ble_eq_true rfl, Nat.le_of_ble_eq_true rfl⟩ dX3_runScript_56 (fun H locs hP hD hS => ?_)
          replace hP : zP g (zI g h0 xt0 xt1 xt2 xd0 xd1 xd2 xd3 xd4 xc0 xc1 xc2 xc3 xc4 xp0 xp1 xs0 xu0 xe0 xe1 xe2 xe3 xe4 xf0 xf1 xf2 xf3 xf4 ad ch nu le ta lt b pF pL st tm qt cm ds dr bC10 pFC10 pLC10 stC10 tmC10 qtC10 cmC10 dsC10 drC10 ol pz dvs us bS pFS pLS stS tmS qtS cmS dsS drS bT pFT pLT stT tmT qtT cmT dsT drT) H := hP
          replace hD : va_D A (zI g h0 xt0 xt1 xt2 xd0 xd1 xd2 xd3 xd4 xc0 xc1 xc2 xc3 xc4 xp0 xp1 xs0 xu0 xe0 xe1 xe2 xe3 xe4 xf0 xf1 xf2 xf3 xf4 ad ch nu le ta lt b pF pL st tm qt cm ds dr bC10 pFC10 pLC10 stC10 tmC10 qtC10 cmC10 dsC10 drC10 ol pz dvs us bS pFS pLS stS tmS qtS cmS dsS drS bT pFT pLT stT tmT qtT cmT dsT drT) := hD
          refine lv_iconst (v := 0) hx hb dX3_runScript_59 (by decide) ?_
          refine lv_istore (lv' := [(4, .int 0), (0, .ref h0), (1, .int a1), (2, .long a2)]) hx hb dX3_runScript_60 hl (by decide) rfl (fun ls hl => ?_)
          exact loop_62 1000 a1 a2 0 bC10 pFC10 pLC10 stC10 tmC10 qtC10 cmC10 dsC10 drC10 h H locs hP hD hS ls (lv_sub hl [1, 2, 3, 0] rfl)
        · replace h := zf c9 h
          cases h
          exact zx_throwW (text := "the script has too many digits") hx hb htr hown hts (by decide) zEx_2 mX3_runScript_k41 mX3_runScript_j41 mX3_runScript_a41 zEb_2 zEg_2_41 zEf_2 zEn (by decide +kernel) hAm hP hS (hl.1.trans hml.symm) dX3_runScript_37 dX3_runScript_40 dX3_runScript_41 dX3_runScript_44 dX3_runScript_47 ht (Nat.le_of_ble_eq_true rfl) (Nat.le_of_ble_eq_true rfl) (Nat.le_of_ble_eq_true rfl) (Nat.le_of_ble_eq_true rfl) hlocks (by decide) (by decide)
    · replace h := zf c6 h
      cases h
      exact zx_throwW (text := "no such number of commands") hx hb htr hown hts (by decide) zEx_2 mX3_runScript_k41 mX3_runScript_j41 mX3_runScript_a41 zEb_2 zEg_2_41 zEf_2 zEn (by decide +kernel) hAm hP hS (hl.1.trans hml.symm) dX3_runScript_10 dX3_runScript_13 dX3_runScript_14 dX3_runScript_17 dX3_runScript_20 ht (Nat.le_of_ble_eq_true rfl) (Nat.le_of_ble_eq_true rfl) (Nat.le_of_ble_eq_true rfl) (Nat.le_of_ble_eq_true rfl) hlocks (by decide) (by decide)
def fX3_takeTurn (bC : Nat → Int32) (pFC : Nat → Int32) (pLC : Nat → Int32) (stC : Nat → Int32) (tmC : Int32) (qtC : Int32) (cmC : Int32) (dsC : Int32) (drC : Int32) (a1 : Int32) : Option ((Nat → Int32) × (Nat → Int32) × (Nat → Int32) × (Int32) × (Int32) × (Int32) × (Int32) × (Int32)) :=
  if (irem a1 8) = 0 then
    ob4 (fX3_writeIfAllowed bC qtC drC (irem (a1 / 8) 256) (1 + (irem (a1 / 2048) 40))) fun r2 bC2 qtC2 drC2 =>
    some (bC2, pFC, pLC, tmC, qtC2, cmC, dsC, drC2)
  else if (irem a1 8) = 1 then
    ob4 (fX3_writeIfAllowed bC qtC drC (irem (a1 / 8) 256) (1 + (irem (a1 / 2048) 40))) fun r4 bC4 qtC4 drC4 =>
    some (bC4, pFC, pLC, tmC, qtC4, cmC, dsC, drC4)
  else if (irem a1 8) = 2 then
    ob4 (fX3_freeIfAllowed bC tmC qtC drC (irem (a1 / 8) 256) (1 + (irem (a1 / 2048) 40))) fun r6 bC6 qtC6 drC6 =>
    some (bC6, pFC, pLC, tmC, qtC6, cmC, dsC, drC6)
  else if (irem a1 8) = 3 then
    ob4 (fX3_freeIfAllowed bC tmC qtC drC (irem (a1 / 8) 256) (1 + (irem (a1 / 2048) 40))) fun r8 bC8 qtC8 drC8 =>
    some (bC8, pFC, pLC, tmC, qtC8, cmC, dsC, drC8)
  else if (irem a1 8) = 4 then
    ob4 (fX3_freeIfAllowed bC tmC qtC drC (irem (a1 / 8) 256) (1 + (irem (a1 / 2048) 40))) fun r10 bC10 qtC10 drC10 =>
    some (bC10, pFC, pLC, tmC, qtC10, cmC, dsC, drC10)
  else if (irem a1 8) = 5 then
    ob3 (fX3_pinIfAllowed pFC pLC (irem (a1 / 8) 3) (irem (a1 / 32) 256) (1 + (irem (a1 / 8192) 9))) fun r12 pFC12 pLC12 =>
    some (bC, pFC12, pLC12, tmC, qtC, cmC, dsC, drC)
  else ob7 (fX0_passTicks bC pFC pLC stC tmC qtC cmC dsC drC (1 + (irem (a1 / 8) 8))) fun r13 bC13 tmC13 qtC13 cmC13 dsC13 drC13 =>
  some (bC13, pFC, pLC, tmC13, qtC13, cmC13, dsC13, drC13)
theorem mX3_takeTurn_23 : Cond.fieldLink RX3 23 "IdleDiscards" "copy" "LIdleDiscards$Device;" ∈ wsX3_takeTurn := by decide +kernel
theorem uX3_takeTurn_X3 : ∀ w ∈ wsX30, w ∈ wsX3_takeTurn := by decide +kernel
set_option maxRecDepth 100000 in
set_option maxHeartbeats 4000000 in
theorem kX3_takeTurn (l : Launch) (g : zG) (h0 xt0 xt1 xt2 xd0 xd1 xd2 xd3 xd4 xc0 xc1 xc2 xc3 xc4 xp0 xp1 xs0 xu0 xe0 xe1 xe2 xe3 xe4 xf0 xf1 xf2 xf3 xf4 : Nat) (ad : Nat → Nat → Nat) (ch : Nat → Int32) (nu : Nat → Int32) (le : Int32) (ta : Int32) (lt : Int32) (b : Nat → Int32) (pF : Nat → Int32) (pL : Nat → Int32) (st : Nat → Int32) (tm : Int32) (qt : Int32) (cm : Int32) (ds : Int32) (dr : Int32) (bC : Nat → Int32) (pFC : Nat → Int32) (pLC : Nat → Int32) (stC : Nat → Int32) (tmC : Int32) (qtC : Int32) (cmC : Int32) (dsC : Int32) (drC : Int32) (ol : Int32) (pz : Int32) (dvs : Nat → zDv) (us : Nat → Int32) (bS : Nat → Int32) (pFS : Nat → Int32) (pLS : Nat → Int32) (stS : Nat → Int32) (tmS : Int32) (qtS : Int32) (cmS : Int32) (dsS : Int32) (drS : Int32) (bT : Nat → Int32) (pFT : Nat → Int32) (pLT : Nat → Int32) (stT : Nat → Int32) (tmT : Int32) (qtT : Int32) (cmT : Int32) (dsT : Int32) (drT : Int32) (a1 : Int32) {bC' : Nat → Int32} {pFC' : Nat → Int32} {pLC' : Nat → Int32} {tmC' : Int32} {qtC' : Int32} {cmC' : Int32} {dsC' : Int32} {drC' : Int32} (h : fX3_takeTurn bC pFC pLC stC tmC qtC cmC dsC drC a1 = some (bC', pFC', pLC', tmC', qtC', cmC', dsC', drC')) : Mw l g yX3_takeTurn wsX3_takeTurn { frames := 5, cells := 0, slots := 0, locals := 123 } [.ref h0, .int a1] (zI g h0 xt0 xt1 xt2 xd0 xd1 xd2 xd3 xd4 xc0 xc1 xc2 xc3 xc4 xp0 xp1 xs0 xu0 xe0 xe1 xe2 xe3 xe4 xf0 xf1 xf2 xf3 xf4 ad ch nu le ta lt b pF pL st tm qt cm ds dr bC pFC pLC stC tmC qtC cmC dsC drC ol pz dvs us bS pFS pLS stS tmS qtS cmS dsS drS bT pFT pLT stT tmT qtT cmT dsT drT) (zWv g (zI g h0 xt0 xt1 xt2 xd0 xd1 xd2 xd3 xd4 xc0 xc1 xc2 xc3 xc4 xp0 xp1 xs0 xu0 xe0 xe1 xe2 xe3 xe4 xf0 xf1 xf2 xf3 xf4 ad ch nu le ta lt b pF pL st tm qt cm ds dr bC' pFC' pLC' stC tmC' qtC' cmC' dsC' drC' ol pz dvs us bS pFS pLS stS tmS qtS cmS dsS drS bT pFT pLT stT tmT qtT cmT dsT drT)) := by
  refine zw_in (cc := cX3_takeTurn) (maxL := 4) (ret := none) (by decide) rfl (Nat.le_of_ble_eq_true rfl) ?_
  intro p e s m below meth c hx hb hr hml hts hown hlocks hK A hA hP hD hS ls hl
  replace hl : lv_has ls 4 [(0, .ref h0), (1, .int a1)] := hl
  unfold fX3_takeTurn at h
  refine lv_iload_n hx hb dX3_takeTurn_0 rfl (lv_at hl 1 rfl) ?_
  refine lv_bipush (v := 8) hx hb dX3_takeTurn_1 (by decide) ?_
  refine lv_idiv hx hb dX3_takeTurn_3 (by decide) ?_
  refine lv_sipush (v := 256) hx hb dX3_takeTurn_4 (by decide) ?_
  refine lv_irem hx hb dX3_takeTurn_7 (by decide) ?_
  refine lv_istore_n (lv' := [(2, .int (irem (a1 / 8) 256)), (0, .ref h0), (1, .int a1)]) hx hb dX3_takeTurn_8 rfl hl (by decide) rfl (fun ls hl => ?_)
  refine lv_iconst (v := 1) hx hb dX3_takeTurn_9 (by decide) ?_
  refine lv_iload_n hx hb dX3_takeTurn_10 rfl (lv_at hl 2 rfl) ?_
  refine lv_sipush (v := 2048) hx hb dX3_takeTurn_11 (by decide) ?_
  refine lv_idiv hx hb dX3_takeTurn_14 (by decide) ?_
  refine lv_bipush (v := 40) hx hb dX3_takeTurn_15 (by decide) ?_
  refine lv_irem hx hb dX3_takeTurn_17 (by decide) ?_
  refine lv_iadd hx hb dX3_takeTurn_18 ?_
  refine lv_istore_n (lv' := [(3, .int (1 + (irem (a1 / 2048) 40))), (2, .int (irem (a1 / 8) 256)), (0, .ref h0), (1, .int a1)]) hx hb dX3_takeTurn_19 rfl hl (by decide) rfl (fun ls hl => ?_)
  refine lv_iload_n hx hb dX3_takeTurn_20 rfl (lv_at hl 3 rfl) ?_
  refine lv_bipush (v := 8) hx hb dX3_takeTurn_21 (by decide) ?_
  refine lv_irem hx hb dX3_takeTurn_23 (by decide) ?_
  by_cases c1 : (irem a1 8) = 0
  · replace h := zt c1 h
    refine lv_tableIn (tgt := 64) (off := 40) hx hb dX3_takeTurn_24 (by unfold irem at c1; rw [c1]; decide) (by unfold irem at c1; rw [c1]; decide) (by unfold irem at c1; rw [c1]; rfl) (by decide) ?_
    refine lv_iload_n hx hb dX3_takeTurn_64 rfl (lv_at hl 1 rfl) ?_
    refine lv_iload_n hx hb dX3_takeTurn_65 rfl (lv_at hl 0 rfl) ?_
    refine lv_aload_n hx hb dX3_takeTurn_66 rfl (lv_at hl 2 rfl) ?_
    refine va_get (ci := 3) (v := .ref xc0) (C := RX3) (T := TX3) (N := 6) hx hb hts uX3_takeTurn_X3 hown hK hP 0 rfl rfl 2 (by decide) (hts _ mX3_takeTurn_23) (fun _ h9 => h9) rfl dX3_takeTurn_67 ?_
    obtain ⟨r2, bC2, qtC2, drC2, e2, h⟩ := zb4 h
    refine zSw (As := [.int (irem (a1 / 8) 256), .int (1 + (irem (a1 / 2048) 40)), .ref xc0]) (rest := []) (zWi_q g _ _) ⟨hx, hb, hml, hown, hts⟩ (kX3_writeIfAllowed l g xc0 xc1 xc2 xc3 xc4 bC pFC pLC stC tmC qtC cmC dsC drC (irem (a1 / 8) 256) (1 + (irem (a1 / 2048) 40)) e2) (va_cwS 3 hts gX3_takeTurn_X3_writeIfAllowed rfl rfl rfl hdS_X3_writeIfAllowed ⟨Nat.le_of_ble_eq_true rfl, Nat.le_of_ble_eq_true rfl⟩) hK hP hD hS hA [9, 10, 11, 12, 13] (by decide) rfl rfl rfl hl.1 rfl (Nat.le_of_ble_eq_true rfl) ⟨Nat.zero_le _, Nat.zero_le _⟩ dX3_takeTurn_70 (fun H locs hP hD hS => ?_)
    replace hP : zP g (zI g h0 xt0 xt1 xt2 xd0 xd1 xd2 xd3 xd4 xc0 xc1 xc2 xc3 xc4 xp0 xp1 xs0 xu0 xe0 xe1 xe2 xe3 xe4 xf0 xf1 xf2 xf3 xf4 ad ch nu le ta lt b pF pL st tm qt cm ds dr bC2 pFC pLC stC tmC qtC2 cmC dsC drC2 ol pz dvs us bS pFS pLS stS tmS qtS cmS dsS drS bT pFT pLT stT tmT qtT cmT dsT drT) H := hP
    replace hD : va_D A (zI g h0 xt0 xt1 xt2 xd0 xd1 xd2 xd3 xd4 xc0 xc1 xc2 xc3 xc4 xp0 xp1 xs0 xu0 xe0 xe1 xe2 xe3 xe4 xf0 xf1 xf2 xf3 xf4 ad ch nu le ta lt b pF pL st tm qt cm ds dr bC2 pFC pLC stC tmC qtC2 cmC dsC drC2 ol pz dvs us bS pFS pLS stS tmS qtS cmS dsS drS bT pFT pLT stT tmT qtT cmT dsT drT) := hD
    refine lv_pop hx hb dX3_takeTurn_73 rfl ?_
    refine lv_goto (tgt := 142) hx hb dX3_takeTurn_74 (by decide) ?_
    cases h
    exact zw_v hx hb hr hlocks hP hS dX3_takeTurn_142
  replace h := zf c1 h
  by_cases c3 : (irem a1 8) = 1
  · replace h := zt c3 h
    refine lv_tableIn (tgt := 64) (off := 40) hx hb dX3_takeTurn_24 (by unfold irem at c3; rw [c3]; decide) (by unfold irem at c3; rw [c3]; decide) (by unfold irem at c3; rw [c3]; rfl) (by decide) ?_
    refine lv_iload_n hx hb dX3_takeTurn_64 rfl (lv_at hl 1 rfl) ?_
    refine lv_iload_n hx hb dX3_takeTurn_65 rfl (lv_at hl 0 rfl) ?_
    refine lv_aload_n hx hb dX3_takeTurn_66 rfl (lv_at hl 2 rfl) ?_
    refine va_get (ci := 3) (v := .ref xc0) (C := RX3) (T := TX3) (N := 6) hx hb hts uX3_takeTurn_X3 hown hK hP 0 rfl rfl 2 (by decide) (hts _ mX3_takeTurn_23) (fun _ h9 => h9) rfl dX3_takeTurn_67 ?_
    obtain ⟨r4, bC4, qtC4, drC4, e4, h⟩ := zb4 h
    refine zSw (As := [.int (irem (a1 / 8) 256), .int (1 + (irem (a1 / 2048) 40)), .ref xc0]) (rest := []) (zWi_q g _ _) ⟨hx, hb, hml, hown, hts⟩ (kX3_writeIfAllowed l g xc0 xc1 xc2 xc3 xc4 bC pFC pLC stC tmC qtC cmC dsC drC (irem (a1 / 8) 256) (1 + (irem (a1 / 2048) 40)) e4) (va_cwS 3 hts gX3_takeTurn_X3_writeIfAllowed rfl rfl rfl hdS_X3_writeIfAllowed ⟨Nat.le_of_ble_eq_true rfl, Nat.le_of_ble_eq_true rfl⟩) hK hP hD hS hA [9, 10, 11, 12, 13] (by decide) rfl rfl rfl hl.1 rfl (Nat.le_of_ble_eq_true rfl) ⟨Nat.zero_le _, Nat.zero_le _⟩ dX3_takeTurn_70 (fun H locs hP hD hS => ?_)
    replace hP : zP g (zI g h0 xt0 xt1 xt2 xd0 xd1 xd2 xd3 xd4 xc0 xc1 xc2 xc3 xc4 xp0 xp1 xs0 xu0 xe0 xe1 xe2 xe3 xe4 xf0 xf1 xf2 xf3 xf4 ad ch nu le ta lt b pF pL st tm qt cm ds dr bC4 pFC pLC stC tmC qtC4 cmC dsC drC4 ol pz dvs us bS pFS pLS stS tmS qtS cmS dsS drS bT pFT pLT stT tmT qtT cmT dsT drT) H := hP
    replace hD : va_D A (zI g h0 xt0 xt1 xt2 xd0 xd1 xd2 xd3 xd4 xc0 xc1 xc2 xc3 xc4 xp0 xp1 xs0 xu0 xe0 xe1 xe2 xe3 xe4 xf0 xf1 xf2 xf3 xf4 ad ch nu le ta lt b pF pL st tm qt cm ds dr bC4 pFC pLC stC tmC qtC4 cmC dsC drC4 ol pz dvs us bS pFS pLS stS tmS qtS cmS dsS drS bT pFT pLT stT tmT qtT cmT dsT drT) := hD
    refine lv_pop hx hb dX3_takeTurn_73 rfl ?_
    refine lv_goto (tgt := 142) hx hb dX3_takeTurn_74 (by decide) ?_
    cases h
    exact zw_v hx hb hr hlocks hP hS dX3_takeTurn_142
  replace h := zf c3 h
  by_cases c5 : (irem a1 8) = 2
  · replace h := zt c5 h
    refine lv_tableIn (tgt := 77) (off := 53) hx hb dX3_takeTurn_24 (by unfold irem at c5; rw [c5]; decide) (by unfold irem at c5; rw [c5]; decide) (by unfold irem at c5; rw [c5]; rfl) (by decide) ?_
    refine lv_iload_n hx hb dX3_takeTurn_77 rfl (lv_at hl 1 rfl) ?_
    refine lv_iload_n hx hb dX3_takeTurn_78 rfl (lv_at hl 0 rfl) ?_
    refine lv_aload_n hx hb dX3_takeTurn_79 rfl (lv_at hl 2 rfl) ?_
    refine va_get (ci := 3) (v := .ref xc0) (C := RX3) (T := TX3) (N := 6) hx hb hts uX3_takeTurn_X3 hown hK hP 0 rfl rfl 2 (by decide) (hts _ mX3_takeTurn_23) (fun _ h9 => h9) rfl dX3_takeTurn_80 ?_
    obtain ⟨r6, bC6, qtC6, drC6, e6, h⟩ := zb4 h
    refine zSw (As := [.int (irem (a1 / 8) 256), .int (1 + (irem (a1 / 2048) 40)), .ref xc0]) (rest := []) (zWi_q g _ _) ⟨hx, hb, hml, hown, hts⟩ (kX3_freeIfAllowed l g xc0 xc1 xc2 xc3 xc4 bC pFC pLC stC tmC qtC cmC dsC drC (irem (a1 / 8) 256) (1 + (irem (a1 / 2048) 40)) e6) (va_cwS 3 hts gX3_takeTurn_X3_freeIfAllowed rfl rfl rfl hdS_X3_freeIfAllowed ⟨Nat.le_of_ble_eq_true rfl, Nat.le_of_ble_eq_true rfl⟩) hK hP hD hS hA [9, 10, 11, 12, 13] (by decide) rfl rfl rfl hl.1 rfl (Nat.le_of_ble_eq_true rfl) ⟨Nat.zero_le _, Nat.zero_le _⟩ dX3_takeTurn_83 (fun H locs hP hD hS => ?_)
    replace hP : zP g (zI g h0 xt0 xt1 xt2 xd0 xd1 xd2 xd3 xd4 xc0 xc1 xc2 xc3 xc4 xp0 xp1 xs0 xu0 xe0 xe1 xe2 xe3 xe4 xf0 xf1 xf2 xf3 xf4 ad ch nu le ta lt b pF pL st tm qt cm ds dr bC6 pFC pLC stC tmC qtC6 cmC dsC drC6 ol pz dvs us bS pFS pLS stS tmS qtS cmS dsS drS bT pFT pLT stT tmT qtT cmT dsT drT) H := hP
    replace hD : va_D A (zI g h0 xt0 xt1 xt2 xd0 xd1 xd2 xd3 xd4 xc0 xc1 xc2 xc3 xc4 xp0 xp1 xs0 xu0 xe0 xe1 xe2 xe3 xe4 xf0 xf1 xf2 xf3 xf4 ad ch nu le ta lt b pF pL st tm qt cm ds dr bC6 pFC pLC stC tmC qtC6 cmC dsC drC6 ol pz dvs us bS pFS pLS stS tmS qtS cmS dsS drS bT pFT pLT stT tmT qtT cmT dsT drT) := hD
    refine lv_pop hx hb dX3_takeTurn_86 rfl ?_
    refine lv_goto (tgt := 142) hx hb dX3_takeTurn_87 (by decide) ?_
    cases h
    exact zw_v hx hb hr hlocks hP hS dX3_takeTurn_142
  replace h := zf c5 h
  by_cases c7 : (irem a1 8) = 3
  · replace h := zt c7 h
    refine lv_tableIn (tgt := 77) (off := 53) hx hb dX3_takeTurn_24 (by unfold irem at c7; rw [c7]; decide) (by unfold irem at c7; rw [c7]; decide) (by unfold irem at c7; rw [c7]; rfl) (by decide) ?_
    refine lv_iload_n hx hb dX3_takeTurn_77 rfl (lv_at hl 1 rfl) ?_
    refine lv_iload_n hx hb dX3_takeTurn_78 rfl (lv_at hl 0 rfl) ?_
    refine lv_aload_n hx hb dX3_takeTurn_79 rfl (lv_at hl 2 rfl) ?_
    refine va_get (ci := 3) (v := .ref xc0) (C := RX3) (T := TX3) (N := 6) hx hb hts uX3_takeTurn_X3 hown hK hP 0 rfl rfl 2 (by decide) (hts _ mX3_takeTurn_23) (fun _ h9 => h9) rfl dX3_takeTurn_80 ?_
    obtain ⟨r8, bC8, qtC8, drC8, e8, h⟩ := zb4 h
    refine zSw (As := [.int (irem (a1 / 8) 256), .int (1 + (irem (a1 / 2048) 40)), .ref xc0]) (rest := []) (zWi_q g _ _) ⟨hx, hb, hml, hown, hts⟩ (kX3_freeIfAllowed l g xc0 xc1 xc2 xc3 xc4 bC pFC pLC stC tmC qtC cmC dsC drC (irem (a1 / 8) 256) (1 + (irem (a1 / 2048) 40)) e8) (va_cwS 3 hts gX3_takeTurn_X3_freeIfAllowed rfl rfl rfl hdS_X3_freeIfAllowed ⟨Nat.le_of_ble_eq_true rfl, Nat.le_of_ble_eq_true rfl⟩) hK hP hD hS hA [9, 10, 11, 12, 13] (by decide) rfl rfl rfl hl.1 rfl (Nat.le_of_ble_eq_true rfl) ⟨Nat.zero_le _, Nat.zero_le _⟩ dX3_takeTurn_83 (fun H locs hP hD hS => ?_)
    replace hP : zP g (zI g h0 xt0 xt1 xt2 xd0 xd1 xd2 xd3 xd4 xc0 xc1 xc2 xc3 xc4 xp0 xp1 xs0 xu0 xe0 xe1 xe2 xe3 xe4 xf0 xf1 xf2 xf3 xf4 ad ch nu le ta lt b pF pL st tm qt cm ds dr bC8 pFC pLC stC tmC qtC8 cmC dsC drC8 ol pz dvs us bS pFS pLS stS tmS qtS cmS dsS drS bT pFT pLT stT tmT qtT cmT dsT drT) H := hP
    replace hD : va_D A (zI g h0 xt0 xt1 xt2 xd0 xd1 xd2 xd3 xd4 xc0 xc1 xc2 xc3 xc4 xp0 xp1 xs0 xu0 xe0 xe1 xe2 xe3 xe4 xf0 xf1 xf2 xf3 xf4 ad ch nu le ta lt b pF pL st tm qt cm ds dr bC8 pFC pLC stC tmC qtC8 cmC dsC drC8 ol pz dvs us bS pFS pLS stS tmS qtS cmS dsS drS bT pFT pLT stT tmT qtT cmT dsT drT) := hD
    refine lv_pop hx hb dX3_takeTurn_86 rfl ?_
    refine lv_goto (tgt := 142) hx hb dX3_takeTurn_87 (by decide) ?_
    cases h
    exact zw_v hx hb hr hlocks hP hS dX3_takeTurn_142
  replace h := zf c7 h
  by_cases c9 : (irem a1 8) = 4
  · replace h := zt c9 h
    refine lv_tableIn (tgt := 77) (off := 53) hx hb dX3_takeTurn_24 (by unfold irem at c9; rw [c9]; decide) (by unfold irem at c9; rw [c9]; decide) (by unfold irem at c9; rw [c9]; rfl) (by decide) ?_
    refine lv_iload_n hx hb dX3_takeTurn_77 rfl (lv_at hl 1 rfl) ?_
    refine lv_iload_n hx hb dX3_takeTurn_78 rfl (lv_at hl 0 rfl) ?_
    refine lv_aload_n hx hb dX3_takeTurn_79 rfl (lv_at hl 2 rfl) ?_
    refine va_get (ci := 3) (v := .ref xc0) (C := RX3) (T := TX3) (N := 6) hx hb hts uX3_takeTurn_X3 hown hK hP 0 rfl rfl 2 (by decide) (hts _ mX3_takeTurn_23) (fun _ h9 => h9) rfl dX3_takeTurn_80 ?_
    obtain ⟨r10, bC10, qtC10, drC10, e10, h⟩ := zb4 h
    refine zSw (As := [.int (irem (a1 / 8) 256), .int (1 + (irem (a1 / 2048) 40)), .ref xc0]) (rest := []) (zWi_q g _ _) ⟨hx, hb, hml, hown, hts⟩ (kX3_freeIfAllowed l g xc0 xc1 xc2 xc3 xc4 bC pFC pLC stC tmC qtC cmC dsC drC (irem (a1 / 8) 256) (1 + (irem (a1 / 2048) 40)) e10) (va_cwS 3 hts gX3_takeTurn_X3_freeIfAllowed rfl rfl rfl hdS_X3_freeIfAllowed ⟨Nat.le_of_ble_eq_true rfl, Nat.le_of_ble_eq_true rfl⟩) hK hP hD hS hA [9, 10, 11, 12, 13] (by decide) rfl rfl rfl hl.1 rfl (Nat.le_of_ble_eq_true rfl) ⟨Nat.zero_le _, Nat.zero_le _⟩ dX3_takeTurn_83 (fun H locs hP hD hS => ?_)
    replace hP : zP g (zI g h0 xt0 xt1 xt2 xd0 xd1 xd2 xd3 xd4 xc0 xc1 xc2 xc3 xc4 xp0 xp1 xs0 xu0 xe0 xe1 xe2 xe3 xe4 xf0 xf1 xf2 xf3 xf4 ad ch nu le ta lt b pF pL st tm qt cm ds dr bC10 pFC pLC stC tmC qtC10 cmC dsC drC10 ol pz dvs us bS pFS pLS stS tmS qtS cmS dsS drS bT pFT pLT stT tmT qtT cmT dsT drT) H := hP
    replace hD : va_D A (zI g h0 xt0 xt1 xt2 xd0 xd1 xd2 xd3 xd4 xc0 xc1 xc2 xc3 xc4 xp0 xp1 xs0 xu0 xe0 xe1 xe2 xe3 xe4 xf0 xf1 xf2 xf3 xf4 ad ch nu le ta lt b pF pL st tm qt cm ds dr bC10 pFC pLC stC tmC qtC10 cmC dsC drC10 ol pz dvs us bS pFS pLS stS tmS qtS cmS dsS drS bT pFT pLT stT tmT qtT cmT dsT drT) := hD
    refine lv_pop hx hb dX3_takeTurn_86 rfl ?_
    refine lv_goto (tgt := 142) hx hb dX3_takeTurn_87 (by decide) ?_
    cases h
    exact zw_v hx hb hr hlocks hP hS dX3_takeTurn_142
  replace h := zf c9 h
  by_cases c11 : (irem a1 8) = 5
  · replace h := zt c11 h
    refine lv_tableIn (tgt := 90) (off := 66) hx hb dX3_takeTurn_24 (by unfold irem at c11; rw [c11]; decide) (by unfold irem at c11; rw [c11]; decide) (by unfold irem at c11; rw [c11]; rfl) (by decide) ?_
    refine lv_iload_n hx hb dX3_takeTurn_90 rfl (lv_at hl 3 rfl) ?_
    refine lv_bipush (v := 8) hx hb dX3_takeTurn_91 (by decide) ?_
    refine lv_idiv hx hb dX3_takeTurn_93 (by decide) ?_
    refine lv_iconst (v := 3) hx hb dX3_takeTurn_94 (by decide) ?_
    refine lv_irem hx hb dX3_takeTurn_95 (by decide) ?_
    refine lv_iload_n hx hb dX3_takeTurn_96 rfl (lv_at hl 3 rfl) ?_
    refine lv_bipush (v := 32) hx hb dX3_takeTurn_97 (by decide) ?_
    refine lv_idiv hx hb dX3_takeTurn_99 (by decide) ?_
    refine lv_sipush (v := 256) hx hb dX3_takeTurn_100 (by decide) ?_
    refine lv_irem hx hb dX3_takeTurn_103 (by decide) ?_
    refine lv_iconst (v := 1) hx hb dX3_takeTurn_104 (by decide) ?_
    refine lv_iload_n hx hb dX3_takeTurn_105 rfl (lv_at hl 3 rfl) ?_
    refine lv_sipush (v := 8192) hx hb dX3_takeTurn_106 (by decide) ?_
    refine lv_idiv hx hb dX3_takeTurn_109 (by decide) ?_
    refine lv_bipush (v := 9) hx hb dX3_takeTurn_110 (by decide) ?_
    refine lv_irem hx hb dX3_takeTurn_112 (by decide) ?_
    refine lv_iadd hx hb dX3_takeTurn_113 ?_
    refine lv_aload_n hx hb dX3_takeTurn_114 rfl (lv_at hl 2 rfl) ?_
    refine va_get (ci := 3) (v := .ref xc0) (C := RX3) (T := TX3) (N := 6) hx hb hts uX3_takeTurn_X3 hown hK hP 0 rfl rfl 2 (by decide) (hts _ mX3_takeTurn_23) (fun _ h9 => h9) rfl dX3_takeTurn_115 ?_
    obtain ⟨r12, pFC12, pLC12, e12, h⟩ := zb3 h
    refine zSw (As := [.int (irem (a1 / 8) 3), .int (irem (a1 / 32) 256), .int (1 + (irem (a1 / 8192) 9)), .ref xc0]) (rest := []) (zWi_q g _ _) ⟨hx, hb, hml, hown, hts⟩ (kX3_pinIfAllowed l g xc0 xc1 xc2 xc3 xc4 bC pFC pLC stC tmC qtC cmC dsC drC (irem (a1 / 8) 3) (irem (a1 / 32) 256) (1 + (irem (a1 / 8192) 9)) e12) (va_cwS 4 hts gX3_takeTurn_X3_pinIfAllowed rfl rfl rfl hdS_X3_pinIfAllowed ⟨Nat.le_of_ble_eq_true rfl, Nat.le_of_ble_eq_true rfl⟩) hK hP hD hS hA [9, 10, 11, 12, 13] (by decide) rfl rfl rfl hl.1 rfl (Nat.le_of_ble_eq_true rfl) ⟨Nat.zero_le _, Nat.zero_le _⟩ dX3_takeTurn_118 (fun H locs hP hD hS => ?_)
    replace hP : zP g (zI g h0 xt0 xt1 xt2 xd0 xd1 xd2 xd3 xd4 xc0 xc1 xc2 xc3 xc4 xp0 xp1 xs0 xu0 xe0 xe1 xe2 xe3 xe4 xf0 xf1 xf2 xf3 xf4 ad ch nu le ta lt b pF pL st tm qt cm ds dr bC pFC12 pLC12 stC tmC qtC cmC dsC drC ol pz dvs us bS pFS pLS stS tmS qtS cmS dsS drS bT pFT pLT stT tmT qtT cmT dsT drT) H := hP
    replace hD : va_D A (zI g h0 xt0 xt1 xt2 xd0 xd1 xd2 xd3 xd4 xc0 xc1 xc2 xc3 xc4 xp0 xp1 xs0 xu0 xe0 xe1 xe2 xe3 xe4 xf0 xf1 xf2 xf3 xf4 ad ch nu le ta lt b pF pL st tm qt cm ds dr bC pFC12 pLC12 stC tmC qtC cmC dsC drC ol pz dvs us bS pFS pLS stS tmS qtS cmS dsS drS bT pFT pLT stT tmT qtT cmT dsT drT) := hD
    refine lv_pop hx hb dX3_takeTurn_121 rfl ?_
    refine lv_goto (tgt := 142) hx hb dX3_takeTurn_122 (by decide) ?_
    cases h
    exact zw_v hx hb hr hlocks hP hS dX3_takeTurn_142
  replace h := zf c11 h
  refine lv_tableOut (tgt := 125) hx hb dX3_takeTurn_24 (by unfold irem at c1 c3 c5 c7 c9 c11; have n1 := lv_neT (a := 0) c1 (by decide); have n3 := lv_neT (a := 1) c3 (by decide); have n5 := lv_neT (a := 2) c5 (by decide); have n7 := lv_neT (a := 3) c7 (by decide); have n9 := lv_neT (a := 4) c9 (by decide); have n11 := lv_neT (a := 5) c11 (by decide); omega) (by decide) ?_
  refine lv_aload_n hx hb dX3_takeTurn_125 rfl (lv_at hl 2 rfl) ?_
  refine va_get (ci := 3) (v := .ref xc0) (C := RX3) (T := TX3) (N := 6) hx hb hts uX3_takeTurn_X3 hown hK hP 0 rfl rfl 2 (by decide) (hts _ mX3_takeTurn_23) (fun _ h9 => h9) rfl dX3_takeTurn_126 ?_
  refine lv_iconst (v := 1) hx hb dX3_takeTurn_129 (by decide) ?_
  refine lv_iload_n hx hb dX3_takeTurn_130 rfl (lv_at hl 3 rfl) ?_
  refine lv_bipush (v := 8) hx hb dX3_takeTurn_131 (by decide) ?_
  refine lv_idiv hx hb dX3_takeTurn_133 (by decide) ?_
  refine lv_bipush (v := 8) hx hb dX3_takeTurn_134 (by decide) ?_
  refine lv_irem hx hb dX3_takeTurn_136 (by decide) ?_
  refine lv_iadd hx hb dX3_takeTurn_137 ?_
  obtain ⟨r13, bC13, tmC13, qtC13, cmC13, dsC13, drC13, e13, h⟩ := zb7 h
  refine zVw (As := [.int (1 + (irem (a1 / 8) 8))]) (rest := []) (zWi_q g _ _) ⟨hx, hb, hml, hown, hts⟩ (kX0_passTicks l g xc0 xc1 xc2 xc3 xc4 bC pFC pLC stC tmC qtC cmC dsC drC (1 + (irem (a1 / 8) 8)) e13) (cwV 1 hts gX3_takeTurn_X0_passTicks rfl rfl rfl hdV_X0_passTicks ⟨Nat.le_of_ble_eq_true rfl, Nat.le_of_ble_eq_true rfl⟩) hK hP hD hS hA [9, 10, 11, 12, 13] (by decide) rfl rfl 9 rfl rfl rfl hl.1 rfl (Nat.le_of_ble_eq_true rfl) ⟨Nat.zero_le _, Nat.zero_le _⟩ dX3_takeTurn_138 (fun H locs hP hD hS => ?_)
  replace hP : zP g (zI g h0 xt0 xt1 xt2 xd0 xd1 xd2 xd3 xd4 xc0 xc1 xc2 xc3 xc4 xp0 xp1 xs0 xu0 xe0 xe1 xe2 xe3 xe4 xf0 xf1 xf2 xf3 xf4 ad ch nu le ta lt b pF pL st tm qt cm ds dr bC13 pFC pLC stC tmC13 qtC13 cmC13 dsC13 drC13 ol pz dvs us bS pFS pLS stS tmS qtS cmS dsS drS bT pFT pLT stT tmT qtT cmT dsT drT) H := hP
  replace hD : va_D A (zI g h0 xt0 xt1 xt2 xd0 xd1 xd2 xd3 xd4 xc0 xc1 xc2 xc3 xc4 xp0 xp1 xs0 xu0 xe0 xe1 xe2 xe3 xe4 xf0 xf1 xf2 xf3 xf4 ad ch nu le ta lt b pF pL st tm qt cm ds dr bC13 pFC pLC stC tmC13 qtC13 cmC13 dsC13 drC13 ol pz dvs us bS pFS pLS stS tmS qtS cmS dsS drS bT pFT pLT stT tmT qtT cmT dsT drT) := hD
  refine lv_pop hx hb dX3_takeTurn_141 rfl ?_
  cases h
  exact zw_v hx hb hr hlocks hP hS dX3_takeTurn_142
theorem hdV_X3_takeTurn : yX3_takeTurn.cls = RX3 ∧ yX3_takeTurn.cls ≠ "java/lang/invoke/MethodHandle" ∧ yX3_takeTurn.cls ≠ "java/lang/invoke/VarHandle" ∧ (parseMethodDescriptor yX3_takeTurn.desc).map (fun d => d.parameters.length) = some 1 := by decide +kernel
def fX3_simulate_39 (ds : Int32) : Nat → Int32 → Int64 → Int32 → (Nat → Int32) → (Nat → Int32) → (Nat → Int32) → (Nat → Int32) → (Int32) → (Int32) → (Int32) → (Int32) → (Int32) → Option (Int32 × Int32 × (Nat → Int32) × (Nat → Int32) × (Nat → Int32) × (Nat → Int32) × (Int32) × (Int32) × (Int32) × (Int32) × (Int32))
  | 0, _, _, _, _, _, _, _, _, _, _, _, _ => none
  | n + 1, v3, v4, v6, bC, pFC, pLC, stC, tmC, qtC, cmC, dsC, drC =>
    if v3 ≤ v6 then
        ob (fX0_discarded dsC) fun r2 =>
        ob (fX0_discarded ds) fun r3 =>
        ob (fX0_countQueued bC) fun r4 =>
        some (0, ((1000 * (r2 - r3)) + r4), bC, pFC, pLC, stC, tmC, qtC, cmC, dsC, drC)
      else
        ob8 (fX3_takeTurn bC pFC pLC stC tmC qtC cmC dsC drC (((((v4 * (6364136223846793005)) + (1442695040888963407)).toUInt64 >>> ((33 : Int32).toInt64.toUInt64 &&& Int64.toUInt64 63)).toInt64).toInt32)) fun bC5 pFC5 pLC5 tmC5 qtC5 cmC5 dsC5 drC5 =>
        fX3_simulate_39 ds n v3 ((v4 * (6364136223846793005)) + (1442695040888963407)) (v6 + 1) bC5 pFC5 pLC5 stC tmC5 qtC5 cmC5 dsC5 drC5
def fX3_simulate (b : Nat → Int32) (pF : Nat → Int32) (pL : Nat → Int32) (st : Nat → Int32) (tm : Int32) (qt : Int32) (cm : Int32) (ds : Int32) (dr : Int32) (bC : Nat → Int32) (pFC : Nat → Int32) (pLC : Nat → Int32) (stC : Nat → Int32) (tmC : Int32) (qtC : Int32) (cmC : Int32) (dsC : Int32) (drC : Int32) (a1 : Int64) (a3 : Int32) : Option (Int32 × Int32 × (Nat → Int32) × (Nat → Int32) × (Nat → Int32) × (Nat → Int32) × (Int32) × (Int32) × (Int32) × (Int32) × (Int32)) :=
  if a3 < 1 then
    some (2, 0, bC, pFC, pLC, stC, tmC, qtC, cmC, dsC, drC)
  else
    if a3 ≤ 60 then
      ob9 (fX0_copyFrom bC pFC pLC stC b pF pL st tm qt cm ds dr) fun bC8 pFC8 pLC8 stC8 tmC8 qtC8 cmC8 dsC8 drC8 =>
      fX3_simulate_39 ds 1000 a3 a1 0 bC8 pFC8 pLC8 stC8 tmC8 qtC8 cmC8 dsC8 drC8
    else
      some (2, 0, bC, pFC, pLC, stC, tmC, qtC, cmC, dsC, drC)
theorem mX3_simulate_23 : Cond.fieldLink RX3 23 "IdleDiscards" "copy" "LIdleDiscards$Device;" ∈ wsX3_simulate := by decide +kernel
theorem uX3_simulate_X3 : ∀ w ∈ wsX30, w ∈ wsX3_simulate := by decide +kernel
theorem mX3_simulate_19 : Cond.fieldLink RX3 19 "IdleDiscards" "device" "LIdleDiscards$Device;" ∈ wsX3_simulate := by decide +kernel
theorem mX3_simulate_299 : Cond.constantLong RX3 299 (6364136223846793005) ∈ wsX3_simulate := by decide +kernel
theorem mX3_simulate_301 : Cond.constantLong RX3 301 (1442695040888963407) ∈ wsX3_simulate := by decide +kernel
theorem mX3_simulate_k41 : Cond.classLink RX3 41 (zE 2) ∈ wsX3_simulate := by decide +kernel
theorem mX3_simulate_j41 : Cond.initialized (zE 2) ∈ wsX3_simulate := by decide +kernel
theorem mX3_simulate_a41 : ∀ w ∈ (vx_atS RX3 45 (zE 2) ["java/lang/RuntimeException", "java/lang/Exception"]).filter goodWord, w ∈ wsX3_simulate := by decide +kernel
set_option maxRecDepth 100000 in
set_option maxHeartbeats 4000000 in
theorem kX3_simulate (l : Launch) (g : zG) (h0 xt0 xt1 xt2 xd0 xd1 xd2 xd3 xd4 xc0 xc1 xc2 xc3 xc4 xp0 xp1 xs0 xu0 xe0 xe1 xe2 xe3 xe4 xf0 xf1 xf2 xf3 xf4 : Nat) (ad : Nat → Nat → Nat) (ch : Nat → Int32) (nu : Nat → Int32) (le : Int32) (ta : Int32) (lt : Int32) (b : Nat → Int32) (pF : Nat → Int32) (pL : Nat → Int32) (st : Nat → Int32) (tm : Int32) (qt : Int32) (cm : Int32) (ds : Int32) (dr : Int32) (bC : Nat → Int32) (pFC : Nat → Int32) (pLC : Nat → Int32) (stC : Nat → Int32) (tmC : Int32) (qtC : Int32) (cmC : Int32) (dsC : Int32) (drC : Int32) (ol : Int32) (pz : Int32) (dvs : Nat → zDv) (us : Nat → Int32) (bS : Nat → Int32) (pFS : Nat → Int32) (pLS : Nat → Int32) (stS : Nat → Int32) (tmS : Int32) (qtS : Int32) (cmS : Int32) (dsS : Int32) (drS : Int32) (bT : Nat → Int32) (pFT : Nat → Int32) (pLT : Nat → Int32) (stT : Nat → Int32) (tmT : Int32) (qtT : Int32) (cmT : Int32) (dsT : Int32) (drT : Int32) (a1 : Int64) (a3 : Int32) (htr : l.stackTraces = false) {k : Int32} {r : Int32} {bC' : Nat → Int32} {pFC' : Nat → Int32} {pLC' : Nat → Int32} {stC' : Nat → Int32} {tmC' : Int32} {qtC' : Int32} {cmC' : Int32} {dsC' : Int32} {drC' : Int32} (h : fX3_simulate b pF pL st tm qt cm ds dr bC pFC pLC stC tmC qtC cmC dsC drC a1 a3 = some (k, r, bC', pFC', pLC', stC', tmC', qtC', cmC', dsC', drC')) : Mx l g yX3_simulate wsX3_simulate { frames := 6, cells := 1, slots := 6, locals := 146 } [.ref h0, .long a1, .int a3] (zI g h0 xt0 xt1 xt2 xd0 xd1 xd2 xd3 xd4 xc0 xc1 xc2 xc3 xc4 xp0 xp1 xs0 xu0 xe0 xe1 xe2 xe3 xe4 xf0 xf1 xf2 xf3 xf4 ad ch nu le ta lt b pF pL st tm qt cm ds dr bC pFC pLC stC tmC qtC cmC dsC drC ol pz dvs us bS pFS pLS stS tmS qtS cmS dsS drS bT pFT pLT stT tmT qtT cmT dsT drT) (zXi g (zI g h0 xt0 xt1 xt2 xd0 xd1 xd2 xd3 xd4 xc0 xc1 xc2 xc3 xc4 xp0 xp1 xs0 xu0 xe0 xe1 xe2 xe3 xe4 xf0 xf1 xf2 xf3 xf4 ad ch nu le ta lt b pF pL st tm qt cm ds dr bC' pFC' pLC' stC' tmC' qtC' cmC' dsC' drC' ol pz dvs us bS pFS pLS stS tmS qtS cmS dsS drS bT pFT pLT stT tmT qtT cmT dsT drT) k r) (zXx g (zI g h0 xt0 xt1 xt2 xd0 xd1 xd2 xd3 xd4 xc0 xc1 xc2 xc3 xc4 xp0 xp1 xs0 xu0 xe0 xe1 xe2 xe3 xe4 xf0 xf1 xf2 xf3 xf4 ad ch nu le ta lt b pF pL st tm qt cm ds dr bC' pFC' pLC' stC' tmC' qtC' cmC' dsC' drC' ol pz dvs us bS pFS pLS stS tmS qtS cmS dsS drS bT pFT pLT stT tmT qtT cmT dsT drT) k) 1 6 := by
  refine zx_in (cc := cX3_simulate) (maxL := 7) (ret := (some .int)) (by decide) rfl (Nat.le_of_ble_eq_true rfl) ?_
  intro p e s m below meth c hx hb hr hml hts hown hlocks hK ht A hA hP hD hS hAm ls hl
  replace hl : lv_has ls 7 [(0, .ref h0), (1, .long a1), (3, .int a3)] := hl
  have loop_39 : ∀ (n : Nat) (v3 : Int32) (v4 : Int64) (v6 : Int32) (bC : (Nat → Int32)) (pFC : (Nat → Int32)) (pLC : (Nat → Int32)) (stC : (Nat → Int32)) (tmC : (Int32)) (qtC : (Int32)) (cmC : (Int32)) (dsC : (Int32)) (drC : (Int32)), fX3_simulate_39 ds n v3 v4 v6 bC pFC pLC stC tmC qtC cmC dsC drC = some (k, r, bC', pFC', pLC', stC', tmC', qtC', cmC', dsC', drC') → ∀ (H : Heap) (locs : List Loc), zP g (zI g h0 xt0 xt1 xt2 xd0 xd1 xd2 xd3 xd4 xc0 xc1 xc2 xc3 xc4 xp0 xp1 xs0 xu0 xe0 xe1 xe2 xe3 xe4 xf0 xf1 xf2 xf3 xf4 ad ch nu le ta lt b pF pL st tm qt cm ds dr bC pFC pLC stC tmC qtC cmC dsC drC ol pz dvs us bS pFS pLS stS tmS qtS cmS dsS drS bT pFT pLT stT tmT qtT cmT dsT drT) H → va_D A (zI g h0 xt0 xt1 xt2 xd0 xd1 xd2 xd3 xd4 xc0 xc1 xc2 xc3 xc4 xp0 xp1 xs0 xu0 xe0 xe1 xe2 xe3 xe4 xf0 xf1 xf2 xf3 xf4 ad ch nu le ta lt b pF pL st tm qt cm ds dr bC pFC pLC stC tmC qtC cmC dsC drC ol pz dvs us bS pFS pLS stS tmS qtS cmS dsS drS bT pFT pLT stT tmT qtT cmT dsT drT) → va_S A s.heap H locs → ∀ (ls : Array Slot), lv_has ls 7 [(0, .ref h0), (3, .int v3), (4, .long v4), (6, .int v6)] → W p l e ({ frames := 6, cells := 1, slots := 6, locals := 146 } : Room) s m [.ref h0, .long a1, .int a3].toArray below meth c H locs 0 0 (vx_MQ below (zXi g (zI g h0 xt0 xt1 xt2 xd0 xd1 xd2 xd3 xd4 xc0 xc1 xc2 xc3 xc4 xp0 xp1 xs0 xu0 xe0 xe1 xe2 xe3 xe4 xf0 xf1 xf2 xf3 xf4 ad ch nu le ta lt b pF pL st tm qt cm ds dr bC' pFC' pLC' stC' tmC' qtC' cmC' dsC' drC' ol pz dvs us bS pFS pLS stS tmS qtS cmS dsS drS bT pFT pLT stT tmT qtT cmT dsT drT) k r A) (zXx g (zI g h0 xt0 xt1 xt2 xd0 xd1 xd2 xd3 xd4 xc0 xc1 xc2 xc3 xc4 xp0 xp1 xs0 xu0 xe0 xe1 xe2 xe3 xe4 xf0 xf1 xf2 xf3 xf4 ad ch nu le ta lt b pF pL st tm qt cm ds dr bC' pFC' pLC' stC' tmC' qtC' cmC' dsC' drC' ol pz dvs us bS pFS pLS stS tmS qtS cmS dsS drS bT pFT pLT stT tmT qtT cmT dsT drT) k A) [.ref h0, .long a1, .int a3].toArray s 1 6 A) (F0 m 39 ls []) := by
    intro n
    induction n with
    | zero => intro v3 v4 v6 bC pFC pLC stC tmC qtC cmC dsC drC h H locs hP hD hS ls hl; exact zn h
    | succ n ih =>
      intro v3 v4 v6 bC pFC pLC stC tmC qtC cmC dsC drC h H locs hP hD hS ls hl
      rw [fX3_simulate_39] at h
      refine lv_iload hx hb dX3_simulate_39 (lv_at hl 3 rfl) ?_
      refine lv_iload_n hx hb dX3_simulate_41 rfl (lv_at hl 1 rfl) ?_
      refine lv_icmp_ge (tgt := 73) hx hb dX3_simulate_42 (by decide) (fun c1 => ?_) (fun c1 => ?_)
      · replace h := zt c1 h
        refine lv_sipush (v := 1000) hx hb dX3_simulate_73 (by decide) ?_
        refine lv_aload_n hx hb dX3_simulate_76 rfl (lv_at hl 0 rfl) ?_
        refine va_get (ci := 3) (v := .ref xc0) (C := RX3) (T := TX3) (N := 6) hx hb hts uX3_simulate_X3 hown hK hP 0 rfl rfl 2 (by decide) (hts _ mX3_simulate_23) (fun _ h9 => h9) rfl dX3_simulate_77 ?_
        obtain ⟨r2, e2, h⟩ := zb h
        refine zV (As := []) (rest := [.int 1000]) (zQi_q _) ⟨hx, hb, hml, hown, hts⟩ (kX0_discarded l g xc0 xc1 xc2 xc3 xc4 bC pFC pLC stC tmC qtC cmC dsC drC e2) (cwV 0 hts gX3_simulate_X0_discarded rfl rfl rfl hdV_X0_discarded ⟨Nat.le_of_ble_eq_true rfl, Nat.le_of_ble_eq_true rfl⟩) hK hP [9, 10, 11, 12, 13] rfl 9 rfl rfl rfl hl.1 rfl (Nat.le_of_ble_eq_true rfl) ⟨Nat.le_of_ble_eq_true rfl, Nat.le_of_ble_eq_true rfl⟩ dX3_simulate_80 ?_
        refine lv_aload_n hx hb dX3_simulate_83 rfl (lv_at hl 0 rfl) ?_
        refine va_get (ci := 3) (v := .ref xd0) (C := RX3) (T := TX3) (N := 6) hx hb hts uX3_simulate_X3 hown hK hP 0 rfl rfl 1 (by decide) (hts _ mX3_simulate_19) (fun _ h9 => h9) rfl dX3_simulate_84 ?_
        obtain ⟨r3, e3, h⟩ := zb h
        refine zV (As := []) (rest := [.int r2, .int 1000]) (zQi_q _) ⟨hx, hb, hml, hown, hts⟩ (kX0_discarded l g xd0 xd1 xd2 xd3 xd4 b pF pL st tm qt cm ds dr e3) (cwV 0 hts gX3_simulate_X0_discarded rfl rfl rfl hdV_X0_discarded ⟨Nat.le_of_ble_eq_true rfl, Nat.le_of_ble_eq_true rfl⟩) hK hP [4, 5, 6, 7, 8] rfl 4 rfl rfl rfl hl.1 rfl (Nat.le_of_ble_eq_true rfl) ⟨Nat.le_of_ble_eq_true rfl, Nat.le_of_ble_eq_true rfl⟩ dX3_simulate_87 ?_
        refine lv_isub hx hb dX3_simulate_90 ?_
        refine lv_imul hx hb dX3_simulate_91 ?_
        refine lv_aload_n hx hb dX3_simulate_92 rfl (lv_at hl 0 rfl) ?_
        refine va_get (ci := 3) (v := .ref xc0) (C := RX3) (T := TX3) (N := 6) hx hb hts uX3_simulate_X3 hown hK hP 0 rfl rfl 2 (by decide) (hts _ mX3_simulate_23) (fun _ h9 => h9) rfl dX3_simulate_93 ?_
        obtain ⟨r4, e4, h⟩ := zb h
        refine zV (As := []) (rest := [.int (1000 * (r2 - r3))]) (zQi_q _) ⟨hx, hb, hml, hown, hts⟩ (kX0_countQueued l g xc0 xc1 xc2 xc3 xc4 bC pFC pLC stC tmC qtC cmC dsC drC e4) (cwV 0 hts gX3_simulate_X0_countQueued rfl rfl rfl hdV_X0_countQueued ⟨Nat.le_of_ble_eq_true rfl, Nat.le_of_ble_eq_true rfl⟩) hK hP [9, 10, 11, 12, 13] rfl 9 rfl rfl rfl hl.1 rfl (Nat.le_of_ble_eq_true rfl) ⟨Nat.le_of_ble_eq_true rfl, Nat.le_of_ble_eq_true rfl⟩ dX3_simulate_96 ?_
        refine lv_iadd hx hb dX3_simulate_99 ?_
        cases h
        exact zx_i hx hb hr hlocks hP hS (by decide) (by decide) dX3_simulate_100
      · replace h := zf c1 h
        refine lv_lload hx hb dX3_simulate_45 (lv_at hl 2 rfl) ?_
        refine lv_ldc2 hx hb hown (hts _ mX3_simulate_299) dX3_simulate_47 ?_
        refine lv_lmul hx hb dX3_simulate_50 ?_
        refine lv_ldc2 hx hb hown (hts _ mX3_simulate_301) dX3_simulate_51 ?_
        refine lv_ladd hx hb dX3_simulate_54 ?_
        refine lv_lstore (lv' := [(4, .long ((v4 * (6364136223846793005)) + (1442695040888963407))), (0, .ref h0), (3, .int v3), (6, .int v6)]) hx hb dX3_simulate_55 hl (by decide) rfl (fun ls hl => ?_)
        refine lv_aload_n hx hb dX3_simulate_57 rfl (lv_at hl 1 rfl) ?_
        refine lv_lload hx hb dX3_simulate_58 (lv_at hl 0 rfl) ?_
        refine lv_bipush (v := 33) hx hb dX3_simulate_60 (by decide) ?_
        refine lv_lushr (v := (((v4 * (6364136223846793005)) + (1442695040888963407)).toUInt64 >>> ((33 : Int32).toInt64.toUInt64 &&& Int64.toUInt64 63)).toInt64) hx hb dX3_simulate_62 rfl ?_
        refine lv_l2i (v := ((((v4 * (6364136223846793005)) + (1442695040888963407)).toUInt64 >>> ((33 : Int32).toInt64.toUInt64 &&& Int64.toUInt64 63)).toInt64).toInt32) hx hb dX3_simulate_63 rfl ?_
        obtain ⟨bC5, pFC5, pLC5, tmC5, qtC5, cmC5, dsC5, drC5, e5, h⟩ := zb8 h
        refine zVwA (As := [.int (((((v4 * (6364136223846793005)) + (1442695040888963407)).toUInt64 >>> ((33 : Int32).toInt64.toUInt64 &&& Int64.toUInt64 63)).toInt64).toInt32)]) (rest := []) (zWv_q g _) ⟨hx, hb, hml, hown, hts⟩ (kX3_takeTurn l g h0 xt0 xt1 xt2 xd0 xd1 xd2 xd3 xd4 xc0 xc1 xc2 xc3 xc4 xp0 xp1 xs0 xu0 xe0 xe1 xe2 xe3 xe4 xf0 xf1 xf2 xf3 xf4 ad ch nu le ta lt b pF pL st tm qt cm ds dr bC pFC pLC stC tmC qtC cmC dsC drC ol pz dvs us bS pFS pLS stS tmS qtS cmS dsS drS bT pFT pLT stT tmT qtT cmT dsT drT (((((v4 * (6364136223846793005)) + (1442695040888963407)).toUInt64 >>> ((33 : Int32).toInt64.toUInt64 &&& Int64.toUInt64 63)).toInt64).toInt32) e5) (cwV 1 hts gX3_simulate_X3_takeTurn rfl rfl rfl hdV_X3_takeTurn ⟨Nat.le_of_ble_eq_true rfl, Nat.le_of_ble_eq_true rfl⟩) hK hP hD hS hA (by rfl) 0 rfl rfl rfl hl.1 rfl (Nat.le_of_ble_eq_true rfl) ⟨Nat.le_of_ble_eq_true rfl, Nat.le_of_ble_eq_true rfl⟩ dX3_simulate_64 (fun H locs hP hD hS => ?_)
        replace hP : zP g (zI g h0 xt0 xt1 xt2 xd0 xd1 xd2 xd3 xd4 xc0 xc1 xc2 xc3 xc4 xp0 xp1 xs0 xu0 xe0 xe1 xe2 xe3 xe4 xf0 xf1 xf2 xf3 xf4 ad ch nu le ta lt b pF pL st tm qt cm ds dr bC5 pFC5 pLC5 stC tmC5 qtC5 cmC5 dsC5 drC5 ol pz dvs us bS pFS pLS stS tmS qtS cmS dsS drS bT pFT pLT stT tmT qtT cmT dsT drT) H := hP
        replace hD : va_D A (zI g h0 xt0 xt1 xt2 xd0 xd1 xd2 xd3 xd4 xc0 xc1 xc2 xc3 xc4 xp0 xp1 xs0 xu0 xe0 xe1 xe2 xe3 xe4 xf0 xf1 xf2 xf3 xf4 ad ch nu le ta lt b pF pL st tm qt cm ds dr bC5 pFC5 pLC5 stC tmC5 qtC5 cmC5 dsC5 drC5 ol pz dvs us bS pFS pLS stS tmS qtS cmS dsS drS bT pFT pLT stT tmT qtT cmT dsT drT) := hD
        refine lv_iinc (v := (v6 + 1)) (lv' := [(6, .int (v6 + 1)), (4, .long ((v4 * (6364136223846793005)) + (1442695040888963407))), (0, .ref h0), (3, .int v3)]) hx hb dX3_simulate_67 hl (k := 3) rfl rfl (by decide) rfl (fun ls hl => ?_)
        refine lv_goto (tgt := 39) hx hb dX3_simulate_70 (by decide) ?_
        exact ih v3 ((v4 * (6364136223846793005)) + (1442695040888963407)) (v6 + 1) bC5 pFC5 pLC5 stC tmC5 qtC5 cmC5 dsC5 drC5 h H locs hP hD hS ls (lv_sub hl [2, 3, 1, 0] rfl)
  unfold fX3_simulate at h
  refine lv_iload_n hx hb dX3_simulate_0 rfl (lv_at hl 2 rfl) ?_
  refine lv_iconst (v := 1) hx hb dX3_simulate_1 (by decide) ?_
  refine lv_icmp_lt (tgt := 11) hx hb dX3_simulate_2 (by decide) (fun c6 => ?_) (fun c6 => ?_)
  · replace h := zt c6 h
    cases h
    exact zx_throwW (text := "no such number of turns") hx hb htr hown hts (by decide) zEx_2 mX3_simulate_k41 mX3_simulate_j41 mX3_simulate_a41 zEb_2 zEg_2_41 zEf_2 zEn (by decide +kernel) hAm hP hS (hl.1.trans hml.symm) dX3_simulate_11 dX3_simulate_14 dX3_simulate_15 dX3_simulate_18 dX3_simulate_21 ht (Nat.le_of_ble_eq_true rfl) (Nat.le_of_ble_eq_true rfl) (Nat.le_of_ble_eq_true rfl) (Nat.le_of_ble_eq_true rfl) hlocks (by decide) (by decide)
  · replace h := zf c6 h
    refine lv_iload_n hx hb dX3_simulate_5 rfl (lv_at hl 2 rfl) ?_
    refine lv_bipush (v := 60) hx hb dX3_simulate_6 (by decide) ?_
    refine lv_icmp_le (tgt := 22) hx hb dX3_simulate_8 (by decide) (fun c7 => ?_) (fun c7 => ?_)
    · replace h := zt c7 h
      refine lv_aload_n hx hb dX3_simulate_22 rfl (lv_at hl 0 rfl) ?_
      refine va_get (ci := 3) (v := .ref xc0) (C := RX3) (T := TX3) (N := 6) hx hb hts uX3_simulate_X3 hown hK hP 0 rfl rfl 2 (by decide) (hts _ mX3_simulate_23) (fun _ h9 => h9) rfl dX3_simulate_23 ?_
      refine lv_aload_n hx hb dX3_simulate_26 rfl (lv_at hl 0 rfl) ?_
      refine va_get (ci := 3) (v := .ref xd0) (C := RX3) (T := TX3) (N := 6) hx hb hts uX3_simulate_X3 hown hK hP 0 rfl rfl 1 (by decide) (hts _ mX3_simulate_19) (fun _ h9 => h9) rfl dX3_simulate_27 ?_
      obtain ⟨bC8, pFC8, pLC8, stC8, tmC8, qtC8, cmC8, dsC8, drC8, e8, h⟩ := zb9 h
      refine zVw (As := [.ref xd0]) (rest := []) (zWv_q g _) ⟨hx, hb, hml, hown, hts⟩ (kX0_copyFrom l g xc0 xc1 xc2 xc3 xc4 xd0 xd1 xd2 xd3 xd4 bC pFC pLC stC tmC qtC cmC dsC drC b pF pL st tm qt cm ds dr e8) (cwV 1 hts gX3_simulate_X0_copyFrom rfl rfl rfl hdV_X0_copyFrom ⟨Nat.le_of_ble_eq_true rfl, Nat.le_of_ble_eq_true rfl⟩) hK hP hD hS hA [9, 10, 11, 12, 13, 4, 5, 6, 7, 8] (by decide) rfl rfl 9 rfl rfl rfl hl.1 rfl (Nat.le_of_ble_eq_true rfl) ⟨Nat.le_of_ble_eq_true rfl, Nat.le_of_ble_eq_true rfl⟩ dX3_simulate_30 (fun H locs hP hD hS => ?_)
      replace hP : zP g (zI g h0 xt0 xt1 xt2 xd0 xd1 xd2 xd3 xd4 xc0 xc1 xc2 xc3 xc4 xp0 xp1 xs0 xu0 xe0 xe1 xe2 xe3 xe4 xf0 xf1 xf2 xf3 xf4 ad ch nu le ta lt b pF pL st tm qt cm ds dr bC8 pFC8 pLC8 stC8 tmC8 qtC8 cmC8 dsC8 drC8 ol pz dvs us bS pFS pLS stS tmS qtS cmS dsS drS bT pFT pLT stT tmT qtT cmT dsT drT) H := hP
      replace hD : va_D A (zI g h0 xt0 xt1 xt2 xd0 xd1 xd2 xd3 xd4 xc0 xc1 xc2 xc3 xc4 xp0 xp1 xs0 xu0 xe0 xe1 xe2 xe3 xe4 xf0 xf1 xf2 xf3 xf4 ad ch nu le ta lt b pF pL st tm qt cm ds dr bC8 pFC8 pLC8 stC8 tmC8 qtC8 cmC8 dsC8 drC8 ol pz dvs us bS pFS pLS stS tmS qtS cmS dsS drS bT pFT pLT stT tmT qtT cmT dsT drT) := hD
      refine lv_lload_n hx hb dX3_simulate_33 rfl (lv_at hl 1 rfl) ?_
      refine lv_lstore (lv' := [(4, .long a1), (0, .ref h0), (1, .long a1), (3, .int a3)]) hx hb dX3_simulate_34 hl (by decide) rfl (fun ls hl => ?_)
      refine lv_iconst (v := 0) hx hb dX3_simulate_36 (by decide) ?_
      refine lv_istore (lv' := [(6, .int 0), (4, .long a1), (0, .ref h0), (1, .long a1), (3, .int a3)]) hx hb dX3_simulate_37 hl (by decide) rfl (fun ls hl => ?_)
      exact loop_39 1000 a3 a1 0 bC8 pFC8 pLC8 stC8 tmC8 qtC8 cmC8 dsC8 drC8 h H locs hP hD hS ls (lv_sub hl [2, 4, 1, 0] rfl)
    · replace h := zf c7 h
      cases h
      exact zx_throwW (text := "no such number of turns") hx hb htr hown hts (by decide) zEx_2 mX3_simulate_k41 mX3_simulate_j41 mX3_simulate_a41 zEb_2 zEg_2_41 zEf_2 zEn (by decide +kernel) hAm hP hS (hl.1.trans hml.symm) dX3_simulate_11 dX3_simulate_14 dX3_simulate_15 dX3_simulate_18 dX3_simulate_21 ht (Nat.le_of_ble_eq_true rfl) (Nat.le_of_ble_eq_true rfl) (Nat.le_of_ble_eq_true rfl) (Nat.le_of_ble_eq_true rfl) hlocks (by decide) (by decide)
theorem hdS_X3_checkSlot : yX3_checkSlot.cls ≠ "java/lang/invoke/MethodHandle" ∧ yX3_checkSlot.cls ≠ "java/lang/invoke/VarHandle" ∧ (parseMethodDescriptor yX3_checkSlot.desc).map (fun d => d.parameters.length) = some 1 := by decide +kernel
def fX3_save (b : Nat → Int32) (pF : Nat → Int32) (pL : Nat → Int32) (st : Nat → Int32) (tm : Int32) (qt : Int32) (cm : Int32) (ds : Int32) (dr : Int32) (us : Nat → Int32) (bS : Nat → Int32) (pFS : Nat → Int32) (pLS : Nat → Int32) (stS : Nat → Int32) (tmS : Int32) (qtS : Int32) (cmS : Int32) (dsS : Int32) (drS : Int32) (bT : Nat → Int32) (pFT : Nat → Int32) (pLT : Nat → Int32) (stT : Nat → Int32) (tmT : Int32) (qtT : Int32) (cmT : Int32) (dsT : Int32) (drT : Int32) (a1 : Int32) : Option (Int32 × Int32 × (Nat → Int32) × (Nat → Int32) × (Nat → Int32) × (Nat → Int32) × (Nat → Int32) × (Int32) × (Int32) × (Int32) × (Int32) × (Int32) × (Nat → Int32) × (Nat → Int32) × (Nat → Int32) × (Nat → Int32) × (Int32) × (Int32) × (Int32) × (Int32) × (Int32)) :=
  ob (fX3_checkSlot a1) fun k1 =>
  if k1 = 0 then
    if a1 = 0 then
      ob9 (fX0_copyFrom bS pFS pLS stS b pF pL st tm qt cm ds dr) fun bS3 pFS3 pLS3 stS3 tmS3 qtS3 cmS3 dsS3 drS3 =>
      if a1 < 0 ∨ 2 ≤ a1.toNatClampNeg then none else
      ob (fX0_time tm) fun r5 =>
      some (0, r5, (upd us a1.toNatClampNeg (vp_nar .boolean 1)), bS3, pFS3, pLS3, stS3, tmS3, qtS3, cmS3, dsS3, drS3, bT, pFT, pLT, stT, tmT, qtT, cmT, dsT, drT)
    else if a1 = 1 then
      ob9 (fX0_copyFrom bT pFT pLT stT b pF pL st tm qt cm ds dr) fun bT6 pFT6 pLT6 stT6 tmT6 qtT6 cmT6 dsT6 drT6 =>
      if a1 < 0 ∨ 2 ≤ a1.toNatClampNeg then none else
      ob (fX0_time tm) fun r8 =>
      some (0, r8, (upd us a1.toNatClampNeg (vp_nar .boolean 1)), bS, pFS, pLS, stS, tmS, qtS, cmS, dsS, drS, bT6, pFT6, pLT6, stT6, tmT6, qtT6, cmT6, dsT6, drT6)
    else none
  else some (k1, 0, us, bS, pFS, pLS, stS, tmS, qtS, cmS, dsS, drS, bT, pFT, pLT, stT, tmT, qtT, cmT, dsT, drT)
theorem mX3_save_33 : Cond.fieldLink RX3 33 "IdleDiscards" "slots" "[LIdleDiscards$Device;" ∈ wsX3_save := by decide +kernel
theorem uX3_save_X3 : ∀ w ∈ wsX30, w ∈ wsX3_save := by decide +kernel
theorem mX3_save_19 : Cond.fieldLink RX3 19 "IdleDiscards" "device" "LIdleDiscards$Device;" ∈ wsX3_save := by decide +kernel
theorem mX3_save_37 : Cond.fieldLink RX3 37 "IdleDiscards" "slotUsed" "[Z" ∈ wsX3_save := by decide +kernel
set_option maxRecDepth 100000 in
set_option maxHeartbeats 4000000 in
theorem kX3_save (l : Launch) (g : zG) (h0 xt0 xt1 xt2 xd0 xd1 xd2 xd3 xd4 xc0 xc1 xc2 xc3 xc4 xp0 xp1 xs0 xu0 xe0 xe1 xe2 xe3 xe4 xf0 xf1 xf2 xf3 xf4 : Nat) (ad : Nat → Nat → Nat) (ch : Nat → Int32) (nu : Nat → Int32) (le : Int32) (ta : Int32) (lt : Int32) (b : Nat → Int32) (pF : Nat → Int32) (pL : Nat → Int32) (st : Nat → Int32) (tm : Int32) (qt : Int32) (cm : Int32) (ds : Int32) (dr : Int32) (bC : Nat → Int32) (pFC : Nat → Int32) (pLC : Nat → Int32) (stC : Nat → Int32) (tmC : Int32) (qtC : Int32) (cmC : Int32) (dsC : Int32) (drC : Int32) (ol : Int32) (pz : Int32) (dvs : Nat → zDv) (us : Nat → Int32) (bS : Nat → Int32) (pFS : Nat → Int32) (pLS : Nat → Int32) (stS : Nat → Int32) (tmS : Int32) (qtS : Int32) (cmS : Int32) (dsS : Int32) (drS : Int32) (bT : Nat → Int32) (pFT : Nat → Int32) (pLT : Nat → Int32) (stT : Nat → Int32) (tmT : Int32) (qtT : Int32) (cmT : Int32) (dsT : Int32) (drT : Int32) (a1 : Int32) (htr : l.stackTraces = false) {k : Int32} {r : Int32} {us' : Nat → Int32} {bS' : Nat → Int32} {pFS' : Nat → Int32} {pLS' : Nat → Int32} {stS' : Nat → Int32} {tmS' : Int32} {qtS' : Int32} {cmS' : Int32} {dsS' : Int32} {drS' : Int32} {bT' : Nat → Int32} {pFT' : Nat → Int32} {pLT' : Nat → Int32} {stT' : Nat → Int32} {tmT' : Int32} {qtT' : Int32} {cmT' : Int32} {dsT' : Int32} {drT' : Int32} (h : fX3_save b pF pL st tm qt cm ds dr us bS pFS pLS stS tmS qtS cmS dsS drS bT pFT pLT stT tmT qtT cmT dsT drT a1 = some (k, r, us', bS', pFS', pLS', stS', tmS', qtS', cmS', dsS', drS', bT', pFT', pLT', stT', tmT', qtT', cmT', dsT', drT')) : Mx l g yX3_save wsX3_save { frames := 7, cells := 1, slots := 6, locals := 102 } [.ref h0, .int a1] (zI g h0 xt0 xt1 xt2 xd0 xd1 xd2 xd3 xd4 xc0 xc1 xc2 xc3 xc4 xp0 xp1 xs0 xu0 xe0 xe1 xe2 xe3 xe4 xf0 xf1 xf2 xf3 xf4 ad ch nu le ta lt b pF pL st tm qt cm ds dr bC pFC pLC stC tmC qtC cmC dsC drC ol pz dvs us bS pFS pLS stS tmS qtS cmS dsS drS bT pFT pLT stT tmT qtT cmT dsT drT) (zXi g (zI g h0 xt0 xt1 xt2 xd0 xd1 xd2 xd3 xd4 xc0 xc1 xc2 xc3 xc4 xp0 xp1 xs0 xu0 xe0 xe1 xe2 xe3 xe4 xf0 xf1 xf2 xf3 xf4 ad ch nu le ta lt b pF pL st tm qt cm ds dr bC pFC pLC stC tmC qtC cmC dsC drC ol pz dvs us' bS' pFS' pLS' stS' tmS' qtS' cmS' dsS' drS' bT' pFT' pLT' stT' tmT' qtT' cmT' dsT' drT') k r) (zXx g (zI g h0 xt0 xt1 xt2 xd0 xd1 xd2 xd3 xd4 xc0 xc1 xc2 xc3 xc4 xp0 xp1 xs0 xu0 xe0 xe1 xe2 xe3 xe4 xf0 xf1 xf2 xf3 xf4 ad ch nu le ta lt b pF pL st tm qt cm ds dr bC pFC pLC stC tmC qtC cmC dsC drC ol pz dvs us' bS' pFS' pLS' stS' tmS' qtS' cmS' dsS' drS' bT' pFT' pLT' stT' tmT' qtT' cmT' dsT' drT') k) 1 6 := by
  refine zx_in (cc := cX3_save) (maxL := 2) (ret := (some .int)) (by decide) rfl (Nat.le_of_ble_eq_true rfl) ?_
  intro p e s m below meth c hx hb hr hml hts hown hlocks hK ht A hA hP hD hS hAm ls hl
  replace hl : lv_has ls 2 [(0, .ref h0), (1, .int a1)] := hl
  unfold fX3_save at h
  refine lv_iload_n hx hb dX3_save_0 rfl (lv_at hl 1 rfl) ?_
  obtain ⟨k1, e1, h⟩ := zb h
  refine zSx (As := [.int a1]) (rest := []) (zXv_q g _ _) (zXx_q g _ _) ⟨hx, hb, hml, hown, hts⟩ (kX3_checkSlot l g a1 htr e1) (va_cwS 1 hts gX3_save_X3_checkSlot rfl rfl rfl hdS_X3_checkSlot ⟨Nat.le_of_ble_eq_true rfl, Nat.le_of_ble_eq_true rfl⟩) hK hP hD hS hA hAm [] (by decide) rfl rfl rfl hl.1 rfl (Nat.le_of_ble_eq_true rfl) ⟨Nat.le_of_ble_eq_true rfl, Nat.le_of_ble_eq_true rfl⟩ dX3_save_1 (fun c1 H locs q ce hP hD hS hq1 hq2 hq3 => ?_) (fun c1 H locs hP hD hS => ?_)
  · replace h := zf c1 h
    replace hP : zP g (zI g h0 xt0 xt1 xt2 xd0 xd1 xd2 xd3 xd4 xc0 xc1 xc2 xc3 xc4 xp0 xp1 xs0 xu0 xe0 xe1 xe2 xe3 xe4 xf0 xf1 xf2 xf3 xf4 ad ch nu le ta lt b pF pL st tm qt cm ds dr bC pFC pLC stC tmC qtC cmC dsC drC ol pz dvs us bS pFS pLS stS tmS qtS cmS dsS drS bT pFT pLT stT tmT qtT cmT dsT drT) H := hP
    cases h
    exact zx_out ht hlocks c1 hP hS hq1 hq2 hq3 (by decide) (by decide)
  · replace h := zt c1 h
    replace hP : zP g (zI g h0 xt0 xt1 xt2 xd0 xd1 xd2 xd3 xd4 xc0 xc1 xc2 xc3 xc4 xp0 xp1 xs0 xu0 xe0 xe1 xe2 xe3 xe4 xf0 xf1 xf2 xf3 xf4 ad ch nu le ta lt b pF pL st tm qt cm ds dr bC pFC pLC stC tmC qtC cmC dsC drC ol pz dvs us bS pFS pLS stS tmS qtS cmS dsS drS bT pFT pLT stT tmT qtT cmT dsT drT) H := hP
    replace hD : va_D A (zI g h0 xt0 xt1 xt2 xd0 xd1 xd2 xd3 xd4 xc0 xc1 xc2 xc3 xc4 xp0 xp1 xs0 xu0 xe0 xe1 xe2 xe3 xe4 xf0 xf1 xf2 xf3 xf4 ad ch nu le ta lt b pF pL st tm qt cm ds dr bC pFC pLC stC tmC qtC cmC dsC drC ol pz dvs us bS pFS pLS stS tmS qtS cmS dsS drS bT pFT pLT stT tmT qtT cmT dsT drT) := hD
    refine lv_aload_n hx hb dX3_save_4 rfl (lv_at hl 0 rfl) ?_
    refine va_get (ci := 3) (v := .ref xs0) (C := RX3) (T := TX3) (N := 6) hx hb hts uX3_save_X3 hown hK hP 0 rfl rfl 4 (by decide) (hts _ mX3_save_33) (fun _ h9 => h9) rfl dX3_save_5 ?_
    refine lv_iload_n hx hb dX3_save_8 rfl (lv_at hl 1 rfl) ?_
    by_cases c2 : a1 = 0
    · replace h := zt c2 h
      refine va_aldq hx hb hK hP 16 3 rfl rfl (by rw [c2]; show ¬ ((0 : Int32) < 0 ∨ 2 ≤ Int32.toNatClampNeg 0); decide) dX3_save_9 ?_
      rw [show (if a1.toNatClampNeg = 0 then some xe0 else some xf0) = some xe0 by rw [c2]; rfl]
      refine lv_aload_n hx hb dX3_save_10 rfl (lv_at hl 0 rfl) ?_
      refine va_get (ci := 3) (v := .ref xd0) (C := RX3) (T := TX3) (N := 6) hx hb hts uX3_save_X3 hown hK hP 0 rfl rfl 1 (by decide) (hts _ mX3_save_19) (fun _ h9 => h9) rfl dX3_save_11 ?_
      obtain ⟨bS3, pFS3, pLS3, stS3, tmS3, qtS3, cmS3, dsS3, drS3, e3, h⟩ := zb9 h
      refine zVw (As := [.ref xd0]) (rest := []) (zWv_q g _) ⟨hx, hb, hml, hown, hts⟩ (kX0_copyFrom l g xe0 xe1 xe2 xe3 xe4 xd0 xd1 xd2 xd3 xd4 bS pFS pLS stS tmS qtS cmS dsS drS b pF pL st tm qt cm ds dr e3) (cwV 1 hts gX3_save_X0_copyFrom rfl rfl rfl hdV_X0_copyFrom ⟨Nat.le_of_ble_eq_true rfl, Nat.le_of_ble_eq_true rfl⟩) hK hP hD hS hA [18, 19, 20, 21, 22, 4, 5, 6, 7, 8] (by decide) rfl rfl 18 rfl rfl rfl hl.1 rfl (Nat.le_of_ble_eq_true rfl) ⟨Nat.le_of_ble_eq_true rfl, Nat.le_of_ble_eq_true rfl⟩ dX3_save_14 (fun H locs hP hD hS => ?_)
      replace hP : zP g (zI g h0 xt0 xt1 xt2 xd0 xd1 xd2 xd3 xd4 xc0 xc1 xc2 xc3 xc4 xp0 xp1 xs0 xu0 xe0 xe1 xe2 xe3 xe4 xf0 xf1 xf2 xf3 xf4 ad ch nu le ta lt b pF pL st tm qt cm ds dr bC pFC pLC stC tmC qtC cmC dsC drC ol pz dvs us bS3 pFS3 pLS3 stS3 tmS3 qtS3 cmS3 dsS3 drS3 bT pFT pLT stT tmT qtT cmT dsT drT) H := hP
      replace hD : va_D A (zI g h0 xt0 xt1 xt2 xd0 xd1 xd2 xd3 xd4 xc0 xc1 xc2 xc3 xc4 xp0 xp1 xs0 xu0 xe0 xe1 xe2 xe3 xe4 xf0 xf1 xf2 xf3 xf4 ad ch nu le ta lt b pF pL st tm qt cm ds dr bC pFC pLC stC tmC qtC cmC dsC drC ol pz dvs us bS3 pFS3 pLS3 stS3 tmS3 qtS3 cmS3 dsS3 drS3 bT pFT pLT stT tmT qtT cmT dsT drT) := hD
      refine lv_aload_n hx hb dX3_save_17 rfl (lv_at hl 0 rfl) ?_
      refine va_get (ci := 3) (v := .ref xu0) (C := RX3) (T := TX3) (N := 6) hx hb hts uX3_save_X3 hown hK hP 0 rfl rfl 5 (by decide) (hts _ mX3_save_37) (fun _ h9 => h9) rfl dX3_save_18 ?_
      refine lv_iload_n hx hb dX3_save_21 rfl (lv_at hl 1 rfl) ?_
      refine lv_iconst (v := 1) hx hb dX3_save_22 (by decide) ?_
      obtain ⟨i4, h⟩ := zi h
      refine za_zst hx hb hK hP hD hS 17 rfl _ rfl i4 dX3_save_23 (fun H locs hP hD hS => ?_)
      replace hP : zP g (zI g h0 xt0 xt1 xt2 xd0 xd1 xd2 xd3 xd4 xc0 xc1 xc2 xc3 xc4 xp0 xp1 xs0 xu0 xe0 xe1 xe2 xe3 xe4 xf0 xf1 xf2 xf3 xf4 ad ch nu le ta lt b pF pL st tm qt cm ds dr bC pFC pLC stC tmC qtC cmC dsC drC ol pz dvs (upd us a1.toNatClampNeg (vp_nar .boolean 1)) bS3 pFS3 pLS3 stS3 tmS3 qtS3 cmS3 dsS3 drS3 bT pFT pLT stT tmT qtT cmT dsT drT) H := hP
      replace hD : va_D A (zI g h0 xt0 xt1 xt2 xd0 xd1 xd2 xd3 xd4 xc0 xc1 xc2 xc3 xc4 xp0 xp1 xs0 xu0 xe0 xe1 xe2 xe3 xe4 xf0 xf1 xf2 xf3 xf4 ad ch nu le ta lt b pF pL st tm qt cm ds dr bC pFC pLC stC tmC qtC cmC dsC drC ol pz dvs (upd us a1.toNatClampNeg (vp_nar .boolean 1)) bS3 pFS3 pLS3 stS3 tmS3 qtS3 cmS3 dsS3 drS3 bT pFT pLT stT tmT qtT cmT dsT drT) := hD
      refine lv_aload_n hx hb dX3_save_24 rfl (lv_at hl 0 rfl) ?_
      refine va_get (ci := 3) (v := .ref xd0) (C := RX3) (T := TX3) (N := 6) hx hb hts uX3_save_X3 hown hK hP 0 rfl rfl 1 (by decide) (hts _ mX3_save_19) (fun _ h9 => h9) rfl dX3_save_25 ?_
      obtain ⟨r5, e5, h⟩ := zb h
      refine zV (As := []) (rest := []) (zQi_q _) ⟨hx, hb, hml, hown, hts⟩ (kX0_time l g xd0 xd1 xd2 xd3 xd4 b pF pL st tm qt cm ds dr e5) (cwV 0 hts gX3_save_X0_time rfl rfl rfl hdV_X0_time ⟨Nat.le_of_ble_eq_true rfl, Nat.le_of_ble_eq_true rfl⟩) hK hP [4, 5, 6, 7, 8] rfl 4 rfl rfl rfl hl.1 rfl (Nat.le_of_ble_eq_true rfl) ⟨Nat.le_of_ble_eq_true rfl, Nat.le_of_ble_eq_true rfl⟩ dX3_save_28 ?_
      cases h
      exact zx_i hx hb hr hlocks hP hS (by decide) (by decide) dX3_save_31
    replace h := zf c2 h
    by_cases c9 : a1 = 1
    · replace h := zt c9 h
      refine va_aldq hx hb hK hP 16 3 rfl rfl (by rw [c9]; show ¬ ((1 : Int32) < 0 ∨ 2 ≤ Int32.toNatClampNeg 1); decide) dX3_save_9 ?_
      rw [show (if a1.toNatClampNeg = 0 then some xe0 else some xf0) = some xf0 by rw [c9]; rfl]
      refine lv_aload_n hx hb dX3_save_10 rfl (lv_at hl 0 rfl) ?_
      refine va_get (ci := 3) (v := .ref xd0) (C := RX3) (T := TX3) (N := 6) hx hb hts uX3_save_X3 hown hK hP 0 rfl rfl 1 (by decide) (hts _ mX3_save_19) (fun _ h9 => h9) rfl dX3_save_11 ?_
      obtain ⟨bT6, pFT6, pLT6, stT6, tmT6, qtT6, cmT6, dsT6, drT6, e6, h⟩ := zb9 h
      refine zVw (As := [.ref xd0]) (rest := []) (zWv_q g _) ⟨hx, hb, hml, hown, hts⟩ (kX0_copyFrom l g xf0 xf1 xf2 xf3 xf4 xd0 xd1 xd2 xd3 xd4 bT pFT pLT stT tmT qtT cmT dsT drT b pF pL st tm qt cm ds dr e6) (cwV 1 hts gX3_save_X0_copyFrom rfl rfl rfl hdV_X0_copyFrom ⟨Nat.le_of_ble_eq_true rfl, Nat.le_of_ble_eq_true rfl⟩) hK hP hD hS hA [23, 24, 25, 26, 27, 4, 5, 6, 7, 8] (by decide) rfl rfl 23 rfl rfl rfl hl.1 rfl (Nat.le_of_ble_eq_true rfl) ⟨Nat.le_of_ble_eq_true rfl, Nat.le_of_ble_eq_true rfl⟩ dX3_save_14 (fun H locs hP hD hS => ?_)
      replace hP : zP g (zI g h0 xt0 xt1 xt2 xd0 xd1 xd2 xd3 xd4 xc0 xc1 xc2 xc3 xc4 xp0 xp1 xs0 xu0 xe0 xe1 xe2 xe3 xe4 xf0 xf1 xf2 xf3 xf4 ad ch nu le ta lt b pF pL st tm qt cm ds dr bC pFC pLC stC tmC qtC cmC dsC drC ol pz dvs us bS pFS pLS stS tmS qtS cmS dsS drS bT6 pFT6 pLT6 stT6 tmT6 qtT6 cmT6 dsT6 drT6) H := hP
      replace hD : va_D A (zI g h0 xt0 xt1 xt2 xd0 xd1 xd2 xd3 xd4 xc0 xc1 xc2 xc3 xc4 xp0 xp1 xs0 xu0 xe0 xe1 xe2 xe3 xe4 xf0 xf1 xf2 xf3 xf4 ad ch nu le ta lt b pF pL st tm qt cm ds dr bC pFC pLC stC tmC qtC cmC dsC drC ol pz dvs us bS pFS pLS stS tmS qtS cmS dsS drS bT6 pFT6 pLT6 stT6 tmT6 qtT6 cmT6 dsT6 drT6) := hD
      refine lv_aload_n hx hb dX3_save_17 rfl (lv_at hl 0 rfl) ?_
      refine va_get (ci := 3) (v := .ref xu0) (C := RX3) (T := TX3) (N := 6) hx hb hts uX3_save_X3 hown hK hP 0 rfl rfl 5 (by decide) (hts _ mX3_save_37) (fun _ h9 => h9) rfl dX3_save_18 ?_
      refine lv_iload_n hx hb dX3_save_21 rfl (lv_at hl 1 rfl) ?_
      refine lv_iconst (v := 1) hx hb dX3_save_22 (by decide) ?_
      obtain ⟨i7, h⟩ := zi h
      refine za_zst hx hb hK hP hD hS 17 rfl _ rfl i7 dX3_save_23 (fun H locs hP hD hS => ?_)
      replace hP : zP g (zI g h0 xt0 xt1 xt2 xd0 xd1 xd2 xd3 xd4 xc0 xc1 xc2 xc3 xc4 xp0 xp1 xs0 xu0 xe0 xe1 xe2 xe3 xe4 xf0 xf1 xf2 xf3 xf4 ad ch nu le ta lt b pF pL st tm qt cm ds dr bC pFC pLC stC tmC qtC cmC dsC drC ol pz dvs (upd us a1.toNatClampNeg (vp_nar .boolean 1)) bS pFS pLS stS tmS qtS cmS dsS drS bT6 pFT6 pLT6 stT6 tmT6 qtT6 cmT6 dsT6 drT6) H := hP
      replace hD : va_D A (zI g h0 xt0 xt1 xt2 xd0 xd1 xd2 xd3 xd4 xc0 xc1 xc2 xc3 xc4 xp0 xp1 xs0 xu0 xe0 xe1 xe2 xe3 xe4 xf0 xf1 xf2 xf3 xf4 ad ch nu le ta lt b pF pL st tm qt cm ds dr bC pFC pLC stC tmC qtC cmC dsC drC ol pz dvs (upd us a1.toNatClampNeg (vp_nar .boolean 1)) bS pFS pLS stS tmS qtS cmS dsS drS bT6 pFT6 pLT6 stT6 tmT6 qtT6 cmT6 dsT6 drT6) := hD
      refine lv_aload_n hx hb dX3_save_24 rfl (lv_at hl 0 rfl) ?_
      refine va_get (ci := 3) (v := .ref xd0) (C := RX3) (T := TX3) (N := 6) hx hb hts uX3_save_X3 hown hK hP 0 rfl rfl 1 (by decide) (hts _ mX3_save_19) (fun _ h9 => h9) rfl dX3_save_25 ?_
      obtain ⟨r8, e8, h⟩ := zb h
      refine zV (As := []) (rest := []) (zQi_q _) ⟨hx, hb, hml, hown, hts⟩ (kX0_time l g xd0 xd1 xd2 xd3 xd4 b pF pL st tm qt cm ds dr e8) (cwV 0 hts gX3_save_X0_time rfl rfl rfl hdV_X0_time ⟨Nat.le_of_ble_eq_true rfl, Nat.le_of_ble_eq_true rfl⟩) hK hP [4, 5, 6, 7, 8] rfl 4 rfl rfl rfl hl.1 rfl (Nat.le_of_ble_eq_true rfl) ⟨Nat.le_of_ble_eq_true rfl, Nat.le_of_ble_eq_true rfl⟩ dX3_save_28 ?_
      cases h
      exact zx_i hx hb hr hlocks hP hS (by decide) (by decide) dX3_save_31
    replace h := zf c9 h
    exact zn h
def fX3_restore (b : Nat → Int32) (pF : Nat → Int32) (pL : Nat → Int32) (st : Nat → Int32) (tm : Int32) (qt : Int32) (cm : Int32) (ds : Int32) (dr : Int32) (pz : Int32) (us : Nat → Int32) (bS : Nat → Int32) (pFS : Nat → Int32) (pLS : Nat → Int32) (stS : Nat → Int32) (tmS : Int32) (qtS : Int32) (cmS : Int32) (dsS : Int32) (drS : Int32) (bT : Nat → Int32) (pFT : Nat → Int32) (pLT : Nat → Int32) (stT : Nat → Int32) (tmT : Int32) (qtT : Int32) (cmT : Int32) (dsT : Int32) (drT : Int32) (a1 : Int32) : Option (Int32 × Int32 × (Nat → Int32) × (Nat → Int32) × (Nat → Int32) × (Nat → Int32) × (Int32) × (Int32) × (Int32) × (Int32) × (Int32) × (Int32)) :=
  ob (fX3_checkSlot a1) fun k1 =>
  if k1 = 0 then
    if a1 < 0 ∨ 2 ≤ a1.toNatClampNeg then none else
    if (us a1.toNatClampNeg) = 0 then
      some (3, 0, b, pF, pL, st, tm, qt, cm, ds, dr, pz)
    else
      if a1 = 0 then
        ob9 (fX0_copyFrom b pF pL st bS pFS pLS stS tmS qtS cmS dsS drS) fun b5 pF5 pL5 st5 tm5 qt5 cm5 ds5 dr5 =>
        ob (fX1_forget) fun pz6 =>
        ob (fX0_time tm5) fun r7 =>
        some (0, r7, b5, pF5, pL5, st5, tm5, qt5, cm5, ds5, dr5, pz6)
      else if a1 = 1 then
        ob9 (fX0_copyFrom b pF pL st bT pFT pLT stT tmT qtT cmT dsT drT) fun b8 pF8 pL8 st8 tm8 qt8 cm8 ds8 dr8 =>
        ob (fX1_forget) fun pz9 =>
        ob (fX0_time tm8) fun r10 =>
        some (0, r10, b8, pF8, pL8, st8, tm8, qt8, cm8, ds8, dr8, pz9)
      else none
  else some (k1, 0, b, pF, pL, st, tm, qt, cm, ds, dr, pz)
theorem mX3_restore_37 : Cond.fieldLink RX3 37 "IdleDiscards" "slotUsed" "[Z" ∈ wsX3_restore := by decide +kernel
theorem uX3_restore_X3 : ∀ w ∈ wsX30, w ∈ wsX3_restore := by decide +kernel
theorem mX3_restore_19 : Cond.fieldLink RX3 19 "IdleDiscards" "device" "LIdleDiscards$Device;" ∈ wsX3_restore := by decide +kernel
theorem mX3_restore_33 : Cond.fieldLink RX3 33 "IdleDiscards" "slots" "[LIdleDiscards$Device;" ∈ wsX3_restore := by decide +kernel
theorem mX3_restore_29 : Cond.fieldLink RX3 29 "IdleDiscards" "past" "LIdleDiscards$Past;" ∈ wsX3_restore := by decide +kernel
theorem mX3_restore_k52 : Cond.classLink RX3 52 (zE 3) ∈ wsX3_restore := by decide +kernel
theorem mX3_restore_j52 : Cond.initialized (zE 3) ∈ wsX3_restore := by decide +kernel
theorem mX3_restore_a52 : ∀ w ∈ (vx_atS RX3 56 (zE 3) ["java/lang/RuntimeException", "java/lang/Exception"]).filter goodWord, w ∈ wsX3_restore := by decide +kernel
set_option maxRecDepth 100000 in
set_option maxHeartbeats 4000000 in
theorem kX3_restore (l : Launch) (g : zG) (h0 xt0 xt1 xt2 xd0 xd1 xd2 xd3 xd4 xc0 xc1 xc2 xc3 xc4 xp0 xp1 xs0 xu0 xe0 xe1 xe2 xe3 xe4 xf0 xf1 xf2 xf3 xf4 : Nat) (ad : Nat → Nat → Nat) (ch : Nat → Int32) (nu : Nat → Int32) (le : Int32) (ta : Int32) (lt : Int32) (b : Nat → Int32) (pF : Nat → Int32) (pL : Nat → Int32) (st : Nat → Int32) (tm : Int32) (qt : Int32) (cm : Int32) (ds : Int32) (dr : Int32) (bC : Nat → Int32) (pFC : Nat → Int32) (pLC : Nat → Int32) (stC : Nat → Int32) (tmC : Int32) (qtC : Int32) (cmC : Int32) (dsC : Int32) (drC : Int32) (ol : Int32) (pz : Int32) (dvs : Nat → zDv) (us : Nat → Int32) (bS : Nat → Int32) (pFS : Nat → Int32) (pLS : Nat → Int32) (stS : Nat → Int32) (tmS : Int32) (qtS : Int32) (cmS : Int32) (dsS : Int32) (drS : Int32) (bT : Nat → Int32) (pFT : Nat → Int32) (pLT : Nat → Int32) (stT : Nat → Int32) (tmT : Int32) (qtT : Int32) (cmT : Int32) (dsT : Int32) (drT : Int32) (a1 : Int32) (htr : l.stackTraces = false) {k : Int32} {r : Int32} {b' : Nat → Int32} {pF' : Nat → Int32} {pL' : Nat → Int32} {st' : Nat → Int32} {tm' : Int32} {qt' : Int32} {cm' : Int32} {ds' : Int32} {dr' : Int32} {pz' : Int32} (h : fX3_restore b pF pL st tm qt cm ds dr pz us bS pFS pLS stS tmS qtS cmS dsS drS bT pFT pLT stT tmT qtT cmT dsT drT a1 = some (k, r, b', pF', pL', st', tm', qt', cm', ds', dr', pz')) : Mx l g yX3_restore wsX3_restore { frames := 7, cells := 2, slots := 12, locals := 102 } [.ref h0, .int a1] (zI g h0 xt0 xt1 xt2 xd0 xd1 xd2 xd3 xd4 xc0 xc1 xc2 xc3 xc4 xp0 xp1 xs0 xu0 xe0 xe1 xe2 xe3 xe4 xf0 xf1 xf2 xf3 xf4 ad ch nu le ta lt b pF pL st tm qt cm ds dr bC pFC pLC stC tmC qtC cmC dsC drC ol pz dvs us bS pFS pLS stS tmS qtS cmS dsS drS bT pFT pLT stT tmT qtT cmT dsT drT) (zXi g (zI g h0 xt0 xt1 xt2 xd0 xd1 xd2 xd3 xd4 xc0 xc1 xc2 xc3 xc4 xp0 xp1 xs0 xu0 xe0 xe1 xe2 xe3 xe4 xf0 xf1 xf2 xf3 xf4 ad ch nu le ta lt b' pF' pL' st' tm' qt' cm' ds' dr' bC pFC pLC stC tmC qtC cmC dsC drC ol pz' dvs us bS pFS pLS stS tmS qtS cmS dsS drS bT pFT pLT stT tmT qtT cmT dsT drT) k r) (zXx g (zI g h0 xt0 xt1 xt2 xd0 xd1 xd2 xd3 xd4 xc0 xc1 xc2 xc3 xc4 xp0 xp1 xs0 xu0 xe0 xe1 xe2 xe3 xe4 xf0 xf1 xf2 xf3 xf4 ad ch nu le ta lt b' pF' pL' st' tm' qt' cm' ds' dr' bC pFC pLC stC tmC qtC cmC dsC drC ol pz' dvs us bS pFS pLS stS tmS qtS cmS dsS drS bT pFT pLT stT tmT qtT cmT dsT drT) k) 2 12 := by
  refine zx_in (cc := cX3_restore) (maxL := 2) (ret := (some .int)) (by decide) rfl (Nat.le_of_ble_eq_true rfl) ?_
  intro p e s m below meth c hx hb hr hml hts hown hlocks hK ht A hA hP hD hS hAm ls hl
  replace hl : lv_has ls 2 [(0, .ref h0), (1, .int a1)] := hl
  unfold fX3_restore at h
  refine lv_iload_n hx hb dX3_restore_0 rfl (lv_at hl 1 rfl) ?_
  obtain ⟨k1, e1, h⟩ := zb h
  refine zSx (As := [.int a1]) (rest := []) (zXv_q g _ _) (zXx_q g _ _) ⟨hx, hb, hml, hown, hts⟩ (kX3_checkSlot l g a1 htr e1) (va_cwS 1 hts gX3_restore_X3_checkSlot rfl rfl rfl hdS_X3_checkSlot ⟨Nat.le_of_ble_eq_true rfl, Nat.le_of_ble_eq_true rfl⟩) hK hP hD hS hA hAm [] (by decide) rfl rfl rfl hl.1 rfl (Nat.le_of_ble_eq_true rfl) ⟨Nat.le_of_ble_eq_true rfl, Nat.le_of_ble_eq_true rfl⟩ dX3_restore_1 (fun c1 H locs q ce hP hD hS hq1 hq2 hq3 => ?_) (fun c1 H locs hP hD hS => ?_)
  · replace h := zf c1 h
    replace hP : zP g (zI g h0 xt0 xt1 xt2 xd0 xd1 xd2 xd3 xd4 xc0 xc1 xc2 xc3 xc4 xp0 xp1 xs0 xu0 xe0 xe1 xe2 xe3 xe4 xf0 xf1 xf2 xf3 xf4 ad ch nu le ta lt b pF pL st tm qt cm ds dr bC pFC pLC stC tmC qtC cmC dsC drC ol pz dvs us bS pFS pLS stS tmS qtS cmS dsS drS bT pFT pLT stT tmT qtT cmT dsT drT) H := hP
    cases h
    exact zx_out ht hlocks c1 hP hS hq1 hq2 hq3 (by decide) (by decide)
  · replace h := zt c1 h
    replace hP : zP g (zI g h0 xt0 xt1 xt2 xd0 xd1 xd2 xd3 xd4 xc0 xc1 xc2 xc3 xc4 xp0 xp1 xs0 xu0 xe0 xe1 xe2 xe3 xe4 xf0 xf1 xf2 xf3 xf4 ad ch nu le ta lt b pF pL st tm qt cm ds dr bC pFC pLC stC tmC qtC cmC dsC drC ol pz dvs us bS pFS pLS stS tmS qtS cmS dsS drS bT pFT pLT stT tmT qtT cmT dsT drT) H := hP
    replace hD : va_D A (zI g h0 xt0 xt1 xt2 xd0 xd1 xd2 xd3 xd4 xc0 xc1 xc2 xc3 xc4 xp0 xp1 xs0 xu0 xe0 xe1 xe2 xe3 xe4 xf0 xf1 xf2 xf3 xf4 ad ch nu le ta lt b pF pL st tm qt cm ds dr bC pFC pLC stC tmC qtC cmC dsC drC ol pz dvs us bS pFS pLS stS tmS qtS cmS dsS drS bT pFT pLT stT tmT qtT cmT dsT drT) := hD
    refine lv_aload_n hx hb dX3_restore_4 rfl (lv_at hl 0 rfl) ?_
    refine va_get (ci := 3) (v := .ref xu0) (C := RX3) (T := TX3) (N := 6) hx hb hts uX3_restore_X3 hown hK hP 0 rfl rfl 5 (by decide) (hts _ mX3_restore_37) (fun _ h9 => h9) rfl dX3_restore_5 ?_
    refine lv_iload_n hx hb dX3_restore_8 rfl (lv_at hl 1 rfl) ?_
    obtain ⟨i2, h⟩ := zi h
    refine za_zld hx hb hK hP 17 rfl _ rfl i2 dX3_restore_9 ?_
    refine lv_if_ne (tgt := 24) hx hb dX3_restore_10 (by decide) (fun c3 => ?_) (fun c3 => ?_)
    · replace h := zf c3 h
      refine lv_aload_n hx hb dX3_restore_24 rfl (lv_at hl 0 rfl) ?_
      refine va_get (ci := 3) (v := .ref xd0) (C := RX3) (T := TX3) (N := 6) hx hb hts uX3_restore_X3 hown hK hP 0 rfl rfl 1 (by decide) (hts _ mX3_restore_19) (fun _ h9 => h9) rfl dX3_restore_25 ?_
      refine lv_aload_n hx hb dX3_restore_28 rfl (lv_at hl 0 rfl) ?_
      refine va_get (ci := 3) (v := .ref xs0) (C := RX3) (T := TX3) (N := 6) hx hb hts uX3_restore_X3 hown hK hP 0 rfl rfl 4 (by decide) (hts _ mX3_restore_33) (fun _ h9 => h9) rfl dX3_restore_29 ?_
      refine lv_iload_n hx hb dX3_restore_32 rfl (lv_at hl 1 rfl) ?_
      by_cases c4 : a1 = 0
      · replace h := zt c4 h
        refine va_aldq hx hb hK hP 16 3 rfl rfl (by rw [c4]; show ¬ ((0 : Int32) < 0 ∨ 2 ≤ Int32.toNatClampNeg 0); decide) dX3_restore_33 ?_
        rw [show (if a1.toNatClampNeg = 0 then some xe0 else some xf0) = some xe0 by rw [c4]; rfl]
        obtain ⟨b5, pF5, pL5, st5, tm5, qt5, cm5, ds5, dr5, e5, h⟩ := zb9 h
        refine zVw (As := [.ref xe0]) (rest := []) (zWv_q g _) ⟨hx, hb, hml, hown, hts⟩ (kX0_copyFrom l g xd0 xd1 xd2 xd3 xd4 xe0 xe1 xe2 xe3 xe4 b pF pL st tm qt cm ds dr bS pFS pLS stS tmS qtS cmS dsS drS e5) (cwV 1 hts gX3_restore_X0_copyFrom rfl rfl rfl hdV_X0_copyFrom ⟨Nat.le_of_ble_eq_true rfl, Nat.le_of_ble_eq_true rfl⟩) hK hP hD hS hA [4, 5, 6, 7, 8, 18, 19, 20, 21, 22] (by decide) rfl rfl 4 rfl rfl rfl hl.1 rfl (Nat.le_of_ble_eq_true rfl) ⟨Nat.le_of_ble_eq_true rfl, Nat.le_of_ble_eq_true rfl⟩ dX3_restore_34 (fun H locs hP hD hS => ?_)
        replace hP : zP g (zI g h0 xt0 xt1 xt2 xd0 xd1 xd2 xd3 xd4 xc0 xc1 xc2 xc3 xc4 xp0 xp1 xs0 xu0 xe0 xe1 xe2 xe3 xe4 xf0 xf1 xf2 xf3 xf4 ad ch nu le ta lt b5 pF5 pL5 st5 tm5 qt5 cm5 ds5 dr5 bC pFC pLC stC tmC qtC cmC dsC drC ol pz dvs us bS pFS pLS stS tmS qtS cmS dsS drS bT pFT pLT stT tmT qtT cmT dsT drT) H := hP
        replace hD : va_D A (zI g h0 xt0 xt1 xt2 xd0 xd1 xd2 xd3 xd4 xc0 xc1 xc2 xc3 xc4 xp0 xp1 xs0 xu0 xe0 xe1 xe2 xe3 xe4 xf0 xf1 xf2 xf3 xf4 ad ch nu le ta lt b5 pF5 pL5 st5 tm5 qt5 cm5 ds5 dr5 bC pFC pLC stC tmC qtC cmC dsC drC ol pz dvs us bS pFS pLS stS tmS qtS cmS dsS drS bT pFT pLT stT tmT qtT cmT dsT drT) := hD
        refine lv_aload_n hx hb dX3_restore_37 rfl (lv_at hl 0 rfl) ?_
        refine va_get (ci := 3) (v := .ref xp0) (C := RX3) (T := TX3) (N := 6) hx hb hts uX3_restore_X3 hown hK hP 0 rfl rfl 3 (by decide) (hts _ mX3_restore_29) (fun _ h9 => h9) rfl dX3_restore_38 ?_
        obtain ⟨pz6, e6, h⟩ := zb h
        refine zVw (As := []) (rest := []) (zWv_q g _) ⟨hx, hb, hml, hown, hts⟩ (kX1_forget l g xp0 (.ref xp1) ol pz e6) (cwV 0 hts gX3_restore_X1_forget rfl rfl rfl hdV_X1_forget ⟨Nat.le_of_ble_eq_true rfl, Nat.le_of_ble_eq_true rfl⟩) hK hP hD hS hA [14] (by decide) rfl rfl 14 rfl rfl rfl hl.1 rfl (Nat.le_of_ble_eq_true rfl) ⟨Nat.le_of_ble_eq_true rfl, Nat.le_of_ble_eq_true rfl⟩ dX3_restore_41 (fun H locs hP hD hS => ?_)
        replace hP : zP g (zI g h0 xt0 xt1 xt2 xd0 xd1 xd2 xd3 xd4 xc0 xc1 xc2 xc3 xc4 xp0 xp1 xs0 xu0 xe0 xe1 xe2 xe3 xe4 xf0 xf1 xf2 xf3 xf4 ad ch nu le ta lt b5 pF5 pL5 st5 tm5 qt5 cm5 ds5 dr5 bC pFC pLC stC tmC qtC cmC dsC drC ol pz6 dvs us bS pFS pLS stS tmS qtS cmS dsS drS bT pFT pLT stT tmT qtT cmT dsT drT) H := hP
        replace hD : va_D A (zI g h0 xt0 xt1 xt2 xd0 xd1 xd2 xd3 xd4 xc0 xc1 xc2 xc3 xc4 xp0 xp1 xs0 xu0 xe0 xe1 xe2 xe3 xe4 xf0 xf1 xf2 xf3 xf4 ad ch nu le ta lt b5 pF5 pL5 st5 tm5 qt5 cm5 ds5 dr5 bC pFC pLC stC tmC qtC cmC dsC drC ol pz6 dvs us bS pFS pLS stS tmS qtS cmS dsS drS bT pFT pLT stT tmT qtT cmT dsT drT) := hD
        refine lv_aload_n hx hb dX3_restore_44 rfl (lv_at hl 0 rfl) ?_
        refine va_get (ci := 3) (v := .ref xd0) (C := RX3) (T := TX3) (N := 6) hx hb hts uX3_restore_X3 hown hK hP 0 rfl rfl 1 (by decide) (hts _ mX3_restore_19) (fun _ h9 => h9) rfl dX3_restore_45 ?_
        obtain ⟨r7, e7, h⟩ := zb h
        refine zV (As := []) (rest := []) (zQi_q _) ⟨hx, hb, hml, hown, hts⟩ (kX0_time l g xd0 xd1 xd2 xd3 xd4 b5 pF5 pL5 st5 tm5 qt5 cm5 ds5 dr5 e7) (cwV 0 hts gX3_restore_X0_time rfl rfl rfl hdV_X0_time ⟨Nat.le_of_ble_eq_true rfl, Nat.le_of_ble_eq_true rfl⟩) hK hP [4, 5, 6, 7, 8] rfl 4 rfl rfl rfl hl.1 rfl (Nat.le_of_ble_eq_true rfl) ⟨Nat.le_of_ble_eq_true rfl, Nat.le_of_ble_eq_true rfl⟩ dX3_restore_48 ?_
        cases h
        exact zx_i hx hb hr hlocks hP hS (by decide) (by decide) dX3_restore_51
      replace h := zf c4 h
      by_cases c11 : a1 = 1
      · replace h := zt c11 h
        refine va_aldq hx hb hK hP 16 3 rfl rfl (by rw [c11]; show ¬ ((1 : Int32) < 0 ∨ 2 ≤ Int32.toNatClampNeg 1); decide) dX3_restore_33 ?_
        rw [show (if a1.toNatClampNeg = 0 then some xe0 else some xf0) = some xf0 by rw [c11]; rfl]
        obtain ⟨b8, pF8, pL8, st8, tm8, qt8, cm8, ds8, dr8, e8, h⟩ := zb9 h
        refine zVw (As := [.ref xf0]) (rest := []) (zWv_q g _) ⟨hx, hb, hml, hown, hts⟩ (kX0_copyFrom l g xd0 xd1 xd2 xd3 xd4 xf0 xf1 xf2 xf3 xf4 b pF pL st tm qt cm ds dr bT pFT pLT stT tmT qtT cmT dsT drT e8) (cwV 1 hts gX3_restore_X0_copyFrom rfl rfl rfl hdV_X0_copyFrom ⟨Nat.le_of_ble_eq_true rfl, Nat.le_of_ble_eq_true rfl⟩) hK hP hD hS hA [4, 5, 6, 7, 8, 23, 24, 25, 26, 27] (by decide) rfl rfl 4 rfl rfl rfl hl.1 rfl (Nat.le_of_ble_eq_true rfl) ⟨Nat.le_of_ble_eq_true rfl, Nat.le_of_ble_eq_true rfl⟩ dX3_restore_34 (fun H locs hP hD hS => ?_)
        replace hP : zP g (zI g h0 xt0 xt1 xt2 xd0 xd1 xd2 xd3 xd4 xc0 xc1 xc2 xc3 xc4 xp0 xp1 xs0 xu0 xe0 xe1 xe2 xe3 xe4 xf0 xf1 xf2 xf3 xf4 ad ch nu le ta lt b8 pF8 pL8 st8 tm8 qt8 cm8 ds8 dr8 bC pFC pLC stC tmC qtC cmC dsC drC ol pz dvs us bS pFS pLS stS tmS qtS cmS dsS drS bT pFT pLT stT tmT qtT cmT dsT drT) H := hP
        replace hD : va_D A (zI g h0 xt0 xt1 xt2 xd0 xd1 xd2 xd3 xd4 xc0 xc1 xc2 xc3 xc4 xp0 xp1 xs0 xu0 xe0 xe1 xe2 xe3 xe4 xf0 xf1 xf2 xf3 xf4 ad ch nu le ta lt b8 pF8 pL8 st8 tm8 qt8 cm8 ds8 dr8 bC pFC pLC stC tmC qtC cmC dsC drC ol pz dvs us bS pFS pLS stS tmS qtS cmS dsS drS bT pFT pLT stT tmT qtT cmT dsT drT) := hD
        refine lv_aload_n hx hb dX3_restore_37 rfl (lv_at hl 0 rfl) ?_
        refine va_get (ci := 3) (v := .ref xp0) (C := RX3) (T := TX3) (N := 6) hx hb hts uX3_restore_X3 hown hK hP 0 rfl rfl 3 (by decide) (hts _ mX3_restore_29) (fun _ h9 => h9) rfl dX3_restore_38 ?_
        obtain ⟨pz9, e9, h⟩ := zb h
        refine zVw (As := []) (rest := []) (zWv_q g _) ⟨hx, hb, hml, hown, hts⟩ (kX1_forget l g xp0 (.ref xp1) ol pz e9) (cwV 0 hts gX3_restore_X1_forget rfl rfl rfl hdV_X1_forget ⟨Nat.le_of_ble_eq_true rfl, Nat.le_of_ble_eq_true rfl⟩) hK hP hD hS hA [14] (by decide) rfl rfl 14 rfl rfl rfl hl.1 rfl (Nat.le_of_ble_eq_true rfl) ⟨Nat.le_of_ble_eq_true rfl, Nat.le_of_ble_eq_true rfl⟩ dX3_restore_41 (fun H locs hP hD hS => ?_)
        replace hP : zP g (zI g h0 xt0 xt1 xt2 xd0 xd1 xd2 xd3 xd4 xc0 xc1 xc2 xc3 xc4 xp0 xp1 xs0 xu0 xe0 xe1 xe2 xe3 xe4 xf0 xf1 xf2 xf3 xf4 ad ch nu le ta lt b8 pF8 pL8 st8 tm8 qt8 cm8 ds8 dr8 bC pFC pLC stC tmC qtC cmC dsC drC ol pz9 dvs us bS pFS pLS stS tmS qtS cmS dsS drS bT pFT pLT stT tmT qtT cmT dsT drT) H := hP
        replace hD : va_D A (zI g h0 xt0 xt1 xt2 xd0 xd1 xd2 xd3 xd4 xc0 xc1 xc2 xc3 xc4 xp0 xp1 xs0 xu0 xe0 xe1 xe2 xe3 xe4 xf0 xf1 xf2 xf3 xf4 ad ch nu le ta lt b8 pF8 pL8 st8 tm8 qt8 cm8 ds8 dr8 bC pFC pLC stC tmC qtC cmC dsC drC ol pz9 dvs us bS pFS pLS stS tmS qtS cmS dsS drS bT pFT pLT stT tmT qtT cmT dsT drT) := hD
        refine lv_aload_n hx hb dX3_restore_44 rfl (lv_at hl 0 rfl) ?_
        refine va_get (ci := 3) (v := .ref xd0) (C := RX3) (T := TX3) (N := 6) hx hb hts uX3_restore_X3 hown hK hP 0 rfl rfl 1 (by decide) (hts _ mX3_restore_19) (fun _ h9 => h9) rfl dX3_restore_45 ?_
        obtain ⟨r10, e10, h⟩ := zb h
        refine zV (As := []) (rest := []) (zQi_q _) ⟨hx, hb, hml, hown, hts⟩ (kX0_time l g xd0 xd1 xd2 xd3 xd4 b8 pF8 pL8 st8 tm8 qt8 cm8 ds8 dr8 e10) (cwV 0 hts gX3_restore_X0_time rfl rfl rfl hdV_X0_time ⟨Nat.le_of_ble_eq_true rfl, Nat.le_of_ble_eq_true rfl⟩) hK hP [4, 5, 6, 7, 8] rfl 4 rfl rfl rfl hl.1 rfl (Nat.le_of_ble_eq_true rfl) ⟨Nat.le_of_ble_eq_true rfl, Nat.le_of_ble_eq_true rfl⟩ dX3_restore_48 ?_
        cases h
        exact zx_i hx hb hr hlocks hP hS (by decide) (by decide) dX3_restore_51
      replace h := zf c11 h
      exact zn h
    · replace h := zt c3 h
      cases h
      exact zx_throwW (text := "nothing is saved in the slot") hx hb htr hown hts (by decide) zEx_3 mX3_restore_k52 mX3_restore_j52 mX3_restore_a52 zEb_3 zEg_3_52 zEf_3 zEn (by decide +kernel) hAm hP hS (hl.1.trans hml.symm) dX3_restore_13 dX3_restore_16 dX3_restore_17 dX3_restore_20 dX3_restore_23 ht (Nat.le_of_ble_eq_true rfl) (Nat.le_of_ble_eq_true rfl) (Nat.le_of_ble_eq_true rfl) (Nat.le_of_ble_eq_true rfl) hlocks (by decide) (by decide)
