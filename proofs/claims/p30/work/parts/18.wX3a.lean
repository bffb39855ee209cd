abbrev zI (g : zG) (h0 xt0 xt1 xt2 xd0 xd1 xd2 xd3 xd4 xc0 xc1 xc2 xc3 xc4 xp0 xp1 xs0 xu0 xe0 xe1 xe2 xe3 xe4 xf0 xf1 xf2 xf3 xf4 : Nat) (ad : Nat → Nat → Nat) (ch : Nat → Int32) (nu : Nat → Int32) (le : Int32) (ta : Int32) (lt : Int32) (b : Nat → Int32) (pF : Nat → Int32) (pL : Nat → Int32) (st : Nat → Int32) (tm : Int32) (qt : Int32) (cm : Int32) (ds : Int32) (dr : Int32) (bC : Nat → Int32) (pFC : Nat → Int32) (pLC : Nat → Int32) (stC : Nat → Int32) (tmC : Int32) (qtC : Int32) (cmC : Int32) (dsC : Int32) (drC : Int32) (ol : Int32) (pz : Int32) (dvs : Nat → zDv) (us : Nat → Int32) (bS : Nat → Int32) (pFS : Nat → Int32) (pLS : Nat → Int32) (stS : Nat → Int32) (tmS : Int32) (qtS : Int32) (cmS : Int32) (dsS : Int32) (drS : Int32) (bT : Nat → Int32) (pFT : Nat → Int32) (pLT : Nat → Int32) (stT : Nat → Int32) (tmT : Int32) (qtT : Int32) (cmT : Int32) (dsT : Int32) (drT : Int32) : va_W := [(h0, .inr (3, [.ref xt0, .ref xd0, .ref xc0, .ref xp0, .ref xs0, .ref xu0])), (xt0, .inr (2, [.ref xt1, .ref xt2, .int le, .int ta, .int lt])), (xt1, .inl (g.2.2.1, 120, .inl ch)), (xt2, .inl (g.2.1, 3, .inl nu)), (xd0, .inr (0, [.ref xd1, .ref xd2, .ref xd3, .ref xd4, .int tm, .int qt, .int cm, .int ds, .int dr])), (xd1, .inl (g.2.1, 256, .inl b)), (xd2, .inl (g.2.1, 3, .inl pF)), (xd3, .inl (g.2.1, 3, .inl pL)), (xd4, .inl (g.2.1, 6, .inl st)), (xc0, .inr (0, [.ref xc1, .ref xc2, .ref xc3, .ref xc4, .int tmC, .int qtC, .int cmC, .int dsC, .int drC])), (xc1, .inl (g.2.1, 256, .inl bC)), (xc2, .inl (g.2.1, 3, .inl pFC)), (xc3, .inl (g.2.1, 3, .inl pLC)), (xc4, .inl (g.2.1, 6, .inl stC)), (xp0, .inr (1, [.ref xp1, .int ol, .int pz])), (xp1, .inl (g.2.2.2.2.1, 14, .inr (.inr (.inr (.inr (fun i => some (ad i 0))))))), (xs0, .inl (g.2.2.2.2.1, 2, .inr (.inr (.inr (.inr (fun i => if i = 0 then some xe0 else some xf0)))))), (xu0, .inl (g.2.2.2.1, 2, .inl us)), (xe0, .inr (0, [.ref xe1, .ref xe2, .ref xe3, .ref xe4, .int tmS, .int qtS, .int cmS, .int dsS, .int drS])), (xe1, .inl (g.2.1, 256, .inl bS)), (xe2, .inl (g.2.1, 3, .inl pFS)), (xe3, .inl (g.2.1, 3, .inl pLS)), (xe4, .inl (g.2.1, 6, .inl stS)), (xf0, .inr (0, [.ref xf1, .ref xf2, .ref xf3, .ref xf4, .int tmT, .int qtT, .int cmT, .int dsT, .int drT])), (xf1, .inl (g.2.1, 256, .inl bT)), (xf2, .inl (g.2.1, 3, .inl pFT)), (xf3, .inl (g.2.1, 3, .inl pLT)), (xf4, .inl (g.2.1, 6, .inl stT))] ++ zpool g ad dvs 14
def fX3_isBlock (a0 : Int32) : Option (Int32) :=
  if a0 < 0 then
    some 0
  else
    if 256 ≤ a0 then
      some 0
    else
      some 1
set_option maxRecDepth 100000 in
set_option maxHeartbeats 4000000 in
theorem kX3_isBlock (l : Launch) (g : zG) (a0 : Int32) {r : Int32} (h : fX3_isBlock a0 = some r) : Mr l g yX3_isBlock wsX3_isBlock { frames := 0, cells := 0, slots := 0, locals := 0 } [.int a0] [] (zQi r) := by
  refine zr_in (cc := cX3_isBlock) (maxL := 1) (ret := (some .boolean)) (by decide) rfl (Nat.le_of_ble_eq_true rfl) ?_
  intro p e s m below meth c hx hb hr hml hts hown hlocks hP hK ls hl
  replace hl : lv_has ls 1 [(0, .int a0)] := hl
  unfold fX3_isBlock at h
  refine lv_iload_n hx hb dX3_isBlock_0 rfl (lv_at hl 0 rfl) ?_
  refine lv_if_lt (tgt := 15) hx hb dX3_isBlock_1 (by decide) (fun c1 => ?_) (fun c1 => ?_)
  · replace h := zt c1 h
    refine lv_iconst (v := 0) hx hb dX3_isBlock_15 (by decide) ?_
    cases h
    exact zr_z hx hb hr hlocks (by decide) dX3_isBlock_16
  · replace h := zf c1 h
    refine lv_iload_n hx hb dX3_isBlock_4 rfl (lv_at hl 0 rfl) ?_
    refine lv_sipush (v := 256) hx hb dX3_isBlock_5 (by decide) ?_
    refine lv_icmp_ge (tgt := 15) hx hb dX3_isBlock_8 (by decide) (fun c2 => ?_) (fun c2 => ?_)
    · replace h := zt c2 h
      refine lv_iconst (v := 0) hx hb dX3_isBlock_15 (by decide) ?_
      cases h
      exact zr_z hx hb hr hlocks (by decide) dX3_isBlock_16
    · replace h := zf c2 h
      refine lv_iconst (v := 1) hx hb dX3_isBlock_11 (by decide) ?_
      refine lv_goto (tgt := 16) hx hb dX3_isBlock_12 (by decide) ?_
      cases h
      exact zr_z hx hb hr hlocks (by decide) dX3_isBlock_16
def fX3_isLength (a0 : Int32) : Option (Int32) :=
  if a0 < 1 then
    some 0
  else
    if 99 < a0 then
      some 0
    else
      some 1
set_option maxRecDepth 100000 in
set_option maxHeartbeats 4000000 in
theorem kX3_isLength (l : Launch) (g : zG) (a0 : Int32) {r : Int32} (h : fX3_isLength a0 = some r) : Mr l g yX3_isLength wsX3_isLength { frames := 0, cells := 0, slots := 0, locals := 0 } [.int a0] [] (zQi r) := by
  refine zr_in (cc := cX3_isLength) (maxL := 1) (ret := (some .boolean)) (by decide) rfl (Nat.le_of_ble_eq_true rfl) ?_
  intro p e s m below meth c hx hb hr hml hts hown hlocks hP hK ls hl
  replace hl : lv_has ls 1 [(0, .int a0)] := hl
  unfold fX3_isLength at h
  refine lv_iload_n hx hb dX3_isLength_0 rfl (lv_at hl 0 rfl) ?_
  refine lv_iconst (v := 1) hx hb dX3_isLength_1 (by decide) ?_
  refine lv_icmp_lt (tgt := 15) hx hb dX3_isLength_2 (by decide) (fun c1 => ?_) (fun c1 => ?_)
  · replace h := zt c1 h
    refine lv_iconst (v := 0) hx hb dX3_isLength_15 (by decide) ?_
    cases h
    exact zr_z hx hb hr hlocks (by decide) dX3_isLength_16
  · replace h := zf c1 h
    refine lv_iload_n hx hb dX3_isLength_5 rfl (lv_at hl 0 rfl) ?_
    refine lv_bipush (v := 99) hx hb dX3_isLength_6 (by decide) ?_
    refine lv_icmp_gt (tgt := 15) hx hb dX3_isLength_8 (by decide) (fun c2 => ?_) (fun c2 => ?_)
    · replace h := zt c2 h
      refine lv_iconst (v := 0) hx hb dX3_isLength_15 (by decide) ?_
      cases h
      exact zr_z hx hb hr hlocks (by decide) dX3_isLength_16
    · replace h := zf c2 h
      refine lv_iconst (v := 1) hx hb dX3_isLength_11 (by decide) ?_
      refine lv_goto (tgt := 16) hx hb dX3_isLength_12 (by decide) ?_
      cases h
      exact zr_z hx hb hr hlocks (by decide) dX3_isLength_16
theorem hdS_X3_isBlock : yX3_isBlock.cls ≠ "java/lang/invoke/MethodHandle" ∧ yX3_isBlock.cls ≠ "java/lang/invoke/VarHandle" ∧ (parseMethodDescriptor yX3_isBlock.desc).map (fun d => d.parameters.length) = some 1 := by decide +kernel
theorem hdS_X3_isLength : yX3_isLength.cls ≠ "java/lang/invoke/MethodHandle" ∧ yX3_isLength.cls ≠ "java/lang/invoke/VarHandle" ∧ (parseMethodDescriptor yX3_isLength.desc).map (fun d => d.parameters.length) = some 1 := by decide +kernel
def fX3_isSpan (a0 : Int32) (a1 : Int32) : Option (Int32) :=
  ob (fX3_isBlock a0) fun r1 =>
  if r1 = 0 then
    some 0
  else
    ob (fX3_isLength a1) fun r3 =>
    if r3 = 0 then
      some 0
    else
      if 256 < (a0 + a1) then
        some 0
      else
        some 1
set_option maxRecDepth 100000 in
set_option maxHeartbeats 4000000 in
theorem kX3_isSpan (l : Launch) (g : zG) (a0 : Int32) (a1 : Int32) {r : Int32} (h : fX3_isSpan a0 a1 = some r) : Mr l g yX3_isSpan wsX3_isSpan { frames := 1, cells := 0, slots := 0, locals := 20 } [.int a0, .int a1] [] (zQi r) := by
  refine zr_in (cc := cX3_isSpan) (maxL := 2) (ret := (some .boolean)) (by decide) rfl (Nat.le_of_ble_eq_true rfl) ?_
  intro p e s m below meth c hx hb hr hml hts hown hlocks hP hK ls hl
  replace hl : lv_has ls 2 [(0, .int a0), (1, .int a1)] := hl
  unfold fX3_isSpan at h
  refine lv_iload_n hx hb dX3_isSpan_0 rfl (lv_at hl 0 rfl) ?_
  obtain ⟨r1, e1, h⟩ := zb h
  refine zS (As := [.int a0]) (rest := []) (zQi_q _) ⟨hx, hb, hml, hown, hts⟩ (kX3_isBlock l g a0 e1) (va_cwS 1 hts gX3_isSpan_X3_isBlock rfl rfl rfl hdS_X3_isBlock ⟨Nat.le_of_ble_eq_true rfl, Nat.le_of_ble_eq_true rfl⟩) hK hP [] rfl rfl hl.1 rfl (Nat.le_of_ble_eq_true rfl) ⟨Nat.zero_le _, Nat.zero_le _⟩ dX3_isSpan_1 ?_
  refine lv_if_eq (tgt := 27) hx hb dX3_isSpan_4 (by decide) (fun c2 => ?_) (fun c2 => ?_)
  · replace h := zt c2 h
    refine lv_iconst (v := 0) hx hb dX3_isSpan_27 (by decide) ?_
    cases h
    exact zr_z hx hb hr hlocks (by decide) dX3_isSpan_28
  · replace h := zf c2 h
    refine lv_iload_n hx hb dX3_isSpan_7 rfl (lv_at hl 1 rfl) ?_
    obtain ⟨r3, e3, h⟩ := zb h
    refine zS (As := [.int a1]) (rest := []) (zQi_q _) ⟨hx, hb, hml, hown, hts⟩ (kX3_isLength l g a1 e3) (va_cwS 1 hts gX3_isSpan_X3_isLength rfl rfl rfl hdS_X3_isLength ⟨Nat.le_of_ble_eq_true rfl, Nat.le_of_ble_eq_true rfl⟩) hK hP [] rfl rfl hl.1 rfl (Nat.le_of_ble_eq_true rfl) ⟨Nat.zero_le _, Nat.zero_le _⟩ dX3_isSpan_8 ?_
    refine lv_if_eq (tgt := 27) hx hb dX3_isSpan_11 (by decide) (fun c4 => ?_) (fun c4 => ?_)
    · replace h := zt c4 h
      refine lv_iconst (v := 0) hx hb dX3_isSpan_27 (by decide) ?_
      cases h
      exact zr_z hx hb hr hlocks (by decide) dX3_isSpan_28
    · replace h := zf c4 h
      refine lv_iload_n hx hb dX3_isSpan_14 rfl (lv_at hl 0 rfl) ?_
      refine lv_iload_n hx hb dX3_isSpan_15 rfl (lv_at hl 1 rfl) ?_
      refine lv_iadd hx hb dX3_isSpan_16 ?_
      refine lv_sipush (v := 256) hx hb dX3_isSpan_17 (by decide) ?_
      refine lv_icmp_gt (tgt := 27) hx hb dX3_isSpan_20 (by decide) (fun c5 => ?_) (fun c5 => ?_)
      · replace h := zt c5 h
        refine lv_iconst (v := 0) hx hb dX3_isSpan_27 (by decide) ?_
        cases h
        exact zr_z hx hb hr hlocks (by decide) dX3_isSpan_28
      · replace h := zf c5 h
        refine lv_iconst (v := 1) hx hb dX3_isSpan_23 (by decide) ?_
        refine lv_goto (tgt := 28) hx hb dX3_isSpan_24 (by decide) ?_
        cases h
        exact zr_z hx hb hr hlocks (by decide) dX3_isSpan_28
def fX3_isTicks (a0 : Int32) (a1 : Int32) : Option (Int32) :=
  if a0 < 1 then
    some 0
  else
    if a1 < a0 then
      some 0
    else
      some 1
set_option maxRecDepth 100000 in
set_option maxHeartbeats 4000000 in
theorem kX3_isTicks (l : Launch) (g : zG) (a0 : Int32) (a1 : Int32) {r : Int32} (h : fX3_isTicks a0 a1 = some r) : Mr l g yX3_isTicks wsX3_isTicks { frames := 0, cells := 0, slots := 0, locals := 0 } [.int a0, .int a1] [] (zQi r) := by
  refine zr_in (cc := cX3_isTicks) (maxL := 2) (ret := (some .boolean)) (by decide) rfl (Nat.le_of_ble_eq_true rfl) ?_
  intro p e s m below meth c hx hb hr hml hts hown hlocks hP hK ls hl
  replace hl : lv_has ls 2 [(0, .int a0), (1, .int a1)] := hl
  unfold fX3_isTicks at h
  refine lv_iload_n hx hb dX3_isTicks_0 rfl (lv_at hl 0 rfl) ?_
  refine lv_iconst (v := 1) hx hb dX3_isTicks_1 (by decide) ?_
  refine lv_icmp_lt (tgt := 14) hx hb dX3_isTicks_2 (by decide) (fun c1 => ?_) (fun c1 => ?_)
  · replace h := zt c1 h
    refine lv_iconst (v := 0) hx hb dX3_isTicks_14 (by decide) ?_
    cases h
    exact zr_z hx hb hr hlocks (by decide) dX3_isTicks_15
  · replace h := zf c1 h
    refine lv_iload_n hx hb dX3_isTicks_5 rfl (lv_at hl 0 rfl) ?_
    refine lv_iload_n hx hb dX3_isTicks_6 rfl (lv_at hl 1 rfl) ?_
    refine lv_icmp_gt (tgt := 14) hx hb dX3_isTicks_7 (by decide) (fun c2 => ?_) (fun c2 => ?_)
    · replace h := zt c2 h
      refine lv_iconst (v := 0) hx hb dX3_isTicks_14 (by decide) ?_
      cases h
      exact zr_z hx hb hr hlocks (by decide) dX3_isTicks_15
    · replace h := zf c2 h
      refine lv_iconst (v := 1) hx hb dX3_isTicks_10 (by decide) ?_
      refine lv_goto (tgt := 15) hx hb dX3_isTicks_11 (by decide) ?_
      cases h
      exact zr_z hx hb hr hlocks (by decide) dX3_isTicks_15
def fX3_isPin (a0 : Int32) : Option (Int32) :=
  if a0 < 0 then
    some 0
  else
    if 3 ≤ a0 then
      some 0
    else
      some 1
set_option maxRecDepth 100000 in
set_option maxHeartbeats 4000000 in
theorem kX3_isPin (l : Launch) (g : zG) (a0 : Int32) {r : Int32} (h : fX3_isPin a0 = some r) : Mr l g yX3_isPin wsX3_isPin { frames := 0, cells := 0, slots := 0, locals := 0 } [.int a0] [] (zQi r) := by
  refine zr_in (cc := cX3_isPin) (maxL := 1) (ret := (some .boolean)) (by decide) rfl (Nat.le_of_ble_eq_true rfl) ?_
  intro p e s m below meth c hx hb hr hml hts hown hlocks hP hK ls hl
  replace hl : lv_has ls 1 [(0, .int a0)] := hl
  unfold fX3_isPin at h
  refine lv_iload_n hx hb dX3_isPin_0 rfl (lv_at hl 0 rfl) ?_
  refine lv_if_lt (tgt := 13) hx hb dX3_isPin_1 (by decide) (fun c1 => ?_) (fun c1 => ?_)
  · replace h := zt c1 h
    refine lv_iconst (v := 0) hx hb dX3_isPin_13 (by decide) ?_
    cases h
    exact zr_z hx hb hr hlocks (by decide) dX3_isPin_14
  · replace h := zf c1 h
    refine lv_iload_n hx hb dX3_isPin_4 rfl (lv_at hl 0 rfl) ?_
    refine lv_iconst (v := 3) hx hb dX3_isPin_5 (by decide) ?_
    refine lv_icmp_ge (tgt := 13) hx hb dX3_isPin_6 (by decide) (fun c2 => ?_) (fun c2 => ?_)
    · replace h := zt c2 h
      refine lv_iconst (v := 0) hx hb dX3_isPin_13 (by decide) ?_
      cases h
      exact zr_z hx hb hr hlocks (by decide) dX3_isPin_14
    · replace h := zf c2 h
      refine lv_iconst (v := 1) hx hb dX3_isPin_9 (by decide) ?_
      refine lv_goto (tgt := 14) hx hb dX3_isPin_10 (by decide) ?_
      cases h
      exact zr_z hx hb hr hlocks (by decide) dX3_isPin_14
def fX3_isSetting (a0 : Int32) : Option (Int32) :=
  if a0 < 0 then
    some 0
  else
    if 6 ≤ a0 then
      some 0
    else
      some 1
set_option maxRecDepth 100000 in
set_option maxHeartbeats 4000000 in
theorem kX3_isSetting (l : Launch) (g : zG) (a0 : Int32) {r : Int32} (h : fX3_isSetting a0 = some r) : Mr l g yX3_isSetting wsX3_isSetting { frames := 0, cells := 0, slots := 0, locals := 0 } [.int a0] [] (zQi r) := by
  refine zr_in (cc := cX3_isSetting) (maxL := 1) (ret := (some .boolean)) (by decide) rfl (Nat.le_of_ble_eq_true rfl) ?_
  intro p e s m below meth c hx hb hr hml hts hown hlocks hP hK ls hl
  replace hl : lv_has ls 1 [(0, .int a0)] := hl
  unfold fX3_isSetting at h
  refine lv_iload_n hx hb dX3_isSetting_0 rfl (lv_at hl 0 rfl) ?_
  refine lv_if_lt (tgt := 14) hx hb dX3_isSetting_1 (by decide) (fun c1 => ?_) (fun c1 => ?_)
  · replace h := zt c1 h
    refine lv_iconst (v := 0) hx hb dX3_isSetting_14 (by decide) ?_
    cases h
    exact zr_z hx hb hr hlocks (by decide) dX3_isSetting_15
  · replace h := zf c1 h
    refine lv_iload_n hx hb dX3_isSetting_4 rfl (lv_at hl 0 rfl) ?_
    refine lv_bipush (v := 6) hx hb dX3_isSetting_5 (by decide) ?_
    refine lv_icmp_ge (tgt := 14) hx hb dX3_isSetting_7 (by decide) (fun c2 => ?_) (fun c2 => ?_)
    · replace h := zt c2 h
      refine lv_iconst (v := 0) hx hb dX3_isSetting_14 (by decide) ?_
      cases h
      exact zr_z hx hb hr hlocks (by decide) dX3_isSetting_15
    · replace h := zf c2 h
      refine lv_iconst (v := 1) hx hb dX3_isSetting_10 (by decide) ?_
      refine lv_goto (tgt := 15) hx hb dX3_isSetting_11 (by decide) ?_
      cases h
      exact zr_z hx hb hr hlocks (by decide) dX3_isSetting_15
theorem hdS_X3_isSetting : yX3_isSetting.cls ≠ "java/lang/invoke/MethodHandle" ∧ yX3_isSetting.cls ≠ "java/lang/invoke/VarHandle" ∧ (parseMethodDescriptor yX3_isSetting.desc).map (fun d => d.parameters.length) = some 1 := by decide +kernel
def fX3_isValue (a0 : Int32) (a1 : Int32) : Option (Int32) :=
  ob (fX3_isSetting a0) fun r1 =>
  if r1 = 0 then
    some 0
  else
    if a1 < 0 then
      some 0
    else
      if a0 < 0 ∨ 6 ≤ a0.toNatClampNeg then none else
      if (zGs a0.toNatClampNeg) < a1 then
        some 0
      else
        some 1
theorem mX3_isValue_273 : Cond.fieldLink RX3 273 "IdleDiscards" "GREATEST_SETTINGS" "[I" ∈ wsX3_isValue := by decide +kernel
set_option maxRecDepth 100000 in
set_option maxHeartbeats 4000000 in
theorem kX3_isValue (l : Launch) (g : zG) (a0 : Int32) (a1 : Int32) {r : Int32} (h : fX3_isValue a0 a1 = some r) : Ma l g yX3_isValue wsX3_isValue { frames := 1, cells := 0, slots := 0, locals := 20 } [.int a0, .int a1] [] (zWi g [] r) := by
  refine zm_in (cc := cX3_isValue) (maxL := 2) (ret := (some .boolean)) (by decide) rfl (Nat.le_of_ble_eq_true rfl) ?_
  intro p e s m below meth c hx hb hr hml hts hown hlocks hK A hA hP hD hS hAm ls hl
  replace hl : lv_has ls 2 [(0, .int a0), (1, .int a1)] := hl
  obtain ⟨⟨tg1, hZ1, hT1⟩, ⟨tg2, hZ2, hT2⟩, -⟩ := id hAm
  unfold fX3_isValue at h
  refine lv_iload_n hx hb dX3_isValue_0 rfl (lv_at hl 0 rfl) ?_
  obtain ⟨r1, e1, h⟩ := zb h
  refine zS (As := [.int a0]) (rest := []) (zQi_q _) ⟨hx, hb, hml, hown, hts⟩ (kX3_isSetting l g a0 e1) (va_cwS 1 hts gX3_isValue_X3_isSetting rfl rfl rfl hdS_X3_isSetting ⟨Nat.le_of_ble_eq_true rfl, Nat.le_of_ble_eq_true rfl⟩) hK hP [] rfl rfl hl.1 rfl (Nat.le_of_ble_eq_true rfl) ⟨Nat.zero_le _, Nat.zero_le _⟩ dX3_isValue_1 ?_
  refine lv_if_eq (tgt := 24) hx hb dX3_isValue_4 (by decide) (fun c2 => ?_) (fun c2 => ?_)
  · replace h := zt c2 h
    refine lv_iconst (v := 0) hx hb dX3_isValue_24 (by decide) ?_
    cases h
    exact zw_z hx hb hr hlocks (by decide) hP hS dX3_isValue_25
  · replace h := zf c2 h
    refine lv_iload_n hx hb dX3_isValue_7 rfl (lv_at hl 1 rfl) ?_
    refine lv_if_lt (tgt := 24) hx hb dX3_isValue_8 (by decide) (fun c3 => ?_) (fun c3 => ?_)
    · replace h := zt c3 h
      refine lv_iconst (v := 0) hx hb dX3_isValue_24 (by decide) ?_
      cases h
      exact zw_z hx hb hr hlocks (by decide) hP hS dX3_isValue_25
    · replace h := zf c3 h
      refine lv_iload_n hx hb dX3_isValue_11 rfl (lv_at hl 1 rfl) ?_
      refine va_gets hx hb hZ2 hS hown (hts _ mX3_isValue_273) (fun _ h9 => h9) dX3_isValue_12 ?_
      refine lv_iload_n hx hb dX3_isValue_15 rfl (lv_at hl 0 rfl) ?_
      obtain ⟨i4, h⟩ := zi h
      refine va_ti (v := .int (zGs a0.toNatClampNeg)) hx hb hT2 hS i4 rfl dX3_isValue_16 ?_
      refine lv_icmp_gt (tgt := 24) hx hb dX3_isValue_17 (by decide) (fun c5 => ?_) (fun c5 => ?_)
      · replace h := zt c5 h
        refine lv_iconst (v := 0) hx hb dX3_isValue_24 (by decide) ?_
        cases h
        exact zw_z hx hb hr hlocks (by decide) hP hS dX3_isValue_25
      · replace h := zf c5 h
        refine lv_iconst (v := 1) hx hb dX3_isValue_20 (by decide) ?_
        refine lv_goto (tgt := 25) hx hb dX3_isValue_21 (by decide) ?_
        cases h
        exact zw_z hx hb hr hlocks (by decide) hP hS dX3_isValue_25
def fX3_groupsFrom_5  : Nat → Int32 → Int64 → Int32 → Option (Int64)
  | 0, _, _, _ => none
  | n + 1, v2, v3, v5 =>
    if v2 ≤ v5 then
        some v3
      else
        fX3_groupsFrom_5 n v2 (v3 / (1000000)) (v5 + 1)
def fX3_groupsFrom (a0 : Int64) (a2 : Int32) : Option (Int64) :=
  fX3_groupsFrom_5 1000 a2 a0 0
theorem mX3_groupsFrom_285 : Cond.constantLong RX3 285 (1000000) ∈ wsX3_groupsFrom := by decide +kernel
set_option maxRecDepth 100000 in
set_option maxHeartbeats 4000000 in
theorem kX3_groupsFrom (l : Launch) (g : zG) (a0 : Int64) (a2 : Int32) {r : Int64} (h : fX3_groupsFrom a0 a2 = some r) : Mr l g yX3_groupsFrom wsX3_groupsFrom { frames := 0, cells := 0, slots := 0, locals := 0 } [.long a0, .int a2] [] (zQl r) := by
  refine zr_in (cc := cX3_groupsFrom) (maxL := 6) (ret := (some .long)) (by decide) rfl (Nat.le_of_ble_eq_true rfl) ?_
  intro p e s m below meth c hx hb hr hml hts hown hlocks hP hK ls hl
  replace hl : lv_has ls 6 [(0, .long a0), (2, .int a2)] := hl
  have loop_5 : ∀ (n : Nat) (v2 : Int32) (v3 : Int64) (v5 : Int32), fX3_groupsFrom_5 n v2 v3 v5 = some r → ∀ (ls : Array Slot), lv_has ls 6 [(2, .int v2), (3, .long v3), (5, .int v5)] → W p l e ({ frames := 0, cells := 0, slots := 0, locals := 0 } : Room) s m [.long a0, .int a2].toArray below meth c s.heap [] 0 0 (MQ below (zQl r) [.long a0, .int a2].toArray s 0 0 (fun _ => False)) (F0 m 5 ls []) := by
    intro n
    induction n with
    | zero => intro v2 v3 v5 h ls hl; exact zn h
    | succ n ih =>
      intro v2 v3 v5 h ls hl
      rw [fX3_groupsFrom_5] at h
      refine lv_iload hx hb dX3_groupsFrom_5 (lv_at hl 2 rfl) ?_
      refine lv_iload_n hx hb dX3_groupsFrom_7 rfl (lv_at hl 0 rfl) ?_
      refine lv_icmp_ge (tgt := 23) hx hb dX3_groupsFrom_8 (by decide) (fun c1 => ?_) (fun c1 => ?_)
      · replace h := zt c1 h
        refine lv_lload_n hx hb dX3_groupsFrom_23 rfl (lv_at hl 1 rfl) ?_
        cases h
        exact zr_l hx hb hr hlocks dX3_groupsFrom_24
      · replace h := zf c1 h
        refine lv_lload_n hx hb dX3_groupsFrom_11 rfl (lv_at hl 1 rfl) ?_
        refine lv_ldc2 hx hb hown (hts _ mX3_groupsFrom_285) dX3_groupsFrom_12 ?_
        refine lv_ldiv hx hb dX3_groupsFrom_15 (by decide) ?_
        refine lv_lstore_n (lv' := [(3, .long (v3 / (1000000))), (2, .int v2), (5, .int v5)]) hx hb dX3_groupsFrom_16 rfl hl (by decide) rfl (fun ls hl => ?_)
        refine lv_iinc (v := (v5 + 1)) (lv' := [(5, .int (v5 + 1)), (3, .long (v3 / (1000000))), (2, .int v2)]) hx hb dX3_groupsFrom_17 hl (k := 2) rfl rfl (by decide) rfl (fun ls hl => ?_)
        refine lv_goto (tgt := 5) hx hb dX3_groupsFrom_20 (by decide) ?_
        exact ih v2 (v3 / (1000000)) (v5 + 1) h ls (lv_sub hl [2, 1, 0] rfl)
  unfold fX3_groupsFrom at h
  refine lv_lload_n hx hb dX3_groupsFrom_0 rfl (lv_at hl 0 rfl) ?_
  refine lv_lstore_n (lv' := [(3, .long a0), (0, .long a0), (2, .int a2)]) hx hb dX3_groupsFrom_1 rfl hl (by decide) rfl (fun ls hl => ?_)
  refine lv_iconst (v := 0) hx hb dX3_groupsFrom_2 (by decide) ?_
  refine lv_istore (lv' := [(5, .int 0), (3, .long a0), (0, .long a0), (2, .int a2)]) hx hb dX3_groupsFrom_3 hl (by decide) rfl (fun ls hl => ?_)
  exact loop_5 1000 a2 a0 0 h ls (lv_sub hl [3, 1, 0] rfl)
def fX3_checkBlock (a0 : Int32) : Option (Int32) :=
  ob (fX3_isBlock a0) fun r1 =>
  if r1 = 0 then
    some 1
  else
    some 0
theorem mX3_checkBlock_k158 : Cond.classLink RX3 158 (zE 1) ∈ wsX3_checkBlock := by decide +kernel
theorem mX3_checkBlock_j158 : Cond.initialized (zE 1) ∈ wsX3_checkBlock := by decide +kernel
theorem mX3_checkBlock_a158 : ∀ w ∈ (vx_atS RX3 162 (zE 1) ["java/lang/RuntimeException", "java/lang/Exception"]).filter goodWord, w ∈ wsX3_checkBlock := by decide +kernel
set_option maxRecDepth 100000 in
set_option maxHeartbeats 4000000 in
theorem kX3_checkBlock (l : Launch) (g : zG) (a0 : Int32) (htr : l.stackTraces = false) {k : Int32} (h : fX3_checkBlock a0 = some k) : Mx l g yX3_checkBlock wsX3_checkBlock { frames := 6, cells := 1, slots := 6, locals := 82 } [.int a0] [] (zXv g [] k) (zXx g [] k) 1 6 := by
  refine zx_in (cc := cX3_checkBlock) (maxL := 1) (ret := none) (by decide) rfl (Nat.le_of_ble_eq_true rfl) ?_
  intro p e s m below meth c hx hb hr hml hts hown hlocks hK ht A hA hP hD hS hAm ls hl
  replace hl : lv_has ls 1 [(0, .int a0)] := hl
  unfold fX3_checkBlock at h
  refine lv_iload_n hx hb dX3_checkBlock_0 rfl (lv_at hl 0 rfl) ?_
  obtain ⟨r1, e1, h⟩ := zb h
  refine zS (As := [.int a0]) (rest := []) (zQi_q _) ⟨hx, hb, hml, hown, hts⟩ (kX3_isBlock l g a0 e1) (va_cwS 1 hts gX3_checkBlock_X3_isBlock rfl rfl rfl hdS_X3_isBlock ⟨Nat.le_of_ble_eq_true rfl, Nat.le_of_ble_eq_true rfl⟩) hK hP [] rfl rfl hl.1 rfl (Nat.le_of_ble_eq_true rfl) ⟨Nat.le_of_ble_eq_true rfl, Nat.le_of_ble_eq_true rfl⟩ dX3_checkBlock_1 ?_
  refine lv_if_ne (tgt := 18) hx hb dX3_checkBlock_4 (by decide) (fun c2 => ?_) (fun c2 => ?_)
  · replace h := zf c2 h
    cases h
    exact zx_v hx hb hr hlocks hP hS (by decide) (by decide) dX3_checkBlock_18
  · replace h := zt c2 h
    cases h
    exact zx_throwW (text := "no such block") hx hb htr hown hts (by decide) zEx_1 mX3_checkBlock_k158 mX3_checkBlock_j158 mX3_checkBlock_a158 zEb_1 zEg_1_158 zEf_1 zEn (by decide +kernel) hAm hP hS (hl.1.trans hml.symm) dX3_checkBlock_7 dX3_checkBlock_10 dX3_checkBlock_11 dX3_checkBlock_14 dX3_checkBlock_17 ht (Nat.le_of_ble_eq_true rfl) (Nat.le_of_ble_eq_true rfl) (Nat.le_of_ble_eq_true rfl) (Nat.le_of_ble_eq_true rfl) hlocks (by decide) (by decide)
theorem hdS_X3_checkBlock : yX3_checkBlock.cls ≠ "java/lang/invoke/MethodHandle" ∧ yX3_checkBlock.cls ≠ "java/lang/invoke/VarHandle" ∧ (parseMethodDescriptor yX3_checkBlock.desc).map (fun d => d.parameters.length) = some 1 := by decide +kernel
theorem hdS_X3_isSpan : yX3_isSpan.cls ≠ "java/lang/invoke/MethodHandle" ∧ yX3_isSpan.cls ≠ "java/lang/invoke/VarHandle" ∧ (parseMethodDescriptor yX3_isSpan.desc).map (fun d => d.parameters.length) = some 2 := by decide +kernel
def fX3_checkSpan (a0 : Int32) (a1 : Int32) : Option (Int32) :=
  ob (fX3_checkBlock a0) fun k1 =>
  if k1 = 0 then
    ob (fX3_isLength a1) fun r2 =>
    if r2 = 0 then
      some 2
    else
      ob (fX3_isSpan a0 a1) fun r4 =>
      if r4 = 0 then
        some 3
      else
        some 0
  else some k1
theorem mX3_checkSpan_k52 : Cond.classLink RX3 52 (zE 3) ∈ wsX3_checkSpan := by decide +kernel
theorem mX3_checkSpan_j52 : Cond.initialized (zE 3) ∈ wsX3_checkSpan := by decide +kernel
theorem mX3_checkSpan_a52 : ∀ w ∈ (vx_atS RX3 56 (zE 3) ["java/lang/RuntimeException", "java/lang/Exception"]).filter goodWord, w ∈ wsX3_checkSpan := by decide +kernel
theorem mX3_checkSpan_k41 : Cond.classLink RX3 41 (zE 2) ∈ wsX3_checkSpan := by decide +kernel
theorem mX3_checkSpan_j41 : Cond.initialized (zE 2) ∈ wsX3_checkSpan := by decide +kernel
theorem mX3_checkSpan_a41 : ∀ w ∈ (vx_atS RX3 45 (zE 2) ["java/lang/RuntimeException", "java/lang/Exception"]).filter goodWord, w ∈ wsX3_checkSpan := by decide +kernel
set_option maxRecDepth 100000 in
set_option maxHeartbeats 4000000 in
theorem kX3_checkSpan (l : Launch) (g : zG) (a0 : Int32) (a1 : Int32) (htr : l.stackTraces = false) {k : Int32} (h : fX3_checkSpan a0 a1 = some k) : Mx l g yX3_checkSpan wsX3_checkSpan { frames := 7, cells := 2, slots := 12, locals := 102 } [.int a0, .int a1] [] (zXv g [] k) (zXx g [] k) 2 12 := by
  refine zx_in (cc := cX3_checkSpan) (maxL := 2) (ret := none) (by decide) rfl (Nat.le_of_ble_eq_true rfl) ?_
  intro p e s m below meth c hx hb hr hml hts hown hlocks hK ht A hA hP hD hS hAm ls hl
  replace hl : lv_has ls 2 [(0, .int a0), (1, .int a1)] := hl
  unfold fX3_checkSpan at h
  refine lv_iload_n hx hb dX3_checkSpan_0 rfl (lv_at hl 0 rfl) ?_
  obtain ⟨k1, e1, h⟩ := zb h
  refine zSx (As := [.int a0]) (rest := []) (zXv_q g _ _) (zXx_q g _ _) ⟨hx, hb, hml, hown, hts⟩ (kX3_checkBlock l g a0 htr e1) (va_cwS 1 hts gX3_checkSpan_X3_checkBlock rfl rfl rfl hdS_X3_checkBlock ⟨Nat.le_of_ble_eq_true rfl, Nat.le_of_ble_eq_true rfl⟩) hK hP hD hS hA hAm [] (by decide) rfl rfl rfl hl.1 rfl (Nat.le_of_ble_eq_true rfl) ⟨Nat.le_of_ble_eq_true rfl, Nat.le_of_ble_eq_true rfl⟩ dX3_checkSpan_1 (fun c1 H locs q ce hP hD hS hq1 hq2 hq3 => ?_) (fun c1 H locs hP hD hS => ?_)
  · replace h := zf c1 h
    replace hP : zP g [] H := hP
    cases h
    exact zx_out ht hlocks c1 hP hS hq1 hq2 hq3 (by decide) (by decide)
  · replace h := zt c1 h
    replace hP : zP g [] H := hP
    replace hD : va_D A [] := hD
    refine lv_iload_n hx hb dX3_checkSpan_4 rfl (lv_at hl 1 rfl) ?_
    obtain ⟨r2, e2, h⟩ := zb h
    refine zS (As := [.int a1]) (rest := []) (zQi_q _) ⟨hx, hb, hml, hown, hts⟩ (kX3_isLength l g a1 e2) (va_cwS 1 hts gX3_checkSpan_X3_isLength rfl rfl rfl hdS_X3_isLength ⟨Nat.le_of_ble_eq_true rfl, Nat.le_of_ble_eq_true rfl⟩) hK hP [] rfl rfl hl.1 rfl (Nat.le_of_ble_eq_true rfl) ⟨Nat.le_of_ble_eq_true rfl, Nat.le_of_ble_eq_true rfl⟩ dX3_checkSpan_5 ?_
    refine lv_if_ne (tgt := 22) hx hb dX3_checkSpan_8 (by decide) (fun c3 => ?_) (fun c3 => ?_)
    · replace h := zf c3 h
      refine lv_iload_n hx hb dX3_checkSpan_22 rfl (lv_at hl 0 rfl) ?_
      refine lv_iload_n hx hb dX3_checkSpan_23 rfl (lv_at hl 1 rfl) ?_
      obtain ⟨r4, e4, h⟩ := zb h
      refine zS (As := [.int a0, .int a1]) (rest := []) (zQi_q _) ⟨hx, hb, hml, hown, hts⟩ (kX3_isSpan l g a0 a1 e4) (va_cwS 2 hts gX3_checkSpan_X3_isSpan rfl rfl rfl hdS_X3_isSpan ⟨Nat.le_of_ble_eq_true rfl, Nat.le_of_ble_eq_true rfl⟩) hK hP [] rfl rfl hl.1 rfl (Nat.le_of_ble_eq_true rfl) ⟨Nat.le_of_ble_eq_true rfl, Nat.le_of_ble_eq_true rfl⟩ dX3_checkSpan_24 ?_
      refine lv_if_ne (tgt := 41) hx hb dX3_checkSpan_27 (by decide) (fun c5 => ?_) (fun c5 => ?_)
      · replace h := zf c5 h
        cases h
        exact zx_v hx hb hr hlocks hP hS (by decide) (by decide) dX3_checkSpan_41
      · replace h := zt c5 h
        cases h
        exact zx_throwW (text := "the span goes beyond the last block") hx hb htr hown hts (by decide) zEx_3 mX3_checkSpan_k52 mX3_checkSpan_j52 mX3_checkSpan_a52 zEb_3 zEg_3_52 zEf_3 zEn (by decide +kernel) hAm hP hS (hl.1.trans hml.symm) dX3_checkSpan_30 dX3_checkSpan_33 dX3_checkSpan_34 dX3_checkSpan_37 dX3_checkSpan_40 ht (Nat.le_of_ble_eq_true rfl) (Nat.le_of_ble_eq_true rfl) (Nat.le_of_ble_eq_true rfl) (Nat.le_of_ble_eq_true rfl) hlocks (by decide) (by decide)
    · replace h := zt c3 h
      cases h
      exact zx_throwW (text := "no such length") hx hb htr hown hts (by decide) zEx_2 mX3_checkSpan_k41 mX3_checkSpan_j41 mX3_checkSpan_a41 zEb_2 zEg_2_41 zEf_2 zEn (by decide +kernel) hAm hP hS (hl.1.trans hml.symm) dX3_checkSpan_11 dX3_checkSpan_14 dX3_checkSpan_15 dX3_checkSpan_18 dX3_checkSpan_21 ht (Nat.le_of_ble_eq_true rfl) (Nat.le_of_ble_eq_true rfl) (Nat.le_of_ble_eq_true rfl) (Nat.le_of_ble_eq_true rfl) hlocks (by decide) (by decide)
theorem hdS_X3_isPin : yX3_isPin.cls ≠ "java/lang/invoke/MethodHandle" ∧ yX3_isPin.cls ≠ "java/lang/invoke/VarHandle" ∧ (parseMethodDescriptor yX3_isPin.desc).map (fun d => d.parameters.length) = some 1 := by decide +kernel
def fX3_checkPin (a0 : Int32) : Option (Int32) :=
  ob (fX3_isPin a0) fun r1 =>
  if r1 = 0 then
    some 1
  else
    some 0
theorem mX3_checkPin_k158 : Cond.classLink RX3 158 (zE 1) ∈ wsX3_checkPin := by decide +kernel
theorem mX3_checkPin_j158 : Cond.initialized (zE 1) ∈ wsX3_checkPin := by decide +kernel
theorem mX3_checkPin_a158 : ∀ w ∈ (vx_atS RX3 162 (zE 1) ["java/lang/RuntimeException", "java/lang/Exception"]).filter goodWord, w ∈ wsX3_checkPin := by decide +kernel
set_option maxRecDepth 100000 in
set_option maxHeartbeats 4000000 in
theorem kX3_checkPin (l : Launch) (g : zG) (a0 : Int32) (htr : l.stackTraces = false) {k : Int32} (h : fX3_checkPin a0 = some k) : Mx l g yX3_checkPin wsX3_checkPin { frames := 6, cells := 1, slots := 6, locals := 82 } [.int a0] [] (zXv g [] k) (zXx g [] k) 1 6 := by
  refine zx_in (cc := cX3_checkPin) (maxL := 1) (ret := none) (by decide) rfl (Nat.le_of_ble_eq_true rfl) ?_
  intro p e s m below meth c hx hb hr hml hts hown hlocks hK ht A hA hP hD hS hAm ls hl
  replace hl : lv_has ls 1 [(0, .int a0)] := hl
  unfold fX3_checkPin at h
  refine lv_iload_n hx hb dX3_checkPin_0 rfl (lv_at hl 0 rfl) ?_
  obtain ⟨r1, e1, h⟩ := zb h
  refine zS (As := [.int a0]) (rest := []) (zQi_q _) ⟨hx, hb, hml, hown, hts⟩ (kX3_isPin l g a0 e1) (va_cwS 1 hts gX3_checkPin_X3_isPin rfl rfl rfl hdS_X3_isPin ⟨Nat.le_of_ble_eq_true rfl, Nat.le_of_ble_eq_true rfl⟩) hK hP [] rfl rfl hl.1 rfl (Nat.le_of_ble_eq_true rfl) ⟨Nat.le_of_ble_eq_true rfl, Nat.le_of_ble_eq_true rfl⟩ dX3_checkPin_1 ?_
  refine lv_if_ne (tgt := 18) hx hb dX3_checkPin_4 (by decide) (fun c2 => ?_) (fun c2 => ?_)
  · replace h := zf c2 h
    cases h
    exact zx_v hx hb hr hlocks hP hS (by decide) (by decide) dX3_checkPin_18
  · replace h := zt c2 h
    cases h
    exact zx_throwW (text := "no such pin") hx hb htr hown hts (by decide) zEx_1 mX3_checkPin_k158 mX3_checkPin_j158 mX3_checkPin_a158 zEb_1 zEg_1_158 zEf_1 zEn (by decide +kernel) hAm hP hS (hl.1.trans hml.symm) dX3_checkPin_7 dX3_checkPin_10 dX3_checkPin_11 dX3_checkPin_14 dX3_checkPin_17 ht (Nat.le_of_ble_eq_true rfl) (Nat.le_of_ble_eq_true rfl) (Nat.le_of_ble_eq_true rfl) (Nat.le_of_ble_eq_true rfl) hlocks (by decide) (by decide)
theorem hdS_X3_isTicks : yX3_isTicks.cls ≠ "java/lang/invoke/MethodHandle" ∧ yX3_isTicks.cls ≠ "java/lang/invoke/VarHandle" ∧ (parseMethodDescriptor yX3_isTicks.desc).map (fun d => d.parameters.length) = some 2 := by decide +kernel
def fX3_checkTicks (a0 : Int32) (a1 : Int32) : Option (Int32) :=
  ob (fX3_isTicks a0 a1) fun r1 =>
  if r1 = 0 then
    some 2
  else
    some 0
theorem mX3_checkTicks_k41 : Cond.classLink RX3 41 (zE 2) ∈ wsX3_checkTicks := by decide +kernel
theorem mX3_checkTicks_j41 : Cond.initialized (zE 2) ∈ wsX3_checkTicks := by decide +kernel
theorem mX3_checkTicks_a41 : ∀ w ∈ (vx_atS RX3 45 (zE 2) ["java/lang/RuntimeException", "java/lang/Exception"]).filter goodWord, w ∈ wsX3_checkTicks := by decide +kernel
set_option maxRecDepth 100000 in
set_option maxHeartbeats 4000000 in
theorem kX3_checkTicks (l : Launch) (g : zG) (a0 : Int32) (a1 : Int32) (htr : l.stackTraces = false) {k : Int32} (h : fX3_checkTicks a0 a1 = some k) : Mx l g yX3_checkTicks wsX3_checkTicks { frames := 6, cells := 1, slots := 6, locals := 82 } [.int a0, .int a1] [] (zXv g [] k) (zXx g [] k) 1 6 := by
  refine zx_in (cc := cX3_checkTicks) (maxL := 2) (ret := none) (by decide) rfl (Nat.le_of_ble_eq_true rfl) ?_
  intro p e s m below meth c hx hb hr hml hts hown hlocks hK ht A hA hP hD hS hAm ls hl
  replace hl : lv_has ls 2 [(0, .int a0), (1, .int a1)] := hl
  unfold fX3_checkTicks at h
  refine lv_iload_n hx hb dX3_checkTicks_0 rfl (lv_at hl 0 rfl) ?_
  refine lv_iload_n hx hb dX3_checkTicks_1 rfl (lv_at hl 1 rfl) ?_
  obtain ⟨r1, e1, h⟩ := zb h
  refine zS (As := [.int a0, .int a1]) (rest := []) (zQi_q _) ⟨hx, hb, hml, hown, hts⟩ (kX3_isTicks l g a0 a1 e1) (va_cwS 2 hts gX3_checkTicks_X3_isTicks rfl rfl rfl hdS_X3_isTicks ⟨Nat.le_of_ble_eq_true rfl, Nat.le_of_ble_eq_true rfl⟩) hK hP [] rfl rfl hl.1 rfl (Nat.le_of_ble_eq_true rfl) ⟨Nat.le_of_ble_eq_true rfl, Nat.le_of_ble_eq_true rfl⟩ dX3_checkTicks_2 ?_
  refine lv_if_ne (tgt := 19) hx hb dX3_checkTicks_5 (by decide) (fun c2 => ?_) (fun c2 => ?_)
  · replace h := zf c2 h
    cases h
    exact zx_v hx hb hr hlocks hP hS (by decide) (by decide) dX3_checkTicks_19
  · replace h := zt c2 h
    cases h
    exact zx_throwW (text := "no such number of ticks") hx hb htr hown hts (by decide) zEx_2 mX3_checkTicks_k41 mX3_checkTicks_j41 mX3_checkTicks_a41 zEb_2 zEg_2_41 zEf_2 zEn (by decide +kernel) hAm hP hS (hl.1.trans hml.symm) dX3_checkTicks_8 dX3_checkTicks_11 dX3_checkTicks_12 dX3_checkTicks_15 dX3_checkTicks_18 ht (Nat.le_of_ble_eq_true rfl) (Nat.le_of_ble_eq_true rfl) (Nat.le_of_ble_eq_true rfl) (Nat.le_of_ble_eq_true rfl) hlocks (by decide) (by decide)
def fX3_checkSlot (a0 : Int32) : Option (Int32) :=
  if a0 < 0 then
    some 1
  else
    if a0 < 2 then
      some 0
    else
      some 1
theorem mX3_checkSlot_k158 : Cond.classLink RX3 158 (zE 1) ∈ wsX3_checkSlot := by decide +kernel
theorem mX3_checkSlot_j158 : Cond.initialized (zE 1) ∈ wsX3_checkSlot := by decide +kernel
theorem mX3_checkSlot_a158 : ∀ w ∈ (vx_atS RX3 162 (zE 1) ["java/lang/RuntimeException", "java/lang/Exception"]).filter goodWord, w ∈ wsX3_checkSlot := by decide +kernel
set_option maxRecDepth 100000 in
set_option maxHeartbeats 4000000 in
theorem kX3_checkSlot (l : Launch) (g : zG) (a0 : Int32) (htr : l.stackTraces = false) {k : Int32} (h : fX3_checkSlot a0 = some k) : Mx l g yX3_checkSlot wsX3_checkSlot { frames := 6, cells := 1, slots := 6, locals := 82 } [.int a0] [] (zXv g [] k) (zXx g [] k) 1 6 := by
  refine zx_in (cc := cX3_checkSlot) (maxL := 1) (ret := none) (by decide) rfl (Nat.le_of_ble_eq_true rfl) ?_
  intro p e s m below meth c hx hb hr hml hts hown hlocks hK ht A hA hP hD hS hAm ls hl
  replace hl : lv_has ls 1 [(0, .int a0)] := hl
  unfold fX3_checkSlot at h
  refine lv_iload_n hx hb dX3_checkSlot_0 rfl (lv_at hl 0 rfl) ?_
  refine lv_if_lt (tgt := 9) hx hb dX3_checkSlot_1 (by decide) (fun c1 => ?_) (fun c1 => ?_)
  · replace h := zt c1 h
    cases h
    exact zx_throwW (text := "no such save slot") hx hb htr hown hts (by decide) zEx_1 mX3_checkSlot_k158 mX3_checkSlot_j158 mX3_checkSlot_a158 zEb_1 zEg_1_158 zEf_1 zEn (by decide +kernel) hAm hP hS (hl.1.trans hml.symm) dX3_checkSlot_9 dX3_checkSlot_12 dX3_checkSlot_13 dX3_checkSlot_16 dX3_checkSlot_19 ht (Nat.le_of_ble_eq_true rfl) (Nat.le_of_ble_eq_true rfl) (Nat.le_of_ble_eq_true rfl) (Nat.le_of_ble_eq_true rfl) hlocks (by decide) (by decide)
  · replace h := zf c1 h
    refine lv_iload_n hx hb dX3_checkSlot_4 rfl (lv_at hl 0 rfl) ?_
    refine lv_iconst (v := 2) hx hb dX3_checkSlot_5 (by decide) ?_
    refine lv_icmp_lt (tgt := 20) hx hb dX3_checkSlot_6 (by decide) (fun c2 => ?_) (fun c2 => ?_)
    · replace h := zt c2 h
      cases h
      exact zx_v hx hb hr hlocks hP hS (by decide) (by decide) dX3_checkSlot_20
    · replace h := zf c2 h
      cases h
      exact zx_throwW (text := "no such save slot") hx hb htr hown hts (by decide) zEx_1 mX3_checkSlot_k158 mX3_checkSlot_j158 mX3_checkSlot_a158 zEb_1 zEg_1_158 zEf_1 zEn (by decide +kernel) hAm hP hS (hl.1.trans hml.symm) dX3_checkSlot_9 dX3_checkSlot_12 dX3_checkSlot_13 dX3_checkSlot_16 dX3_checkSlot_19 ht (Nat.le_of_ble_eq_true rfl) (Nat.le_of_ble_eq_true rfl) (Nat.le_of_ble_eq_true rfl) (Nat.le_of_ble_eq_true rfl) hlocks (by decide) (by decide)
theorem hdV_X0_writeSpan : yX0_writeSpan.cls = RX0 ∧ yX0_writeSpan.cls ≠ "java/lang/invoke/MethodHandle" ∧ yX0_writeSpan.cls ≠ "java/lang/invoke/VarHandle" ∧ (parseMethodDescriptor yX0_writeSpan.desc).map (fun d => d.parameters.length) = some 2 := by decide +kernel
def fX3_writeIfAllowed (b : Nat → Int32) (qt : Int32) (dr : Int32) (a0 : Int32) (a1 : Int32) : Option (Int32 × (Nat → Int32) × (Int32) × (Int32)) :=
  ob (fX3_isSpan a0 a1) fun r1 =>
  if r1 = 0 then
    some (0, b, qt, dr)
  else
    ob4 (fX0_writeSpan b qt dr a0 a1) fun r3 b3 qt3 dr3 =>
    some (1, b3, qt3, dr3)
set_option maxRecDepth 100000 in
set_option maxHeartbeats 4000000 in
theorem kX3_writeIfAllowed (l : Launch) (g : zG) (h0 h1 h2 h3 h4 : Nat) (b : Nat → Int32) (pF : Nat → Int32) (pL : Nat → Int32) (st : Nat → Int32) (tm : Int32) (qt : Int32) (cm : Int32) (ds : Int32) (dr : Int32) (a0 : Int32) (a1 : Int32) {r : Int32} {b' : Nat → Int32} {qt' : Int32} {dr' : Int32} (h : fX3_writeIfAllowed b qt dr a0 a1 = some (r, b', qt', dr')) : Mw l g yX3_writeIfAllowed wsX3_writeIfAllowed { frames := 3, cells := 0, slots := 0, locals := 72 } [.int a0, .int a1, .ref h0] (zD g h0 h1 h2 h3 h4 b pF pL st tm qt cm ds dr) (zWi g (zD g h0 h1 h2 h3 h4 b' pF pL st tm qt' cm ds dr') r) := by
  refine zw_in (cc := cX3_writeIfAllowed) (maxL := 3) (ret := (some .boolean)) (by decide) rfl (Nat.le_of_ble_eq_true rfl) ?_
  intro p e s m below meth c hx hb hr hml hts hown hlocks hK A hA hP hD hS ls hl
  replace hl : lv_has ls 3 [(0, .int a0), (1, .int a1), (2, .ref h0)] := hl
  unfold fX3_writeIfAllowed at h
  refine lv_iload_n hx hb dX3_writeIfAllowed_0 rfl (lv_at hl 0 rfl) ?_
  refine lv_iload_n hx hb dX3_writeIfAllowed_1 rfl (lv_at hl 1 rfl) ?_
  obtain ⟨r1, e1, h⟩ := zb h
  refine zS (As := [.int a0, .int a1]) (rest := []) (zQi_q _) ⟨hx, hb, hml, hown, hts⟩ (kX3_isSpan l g a0 a1 e1) (va_cwS 2 hts gX3_writeIfAllowed_X3_isSpan rfl rfl rfl hdS_X3_isSpan ⟨Nat.le_of_ble_eq_true rfl, Nat.le_of_ble_eq_true rfl⟩) hK hP [] rfl rfl hl.1 rfl (Nat.le_of_ble_eq_true rfl) ⟨Nat.zero_le _, Nat.zero_le _⟩ dX3_writeIfAllowed_2 ?_
  refine lv_if_ne (tgt := 10) hx hb dX3_writeIfAllowed_5 (by decide) (fun c2 => ?_) (fun c2 => ?_)
  · replace h := zf c2 h
    refine lv_aload_n hx hb dX3_writeIfAllowed_10 rfl (lv_at hl 2 rfl) ?_
    refine lv_iload_n hx hb dX3_writeIfAllowed_11 rfl (lv_at hl 0 rfl) ?_
    refine lv_iload_n hx hb dX3_writeIfAllowed_12 rfl (lv_at hl 1 rfl) ?_
    obtain ⟨r3, b3, qt3, dr3, e3, h⟩ := zb4 h
    refine zVw (As := [.int a0, .int a1]) (rest := []) (zWi_q g _ _) ⟨hx, hb, hml, hown, hts⟩ (kX0_writeSpan l g h0 h1 h2 h3 h4 b pF pL st tm qt cm ds dr a0 a1 e3) (cwV 2 hts gX3_writeIfAllowed_X0_writeSpan rfl rfl rfl hdV_X0_writeSpan ⟨Nat.le_of_ble_eq_true rfl, Nat.le_of_ble_eq_true rfl⟩) hK hP hD hS hA [0, 1, 2, 3, 4] (by decide) rfl rfl 0 rfl rfl rfl hl.1 rfl (Nat.le_of_ble_eq_true rfl) ⟨Nat.zero_le _, Nat.zero_le _⟩ dX3_writeIfAllowed_13 (fun H locs hP hD hS => ?_)
    replace hP : zP g (zD g h0 h1 h2 h3 h4 b3 pF pL st tm qt3 cm ds dr3) H := hP
    replace hD : va_D A (zD g h0 h1 h2 h3 h4 b3 pF pL st tm qt3 cm ds dr3) := hD
    refine lv_pop hx hb dX3_writeIfAllowed_16 rfl ?_
    refine lv_iconst (v := 1) hx hb dX3_writeIfAllowed_17 (by decide) ?_
    cases h
    exact zw_z hx hb hr hlocks (by decide) hP hS dX3_writeIfAllowed_18
  · replace h := zt c2 h
    refine lv_iconst (v := 0) hx hb dX3_writeIfAllowed_8 (by decide) ?_
    cases h
    exact zw_z hx hb hr hlocks (by decide) hP hS dX3_writeIfAllowed_9
theorem hdV_X0_freeSpan : yX0_freeSpan.cls = RX0 ∧ yX0_freeSpan.cls ≠ "java/lang/invoke/MethodHandle" ∧ yX0_freeSpan.cls ≠ "java/lang/invoke/VarHandle" ∧ (parseMethodDescriptor yX0_freeSpan.desc).map (fun d => d.parameters.length) = some 2 := by decide +kernel
def fX3_freeIfAllowed (b : Nat → Int32) (tm : Int32) (qt : Int32) (dr : Int32) (a0 : Int32) (a1 : Int32) : Option (Int32 × (Nat → Int32) × (Int32) × (Int32)) :=
  ob (fX3_isSpan a0 a1) fun r1 =>
  if r1 = 0 then
    some (0, b, qt, dr)
  else
    ob4 (fX0_freeSpan b tm qt dr a0 a1) fun r3 b3 qt3 dr3 =>
    some (1, b3, qt3, dr3)
set_option maxRecDepth 100000 in
set_option maxHeartbeats 4000000 in
theorem kX3_freeIfAllowed (l : Launch) (g : zG) (h0 h1 h2 h3 h4 : Nat) (b : Nat → Int32) (pF : Nat → Int32) (pL : Nat → Int32) (st : Nat → Int32) (tm : Int32) (qt : Int32) (cm : Int32) (ds : Int32) (dr : Int32) (a0 : Int32) (a1 : Int32) {r : Int32} {b' : Nat → Int32} {qt' : Int32} {dr' : Int32} (h : fX3_freeIfAllowed b tm qt dr a0 a1 = some (r, b', qt', dr')) : Mw l g yX3_freeIfAllowed wsX3_freeIfAllowed { frames := 3, cells := 0, slots := 0, locals := 72 } [.int a0, .int a1, .ref h0] (zD g h0 h1 h2 h3 h4 b pF pL st tm qt cm ds dr) (zWi g (zD g h0 h1 h2 h3 h4 b' pF pL st tm qt' cm ds dr') r) := by
  refine zw_in (cc := cX3_freeIfAllowed) (maxL := 3) (ret := (some .boolean)) (by decide) rfl (Nat.le_of_ble_eq_true rfl) ?_
  intro p e s m below meth c hx hb hr hml hts hown hlocks hK A hA hP hD hS ls hl
  replace hl : lv_has ls 3 [(0, .int a0), (1, .int a1), (2, .ref h0)] := hl
  unfold fX3_freeIfAllowed at h
  refine lv_iload_n hx hb dX3_freeIfAllowed_0 rfl (lv_at hl 0 rfl) ?_
  refine lv_iload_n hx hb dX3_freeIfAllowed_1 rfl (lv_at hl 1 rfl) ?_
  obtain ⟨r1, e1, h⟩ := zb h
  refine zS (As := [.int a0, .int a1]) (rest := []) (zQi_q _) ⟨hx, hb, hml, hown, hts⟩ (kX3_isSpan l g a0 a1 e1) (va_cwS 2 hts gX3_freeIfAllowed_X3_isSpan rfl rfl rfl hdS_X3_isSpan ⟨Nat.le_of_ble_eq_true rfl, Nat.le_of_ble_eq_true rfl⟩) hK hP [] rfl rfl hl.1 rfl (Nat.le_of_ble_eq_true rfl) ⟨Nat.zero_le _, Nat.zero_le _⟩ dX3_freeIfAllowed_2 ?_
  refine lv_if_ne (tgt := 10) hx hb dX3_freeIfAllowed_5 (by decide) (fun c2 => ?_) (fun c2 => ?_)
  · replace h := zf c2 h
    refine lv_aload_n hx hb dX3_freeIfAllowed_10 rfl (lv_at hl 2 rfl) ?_
    refine lv_iload_n hx hb dX3_freeIfAllowed_11 rfl (lv_at hl 0 rfl) ?_
    refine lv_iload_n hx hb dX3_freeIfAllowed_12 rfl (lv_at hl 1 rfl) ?_
    obtain ⟨r3, b3, qt3, dr3, e3, h⟩ := zb4 h
    refine zVw (As := [.int a0, .int a1]) (rest := []) (zWi_q g _ _) ⟨hx, hb, hml, hown, hts⟩ (kX0_freeSpan l g h0 h1 h2 h3 h4 b pF pL st tm qt cm ds dr a0 a1 e3) (cwV 2 hts gX3_freeIfAllowed_X0_freeSpan rfl rfl rfl hdV_X0_freeSpan ⟨Nat.le_of_ble_eq_true rfl, Nat.le_of_ble_eq_true rfl⟩) hK hP hD hS hA [0, 1, 2, 3, 4] (by decide) rfl rfl 0 rfl rfl rfl hl.1 rfl (Nat.le_of_ble_eq_true rfl) ⟨Nat.zero_le _, Nat.zero_le _⟩ dX3_freeIfAllowed_13 (fun H locs hP hD hS => ?_)
    replace hP : zP g (zD g h0 h1 h2 h3 h4 b3 pF pL st tm qt3 cm ds dr3) H := hP
    replace hD : va_D A (zD g h0 h1 h2 h3 h4 b3 pF pL st tm qt3 cm ds dr3) := hD
    refine lv_pop hx hb dX3_freeIfAllowed_16 rfl ?_
    refine lv_iconst (v := 1) hx hb dX3_freeIfAllowed_17 (by decide) ?_
    cases h
    exact zw_z hx hb hr hlocks (by decide) hP hS dX3_freeIfAllowed_18
  · replace h := zt c2 h
    refine lv_iconst (v := 0) hx hb dX3_freeIfAllowed_8 (by decide) ?_
    cases h
    exact zw_z hx hb hr hlocks (by decide) hP hS dX3_freeIfAllowed_9
theorem hdS_X3_isValue : yX3_isValue.cls ≠ "java/lang/invoke/MethodHandle" ∧ yX3_isValue.cls ≠ "java/lang/invoke/VarHandle" ∧ (parseMethodDescriptor yX3_isValue.desc).map (fun d => d.parameters.length) = some 2 := by decide +kernel
theorem hdV_X0_changeSetting : yX0_changeSetting.cls = RX0 ∧ yX0_changeSetting.cls ≠ "java/lang/invoke/MethodHandle" ∧ yX0_changeSetting.cls ≠ "java/lang/invoke/VarHandle" ∧ (parseMethodDescriptor yX0_changeSetting.desc).map (fun d => d.parameters.length) = some 2 := by decide +kernel
def fX3_setIfAllowed (st : Nat → Int32) (a0 : Int32) (a1 : Int32) : Option (Int32 × (Nat → Int32)) :=
  ob (fX3_isValue a0 a1) fun r1 =>
  if r1 = 0 then
    some (0, st)
  else
    ob (fX0_changeSetting st a0 a1) fun st3 =>
    some (1, st3)
set_option maxRecDepth 100000 in
set_option maxHeartbeats 4000000 in
theorem kX3_setIfAllowed (l : Launch) (g : zG) (h0 h1 h2 h3 h4 : Nat) (b : Nat → Int32) (pF : Nat → Int32) (pL : Nat → Int32) (st : Nat → Int32) (tm : Int32) (qt : Int32) (cm : Int32) (ds : Int32) (dr : Int32) (a0 : Int32) (a1 : Int32) {r : Int32} {st' : Nat → Int32} (h : fX3_setIfAllowed st a0 a1 = some (r, st')) : Ma l g yX3_setIfAllowed wsX3_setIfAllowed { frames := 2, cells := 0, slots := 0, locals := 41 } [.int a0, .int a1, .ref h0] (zD g h0 h1 h2 h3 h4 b pF pL st tm qt cm ds dr) (zWi g (zD g h0 h1 h2 h3 h4 b pF pL st' tm qt cm ds dr) r) := by
  refine zm_in (cc := cX3_setIfAllowed) (maxL := 3) (ret := (some .boolean)) (by decide) rfl (Nat.le_of_ble_eq_true rfl) ?_
  intro p e s m below meth c hx hb hr hml hts hown hlocks hK A hA hP hD hS hAm ls hl
  replace hl : lv_has ls 3 [(0, .int a0), (1, .int a1), (2, .ref h0)] := hl
  unfold fX3_setIfAllowed at h
  refine lv_iload_n hx hb dX3_setIfAllowed_0 rfl (lv_at hl 0 rfl) ?_
  refine lv_iload_n hx hb dX3_setIfAllowed_1 rfl (lv_at hl 1 rfl) ?_
  obtain ⟨r1, e1, h⟩ := zb h
  refine zSa (As := [.int a0, .int a1]) (rest := []) (zWi_q g _ _) ⟨hx, hb, hml, hown, hts⟩ (kX3_isValue l g a0 a1 e1) (va_cwS 2 hts gX3_setIfAllowed_X3_isValue rfl rfl rfl hdS_X3_isValue ⟨Nat.le_of_ble_eq_true rfl, Nat.le_of_ble_eq_true rfl⟩) hK hP hD hS hA hAm [] (by decide) rfl rfl rfl hl.1 rfl (Nat.le_of_ble_eq_true rfl) ⟨Nat.zero_le _, Nat.zero_le _⟩ dX3_setIfAllowed_2 (fun H locs hP hD hS => ?_)
  replace hP : zP g (zD g h0 h1 h2 h3 h4 b pF pL st tm qt cm ds dr) H := hP
  replace hD : va_D A (zD g h0 h1 h2 h3 h4 b pF pL st tm qt cm ds dr) := hD
  refine lv_if_ne (tgt := 10) hx hb dX3_setIfAllowed_5 (by decide) (fun c2 => ?_) (fun c2 => ?_)
  · replace h := zf c2 h
    refine lv_aload_n hx hb dX3_setIfAllowed_10 rfl (lv_at hl 2 rfl) ?_
    refine lv_iload_n hx hb dX3_setIfAllowed_11 rfl (lv_at hl 0 rfl) ?_
    refine lv_iload_n hx hb dX3_setIfAllowed_12 rfl (lv_at hl 1 rfl) ?_
    obtain ⟨st3, e3, h⟩ := zb h
    refine zVw (As := [.int a0, .int a1]) (rest := []) (zWv_q g _) ⟨hx, hb, hml, hown, hts⟩ (kX0_changeSetting l g h0 h1 h2 h3 h4 b pF pL st tm qt cm ds dr a0 a1 e3) (cwV 2 hts gX3_setIfAllowed_X0_changeSetting rfl rfl rfl hdV_X0_changeSetting ⟨Nat.le_of_ble_eq_true rfl, Nat.le_of_ble_eq_true rfl⟩) hK hP hD hS hA [0, 1, 2, 3, 4] (by decide) rfl rfl 0 rfl rfl rfl hl.1 rfl (Nat.le_of_ble_eq_true rfl) ⟨Nat.zero_le _, Nat.zero_le _⟩ dX3_setIfAllowed_13 (fun H locs hP hD hS => ?_)
    replace hP : zP g (zD g h0 h1 h2 h3 h4 b pF pL st3 tm qt cm ds dr) H := hP
    replace hD : va_D A (zD g h0 h1 h2 h3 h4 b pF pL st3 tm qt cm ds dr) := hD
    refine lv_iconst (v := 1) hx hb dX3_setIfAllowed_16 (by decide) ?_
    cases h
    exact zw_z hx hb hr hlocks (by decide) hP hS dX3_setIfAllowed_17
  · replace h := zt c2 h
    refine lv_iconst (v := 0) hx hb dX3_setIfAllowed_8 (by decide) ?_
    cases h
    exact zw_z hx hb hr hlocks (by decide) hP hS dX3_setIfAllowed_9
theorem hdV_X0_pinSpan : yX0_pinSpan.cls = RX0 ∧ yX0_pinSpan.cls ≠ "java/lang/invoke/MethodHandle" ∧ yX0_pinSpan.cls ≠ "java/lang/invoke/VarHandle" ∧ (parseMethodDescriptor yX0_pinSpan.desc).map (fun d => d.parameters.length) = some 3 := by decide +kernel
def fX3_pinIfAllowed (pF : Nat → Int32) (pL : Nat → Int32) (a0 : Int32) (a1 : Int32) (a2 : Int32) : Option (Int32 × (Nat → Int32) × (Nat → Int32)) :=
  ob (fX3_isPin a0) fun r1 =>
  if r1 = 0 then
    some (0, pF, pL)
  else
    ob (fX3_isSpan a1 a2) fun r3 =>
    if r3 = 0 then
      some (0, pF, pL)
    else
      ob2 (fX0_pinSpan pF pL a0 a1 a2) fun pF5 pL5 =>
      some (1, pF5, pL5)
set_option maxRecDepth 100000 in
set_option maxHeartbeats 4000000 in
theorem kX3_pinIfAllowed (l : Launch) (g : zG) (h0 h1 h2 h3 h4 : Nat) (b : Nat → Int32) (pF : Nat → Int32) (pL : Nat → Int32) (st : Nat → Int32) (tm : Int32) (qt : Int32) (cm : Int32) (ds : Int32) (dr : Int32) (a0 : Int32) (a1 : Int32) (a2 : Int32) {r : Int32} {pF' : Nat → Int32} {pL' : Nat → Int32} (h : fX3_pinIfAllowed pF pL a0 a1 a2 = some (r, pF', pL')) : Mw l g yX3_pinIfAllowed wsX3_pinIfAllowed { frames := 2, cells := 0, slots := 0, locals := 41 } [.int a0, .int a1, .int a2, .ref h0] (zD g h0 h1 h2 h3 h4 b pF pL st tm qt cm ds dr) (zWi g (zD g h0 h1 h2 h3 h4 b pF' pL' st tm qt cm ds dr) r) := by
  refine zw_in (cc := cX3_pinIfAllowed) (maxL := 4) (ret := (some .boolean)) (by decide) rfl (Nat.le_of_ble_eq_true rfl) ?_
  intro p e s m below meth c hx hb hr hml hts hown hlocks hK A hA hP hD hS ls hl
  replace hl : lv_has ls 4 [(0, .int a0), (1, .int a1), (2, .int a2), (3, .ref h0)] := hl
  unfold fX3_pinIfAllowed at h
  refine lv_iload_n hx hb dX3_pinIfAllowed_0 rfl (lv_at hl 0 rfl) ?_
  obtain ⟨r1, e1, h⟩ := zb h
  refine zS (As := [.int a0]) (rest := []) (zQi_q _) ⟨hx, hb, hml, hown, hts⟩ (kX3_isPin l g a0 e1) (va_cwS 1 hts gX3_pinIfAllowed_X3_isPin rfl rfl rfl hdS_X3_isPin ⟨Nat.le_of_ble_eq_true rfl, Nat.le_of_ble_eq_true rfl⟩) hK hP [] rfl rfl hl.1 rfl (Nat.le_of_ble_eq_true rfl) ⟨Nat.zero_le _, Nat.zero_le _⟩ dX3_pinIfAllowed_1 ?_
  refine lv_if_eq (tgt := 15) hx hb dX3_pinIfAllowed_4 (by decide) (fun c2 => ?_) (fun c2 => ?_)
  · replace h := zt c2 h
    refine lv_iconst (v := 0) hx hb dX3_pinIfAllowed_15 (by decide) ?_
    cases h
    exact zw_z hx hb hr hlocks (by decide) hP hS dX3_pinIfAllowed_16
  · replace h := zf c2 h
    refine lv_iload_n hx hb dX3_pinIfAllowed_7 rfl (lv_at hl 1 rfl) ?_
    refine lv_iload_n hx hb dX3_pinIfAllowed_8 rfl (lv_at hl 2 rfl) ?_
    obtain ⟨r3, e3, h⟩ := zb h
    refine zS (As := [.int a1, .int a2]) (rest := []) (zQi_q _) ⟨hx, hb, hml, hown, hts⟩ (kX3_isSpan l g a1 a2 e3) (va_cwS 2 hts gX3_pinIfAllowed_X3_isSpan rfl rfl rfl hdS_X3_isSpan ⟨Nat.le_of_ble_eq_true rfl, Nat.le_of_ble_eq_true rfl⟩) hK hP [] rfl rfl hl.1 rfl (Nat.le_of_ble_eq_true rfl) ⟨Nat.zero_le _, Nat.zero_le _⟩ dX3_pinIfAllowed_9 ?_
    refine lv_if_ne (tgt := 17) hx hb dX3_pinIfAllowed_12 (by decide) (fun c4 => ?_) (fun c4 => ?_)
    · replace h := zf c4 h
      refine lv_aload_n hx hb dX3_pinIfAllowed_17 rfl (lv_at hl 3 rfl) ?_
      refine lv_iload_n hx hb dX3_pinIfAllowed_18 rfl (lv_at hl 0 rfl) ?_
      refine lv_iload_n hx hb dX3_pinIfAllowed_19 rfl (lv_at hl 1 rfl) ?_
      refine lv_iload_n hx hb dX3_pinIfAllowed_20 rfl (lv_at hl 2 rfl) ?_
      obtain ⟨pF5, pL5, e5, h⟩ := zb2 h
      refine zVw (As := [.int a0, .int a1, .int a2]) (rest := []) (zWv_q g _) ⟨hx, hb, hml, hown, hts⟩ (kX0_pinSpan l g h0 h1 h2 h3 h4 b pF pL st tm qt cm ds dr a0 a1 a2 e5) (cwV 3 hts gX3_pinIfAllowed_X0_pinSpan rfl rfl rfl hdV_X0_pinSpan ⟨Nat.le_of_ble_eq_true rfl, Nat.le_of_ble_eq_true rfl⟩) hK hP hD hS hA [0, 1, 2, 3, 4] (by decide) rfl rfl 0 rfl rfl rfl hl.1 rfl (Nat.le_of_ble_eq_true rfl) ⟨Nat.zero_le _, Nat.zero_le _⟩ dX3_pinIfAllowed_21 (fun H locs hP hD hS => ?_)
      replace hP : zP g (zD g h0 h1 h2 h3 h4 b pF5 pL5 st tm qt cm ds dr) H := hP
      replace hD : va_D A (zD g h0 h1 h2 h3 h4 b pF5 pL5 st tm qt cm ds dr) := hD
      refine lv_iconst (v := 1) hx hb dX3_pinIfAllowed_24 (by decide) ?_
      cases h
      exact zw_z hx hb hr hlocks (by decide) hP hS dX3_pinIfAllowed_25
    · replace h := zt c4 h
      refine lv_iconst (v := 0) hx hb dX3_pinIfAllowed_15 (by decide) ?_
      cases h
      exact zw_z hx hb hr hlocks (by decide) hP hS dX3_pinIfAllowed_16
